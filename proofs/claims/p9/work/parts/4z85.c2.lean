theorem TX0_wrongAt_s6 {p2 : (Nat → Int64)} {p3 x0_lineCount x0_goodsCount x0_workCount x0_years : Int32} {x0_lines x0_goods x0_works x0_change x0_coin x0_knownFree : (Nat → Int32)} {x0_isKnown z2 z3 : Int32}  (h_x0_lineCount : (0 ≤ x0_lineCount ∧ x0_lineCount ≤ 20)) (h_x0_goodsCount : (0 ≤ x0_goodsCount ∧ x0_goodsCount ≤ 8)) (h_x0_workCount : (0 ≤ x0_workCount ∧ x0_workCount ≤ 7)) (h_x0_years : (1 ≤ x0_years ∧ x0_years ≤ 30)) (h_x0_lines : (LnOk x0_lines)) (h_x0_goods : (GdOk x0_goods)) (h_x0_works : (WkOk x0_works)) (h_x0_change : (AI 0 99 x0_change)) (h_x0_coin : (AI 0 9 x0_coin)) (h_z3 : (0 ≤ z3)) : Sf (fX0_wrongAt_s6 40 p2 p3 x0_lineCount x0_goodsCount x0_workCount x0_years x0_lines x0_goods x0_works x0_change x0_coin x0_knownFree x0_isKnown z2 z3) (LQ (u2 (fun z2 z3 => (0 ≤ z3))) (u2 (fun z2 z3 => muUp z3)) (muUp z3) ((Sum.elim (fun a => (0 ≤ a)) (fun a => True)))) := by
  unfold fX0_wrongAt_s6
  have h_nat : Int32.ofNat 40 = 40 := rfl
  refine Sf.ite (fun hc1 => ?_) (fun hc1 => ?_)
  · exact Sf.inr trivial
  · refine Sf.ite (fun hc2 => ?_) (fun hc2 => ?_)
    · exact Sf.inr trivial
    · refine Sf.rdb 40 rfl (by grind) (fun v6 e_v6 => ?_)
      clear e_v6
      refine Sf.bind (sX0_workTold h_x0_workCount h_x0_works) ?_
      intro v7 hr3
      have h_v7 : ((-1) ≤ v7 ∧ v7 ≤ 6) := hr3
      refine Sf.ite (fun hc4 => ?_) (fun hc4 => ?_)
      · exact Sf.inl (show (0 ≤ (z3 + 1)) from (by grind)) (muUp_lt hc2)
      · refine Sf.ite (fun hc5 => ?_) (fun hc5 => ?_)
        · refine Sf.someb (fun t9 e_t9 => ?_)
          exact Sf.inl (show (0 ≤ (z3 + 1)) from (by grind)) (muUp_lt hc2)
        · exact Sf.inr (show (0 ≤ z3) from h_z3)
theorem LX0_wrongAt_s6 {n : Nat} {p2 : (Nat → Int64)} {p3 x0_lineCount x0_goodsCount x0_workCount x0_years : Int32} {x0_lines x0_goods x0_works x0_change x0_coin x0_knownFree : (Nat → Int32)} {x0_isKnown z2 z3 : Int32} (hn : 1000000000000 ≤ n) (h_x0_lineCount : (0 ≤ x0_lineCount ∧ x0_lineCount ≤ 20)) (h_x0_goodsCount : (0 ≤ x0_goodsCount ∧ x0_goodsCount ≤ 8)) (h_x0_workCount : (0 ≤ x0_workCount ∧ x0_workCount ≤ 7)) (h_x0_years : (1 ≤ x0_years ∧ x0_years ≤ 30)) (h_x0_lines : (LnOk x0_lines)) (h_x0_goods : (GdOk x0_goods)) (h_x0_works : (WkOk x0_works)) (h_x0_change : (AI 0 99 x0_change)) (h_x0_coin : (AI 0 9 x0_coin)) (h_z3 : (0 ≤ z3)) : Sf (lp (u2 (fX0_wrongAt_s6 40 p2 p3 x0_lineCount x0_goodsCount x0_workCount x0_years x0_lines x0_goods x0_works x0_change x0_coin x0_knownFree x0_isKnown)) n (z2, z3)) ((Sum.elim (fun a => (0 ≤ a)) (fun a => True))) :=
  Sf.loop2 (fun z2 z3 => (0 ≤ z3)) (fun z2 z3 => muUp z3) (fun z2 z3 h => TX0_wrongAt_s6 h_x0_lineCount h_x0_goodsCount h_x0_workCount h_x0_years h_x0_lines h_x0_goods h_x0_works h_x0_change h_x0_coin h) h_z3 (muUp_n hn)
set_option maxHeartbeats 1000000 in
theorem sX0_wrongAt {n : Nat} {x0_lineCount x0_goodsCount x0_workCount x0_years : Int32} {x0_lines x0_goods x0_works x0_change x0_coin x0_knownFree : (Nat → Int32)} {x0_isKnown : Int32} {p2 : (Nat → Int64)} {p3 : Int32} (hn : 1000000000000 ≤ n) (h_x0_lineCount : (0 ≤ x0_lineCount ∧ x0_lineCount ≤ 20)) (h_x0_goodsCount : (0 ≤ x0_goodsCount ∧ x0_goodsCount ≤ 8)) (h_x0_workCount : (0 ≤ x0_workCount ∧ x0_workCount ≤ 7)) (h_x0_years : (1 ≤ x0_years ∧ x0_years ≤ 30)) (h_x0_lines : (LnOk x0_lines)) (h_x0_goods : (GdOk x0_goods)) (h_x0_works : (WkOk x0_works)) (h_x0_change : (AI 0 99 x0_change)) (h_x0_coin : (AI 0 9 x0_coin)) : Sf (fX0_wrongAt n (x0_lineCount, x0_goodsCount, x0_workCount, x0_years, x0_lines, x0_goods, x0_works, x0_change, x0_coin, x0_knownFree, x0_isKnown) 40 p2 p3) (fun r => True) := by
  unfold fX0_wrongAt
  dsimp only [u11]
  refine Sf.bindS (LX0_wrongAt_s6 hn h_x0_lineCount h_x0_goodsCount h_x0_workCount h_x0_years h_x0_lines h_x0_goods h_x0_works h_x0_change h_x0_coin (by decide)) ?_ ?_
  · intro w5 hr1
    have h_w5 : (0 ≤ w5) := hr1
    exact Sf.ok trivial
  · intro _ _
    exact Sf.ok trivial
set_option maxHeartbeats 1000000 in
theorem sX0_costOfYear {n : Nat} {x0_gained x1_left x1_earned : (Nat → Int32)} {x1_turnCost x1_turnWayless : Int32} {x2_edgeA x2_edgeB x2_edgeCost x2_edgeLine x2_change x2_away x2_steps x2_nodes : (Nat → Int32)} {x2_stepCount : Int32} {x2_open : (Nat → Int32)} {x2_openCount : Int32} {x2_seen : Int64} {x2_edgeCount x2_aim x3_lineCount x3_goodsCount x3_workCount x3_years : Int32} {x3_lines x3_goods x3_works x3_change x3_coin x3_knownFree : (Nat → Int32)} {x3_isKnown x4_lineCount x4_goodsCount x4_workCount x4_years : Int32} {x4_lines x4_goods x4_works x4_change x4_coin x4_knownFree : (Nat → Int32)} {x4_isKnown p2 : Int32} (hn : 1000000000000 ≤ n) (h_x2_edgeA : (AI 0 35 x2_edgeA)) (h_x2_edgeB : (AI 0 35 x2_edgeB)) (h_x2_edgeLine : (AI 0 19 x2_edgeLine)) (h_x2_steps : (AI 0 22 x2_steps)) (h_x2_nodes : (AI 0 35 x2_nodes)) (h_x2_stepCount : (0 ≤ x2_stepCount ∧ x2_stepCount ≤ 36)) (h_x2_open : (AI 0 35 x2_open)) (h_x2_openCount : (0 ≤ x2_openCount ∧ x2_openCount ≤ 36)) (h_x2_edgeCount : (0 ≤ x2_edgeCount ∧ x2_edgeCount ≤ 60)) (h_x3_lineCount : (0 ≤ x3_lineCount ∧ x3_lineCount ≤ 20)) (h_x3_goodsCount : (0 ≤ x3_goodsCount ∧ x3_goodsCount ≤ 8)) (h_x3_workCount : (0 ≤ x3_workCount ∧ x3_workCount ≤ 7)) (h_x3_years : (1 ≤ x3_years ∧ x3_years ≤ 30)) (h_x3_lines : (LnOk x3_lines)) (h_x3_goods : (GdOk x3_goods)) (h_x3_works : (WkOk x3_works)) (h_x3_change : (AI 0 99 x3_change)) (h_x3_coin : (AI 0 9 x3_coin)) (h_x4_lineCount : (0 ≤ x4_lineCount ∧ x4_lineCount ≤ 20)) (h_x4_goodsCount : (0 ≤ x4_goodsCount ∧ x4_goodsCount ≤ 8)) (h_x4_workCount : (0 ≤ x4_workCount ∧ x4_workCount ≤ 7)) (h_x4_years : (1 ≤ x4_years ∧ x4_years ≤ 30)) (h_x4_lines : (LnOk x4_lines)) (h_x4_goods : (GdOk x4_goods)) (h_x4_works : (WkOk x4_works)) (h_x4_change : (AI 0 99 x4_change)) (h_x4_coin : (AI 0 9 x4_coin)) : Sf (fX0_costOfYear n x0_gained (x1_left, x1_earned, x1_turnCost, x1_turnWayless) (x2_edgeA, x2_edgeB, x2_edgeCost, x2_edgeLine, x2_change, x2_away, x2_steps, x2_nodes, x2_stepCount, x2_open, x2_openCount, x2_seen, x2_edgeCount, x2_aim) (x3_lineCount, x3_goodsCount, x3_workCount, x3_years, x3_lines, x3_goods, x3_works, x3_change, x3_coin, x3_knownFree, x3_isKnown) (x4_lineCount, x4_goodsCount, x4_workCount, x4_years, x4_lines, x4_goods, x4_works, x4_change, x4_coin, x4_knownFree, x4_isKnown) p2) (fun r => (AI 0 35 r.2.1.1) ∧ (AI 0 35 r.2.1.2.1) ∧ (AI 0 19 r.2.1.2.2.2.1) ∧ (0 ≤ r.2.1.2.2.2.2.2.2.1 ∧ r.2.1.2.2.2.2.2.2.1 ≤ 60) ∧ (0 ≤ r.2.2.1.1 ∧ r.2.2.1.1 ≤ 20) ∧ (0 ≤ r.2.2.1.2.1 ∧ r.2.2.1.2.1 ≤ 8) ∧ (0 ≤ r.2.2.1.2.2.1 ∧ r.2.2.1.2.2.1 ≤ 7) ∧ (1 ≤ r.2.2.1.2.2.2.1 ∧ r.2.2.1.2.2.2.1 ≤ 30) ∧ (LnOk r.2.2.1.2.2.2.2.1) ∧ (GdOk r.2.2.1.2.2.2.2.2.1) ∧ (WkOk r.2.2.1.2.2.2.2.2.2.1) ∧ (AI 0 99 r.2.2.1.2.2.2.2.2.2.2.1) ∧ (AI 0 9 r.2.2.1.2.2.2.2.2.2.2.2.1) ∧ (0 ≤ r.2.2.2.1 ∧ r.2.2.2.1 ≤ 20) ∧ (LnOk r.2.2.2.2.1) ∧ (WkOk r.2.2.2.2.2.1) ∧ (AI 0 99 r.2.2.2.2.2.2.1)) := by
  unfold fX0_costOfYear
  dsimp only [u11, u14, u4]
  refine Sf.bind (sX1_hasWork h_x4_lineCount h_x4_goodsCount h_x4_workCount h_x4_years h_x4_lines h_x4_goods h_x4_works h_x4_change h_x4_coin) ?_
  intro v1 hr1
  have hx_v1 : ((v1 = 1 ∧ 0 ≤ p2 ∧ p2 < x4_workCount) ∨ (v1 = 0 ∧ ¬ (0 ≤ p2 ∧ p2 < x4_workCount))) := hr1
  refine Sf.ite (fun hc2 => ?_) (fun hc2 => ?_)
  · unfold fX0_costOfYear_j22
    refine Sf.bind (sX0_freeWith hn h_x2_edgeA h_x2_edgeB h_x2_edgeLine h_x2_steps h_x2_nodes h_x2_stepCount h_x2_open h_x2_openCount h_x2_edgeCount h_x3_lineCount h_x3_goodsCount h_x3_workCount h_x3_years h_x3_lines h_x3_goods h_x3_works h_x3_change h_x3_coin h_x4_lineCount h_x4_goodsCount h_x4_workCount h_x4_years h_x4_lines h_x4_goods h_x4_works h_x4_change h_x4_coin) ?_
    rintro ⟨v9, ⟨g11, g12, g13, g14, g15, g16, g17, g18⟩, ⟨g20, g21, g22, g23, g24, g25, g26, g27, g28, g29⟩, ⟨g31, g32, g33, g34, g35⟩⟩ hr3
    obtain ⟨h_g11, h_g12, h_g14, h_g17, h_g20, h_g21, h_g22, h_g23, h_g24, h_g25, h_g26, h_g27, h_g28, h_g31, h_g32, h_g33⟩ : (AI 0 35 g11) ∧ (AI 0 35 g12) ∧ (AI 0 19 g14) ∧ (0 ≤ g17 ∧ g17 ≤ 60) ∧ (0 ≤ g20 ∧ g20 ≤ 20) ∧ (0 ≤ g21 ∧ g21 ≤ 8) ∧ (0 ≤ g22 ∧ g22 ≤ 7) ∧ (1 ≤ g23 ∧ g23 ≤ 30) ∧ (LnOk g24) ∧ (GdOk g25) ∧ (WkOk g26) ∧ (AI 0 99 g27) ∧ (AI 0 9 g28) ∧ (0 ≤ g31 ∧ g31 ≤ 20) ∧ (LnOk g32) ∧ (AI 0 99 g33) := hr3
    dsimp only [u10, u4, u5, u8]
    exact Sf.ok (show (AI 0 35 g11) ∧ (AI 0 35 g12) ∧ (AI 0 19 g14) ∧ (0 ≤ g17 ∧ g17 ≤ 60) ∧ (0 ≤ g20 ∧ g20 ≤ 20) ∧ (0 ≤ g21 ∧ g21 ≤ 8) ∧ (0 ≤ g22 ∧ g22 ≤ 7) ∧ (1 ≤ g23 ∧ g23 ≤ 30) ∧ (LnOk g24) ∧ (GdOk g25) ∧ (WkOk g26) ∧ (AI 0 99 g27) ∧ (AI 0 9 g28) ∧ (0 ≤ g31 ∧ g31 ≤ 20) ∧ (LnOk g32) ∧ (WkOk x4_works) ∧ (AI 0 99 g33) from ⟨h_g11, h_g12, h_g14, h_g17, h_g20, h_g21, h_g22, h_g23, h_g24, h_g25, h_g26, h_g27, h_g28, h_g31, h_g32, h_x4_works, h_g33⟩)
  · refine Sf.bind (s_ofWork h_x4_works (by grind) (by decide)) ?_
    intro v37 hr4
    obtain ⟨h_v37, e_v37⟩ : (0 ≤ v37 ∧ v37 ≤ 9999) ∧ v37 = x4_works (p2.toNatClampNeg * 5 + 3) := hr4
    clear e_v37
    refine Sf.bind (sX1_performForGood h_x4_lineCount h_x4_workCount h_x4_lines h_x4_works h_x4_change) ?_
    rintro ⟨g40, g41, g42, g43, g44⟩ hr5
    obtain ⟨h_g40, h_g41, h_g42, h_g43⟩ : (0 ≤ g40 ∧ g40 ≤ 20) ∧ (LnOk g41) ∧ (WkOk g42) ∧ (AI 0 99 g43) := hr5
    dsimp only [u5]
    unfold fX0_costOfYear_j22
    refine Sf.bind (sX0_freeWith hn h_x2_edgeA h_x2_edgeB h_x2_edgeLine h_x2_steps h_x2_nodes h_x2_stepCount h_x2_open h_x2_openCount h_x2_edgeCount h_x3_lineCount h_x3_goodsCount h_x3_workCount h_x3_years h_x3_lines h_x3_goods h_x3_works h_x3_change h_x3_coin h_g40 h_x4_goodsCount h_x4_workCount h_x4_years h_g41 h_x4_goods h_g42 h_g43 h_x4_coin) ?_
    rintro ⟨v9, ⟨g11, g12, g13, g14, g15, g16, g17, g18⟩, ⟨g20, g21, g22, g23, g24, g25, g26, g27, g28, g29⟩, ⟨g31, g32, g33, g34, g35⟩⟩ hr6
    obtain ⟨h_g11, h_g12, h_g14, h_g17, h_g20, h_g21, h_g22, h_g23, h_g24, h_g25, h_g26, h_g27, h_g28, h_g31, h_g32, h_g33⟩ : (AI 0 35 g11) ∧ (AI 0 35 g12) ∧ (AI 0 19 g14) ∧ (0 ≤ g17 ∧ g17 ≤ 60) ∧ (0 ≤ g20 ∧ g20 ≤ 20) ∧ (0 ≤ g21 ∧ g21 ≤ 8) ∧ (0 ≤ g22 ∧ g22 ≤ 7) ∧ (1 ≤ g23 ∧ g23 ≤ 30) ∧ (LnOk g24) ∧ (GdOk g25) ∧ (WkOk g26) ∧ (AI 0 99 g27) ∧ (AI 0 9 g28) ∧ (0 ≤ g31 ∧ g31 ≤ 20) ∧ (LnOk g32) ∧ (AI 0 99 g33) := hr6
    dsimp only [u10, u4, u5, u8]
    exact Sf.ok (show (AI 0 35 g11) ∧ (AI 0 35 g12) ∧ (AI 0 19 g14) ∧ (0 ≤ g17 ∧ g17 ≤ 60) ∧ (0 ≤ g20 ∧ g20 ≤ 20) ∧ (0 ≤ g21 ∧ g21 ≤ 8) ∧ (0 ≤ g22 ∧ g22 ≤ 7) ∧ (1 ≤ g23 ∧ g23 ≤ 30) ∧ (LnOk g24) ∧ (GdOk g25) ∧ (WkOk g26) ∧ (AI 0 99 g27) ∧ (AI 0 9 g28) ∧ (0 ≤ g31 ∧ g31 ≤ 20) ∧ (LnOk g32) ∧ (WkOk g42) ∧ (AI 0 99 g33) from ⟨h_g11, h_g12, h_g14, h_g17, h_g20, h_g21, h_g22, h_g23, h_g24, h_g25, h_g26, h_g27, h_g28, h_g31, h_g32, h_g42, h_g33⟩)
theorem TX0_costOfPlan_s14 {n : Nat} {p2 : (Nat → Int64)} {p3 : Int32} {x0_gained x2_left x2_earned : (Nat → Int32)} {x2_turnCost x2_turnWayless : Int32} {x3_steps x3_nodes : (Nat → Int32)} {x3_stepCount : Int32} {x3_open : (Nat → Int32)} {x3_openCount : Int32} {x3_seen : Int64} {x4_knownFree : (Nat → Int32)} {g3 g4 g5 : Int32} {g7 g10 : (Nat → Int32)} {z14 z15 z16 : Int32} {z17 z18 z19 z20 : (Nat → Int32)} {z21 : Int32} {z22 z23 z24 z25 z26 z27 : (Nat → Int32)} {z28 z29 z30 z31 z32 z33 : Int32} {z34 z35 z36 z37 z38 : (Nat → Int32)} {z39 : Int32} (hn : 1000000000000 ≤ n) (h_x3_steps : (AI 0 22 x3_steps)) (h_x3_nodes : (AI 0 35 x3_nodes)) (h_x3_stepCount : (0 ≤ x3_stepCount ∧ x3_stepCount ≤ 36)) (h_x3_open : (AI 0 35 x3_open)) (h_x3_openCount : (0 ≤ x3_openCount ∧ x3_openCount ≤ 36)) (h_g3 : (0 ≤ g3 ∧ g3 ≤ 8)) (h_g4 : (0 ≤ g4 ∧ g4 ≤ 7)) (h_g5 : (1 ≤ g5 ∧ g5 ≤ 30)) (h_g7 : (GdOk g7)) (h_g10 : (AI 0 9 g10)) (h_z15 : (0 ≤ z15)) (h_z16 : (0 ≤ z16 ∧ z16 ≤ 20)) (h_z17 : (LnOk z17)) (h_z18 : (WkOk z18)) (h_z19 : (AI 0 99 z19)) (h_z22 : (AI 0 35 z22)) (h_z23 : (AI 0 35 z23)) (h_z25 : (AI 0 19 z25)) (h_z28 : (0 ≤ z28 ∧ z28 ≤ 60)) (h_z30 : (0 ≤ z30 ∧ z30 ≤ 20)) (h_z31 : (0 ≤ z31 ∧ z31 ≤ 8)) (h_z32 : (0 ≤ z32 ∧ z32 ≤ 7)) (h_z33 : (1 ≤ z33 ∧ z33 ≤ 30)) (h_z34 : (LnOk z34)) (h_z35 : (GdOk z35)) (h_z36 : (WkOk z36)) (h_z37 : (AI 0 99 z37)) (h_z38 : (AI 0 9 z38)) : Sf (fX0_costOfPlan_s14 n 40 p2 p3 x0_gained x2_left x2_earned x2_turnCost x2_turnWayless x3_steps x3_nodes x3_stepCount x3_open x3_openCount x3_seen x4_knownFree g3 g4 g5 g7 g10 z14 z15 z16 z17 z18 z19 z20 z21 z22 z23 z24 z25 z26 z27 z28 z29 z30 z31 z32 z33 z34 z35 z36 z37 z38 z39) (LQ (u26 (fun z14 z15 z16 z17 z18 z19 z20 z21 z22 z23 z24 z25 z26 z27 z28 z29 z30 z31 z32 z33 z34 z35 z36 z37 z38 z39 => (0 ≤ z15) ∧ (0 ≤ z16 ∧ z16 ≤ 20) ∧ (LnOk z17) ∧ (WkOk z18) ∧ (AI 0 99 z19) ∧ (AI 0 35 z22) ∧ (AI 0 35 z23) ∧ (AI 0 19 z25) ∧ (0 ≤ z28 ∧ z28 ≤ 60) ∧ (0 ≤ z30 ∧ z30 ≤ 20) ∧ (0 ≤ z31 ∧ z31 ≤ 8) ∧ (0 ≤ z32 ∧ z32 ≤ 7) ∧ (1 ≤ z33 ∧ z33 ≤ 30) ∧ (LnOk z34) ∧ (GdOk z35) ∧ (WkOk z36) ∧ (AI 0 99 z37) ∧ (AI 0 9 z38))) (u26 (fun z14 z15 z16 z17 z18 z19 z20 z21 z22 z23 z24 z25 z26 z27 z28 z29 z30 z31 z32 z33 z34 z35 z36 z37 z38 z39 => muUp z15)) (muUp z15) (fun e => (0 ≤ e.2.1 ∧ e.2.1 ≤ 20) ∧ (LnOk e.2.2.1) ∧ (WkOk e.2.2.2.1) ∧ (AI 0 99 e.2.2.2.2.1) ∧ (AI 0 35 e.2.2.2.2.2.2.2.1) ∧ (AI 0 35 e.2.2.2.2.2.2.2.2.1) ∧ (AI 0 19 e.2.2.2.2.2.2.2.2.2.2.1) ∧ (0 ≤ e.2.2.2.2.2.2.2.2.2.2.2.2.2.1 ∧ e.2.2.2.2.2.2.2.2.2.2.2.2.2.1 ≤ 60) ∧ (0 ≤ e.2.2.2.2.2.2.2.2.2.2.2.2.2.2.2.1 ∧ e.2.2.2.2.2.2.2.2.2.2.2.2.2.2.2.1 ≤ 20) ∧ (0 ≤ e.2.2.2.2.2.2.2.2.2.2.2.2.2.2.2.2.1 ∧ e.2.2.2.2.2.2.2.2.2.2.2.2.2.2.2.2.1 ≤ 8) ∧ (0 ≤ e.2.2.2.2.2.2.2.2.2.2.2.2.2.2.2.2.2.1 ∧ e.2.2.2.2.2.2.2.2.2.2.2.2.2.2.2.2.2.1 ≤ 7) ∧ (1 ≤ e.2.2.2.2.2.2.2.2.2.2.2.2.2.2.2.2.2.2.1 ∧ e.2.2.2.2.2.2.2.2.2.2.2.2.2.2.2.2.2.2.1 ≤ 30) ∧ (LnOk e.2.2.2.2.2.2.2.2.2.2.2.2.2.2.2.2.2.2.2.1) ∧ (GdOk e.2.2.2.2.2.2.2.2.2.2.2.2.2.2.2.2.2.2.2.2.1) ∧ (WkOk e.2.2.2.2.2.2.2.2.2.2.2.2.2.2.2.2.2.2.2.2.2.1) ∧ (AI 0 99 e.2.2.2.2.2.2.2.2.2.2.2.2.2.2.2.2.2.2.2.2.2.2.1) ∧ (AI 0 9 e.2.2.2.2.2.2.2.2.2.2.2.2.2.2.2.2.2.2.2.2.2.2.2.1))) := by
  unfold fX0_costOfPlan_s14
  have h_nat : Int32.ofNat 40 = 40 := rfl
  refine Sf.ite (fun hc1 => ?_) (fun hc1 => ?_)
  · exact Sf.inr (show (0 ≤ z16 ∧ z16 ≤ 20) ∧ (LnOk z17) ∧ (WkOk z18) ∧ (AI 0 99 z19) ∧ (AI 0 35 z22) ∧ (AI 0 35 z23) ∧ (AI 0 19 z25) ∧ (0 ≤ z28 ∧ z28 ≤ 60) ∧ (0 ≤ z30 ∧ z30 ≤ 20) ∧ (0 ≤ z31 ∧ z31 ≤ 8) ∧ (0 ≤ z32 ∧ z32 ≤ 7) ∧ (1 ≤ z33 ∧ z33 ≤ 30) ∧ (LnOk z34) ∧ (GdOk z35) ∧ (WkOk z36) ∧ (AI 0 99 z37) ∧ (AI 0 9 z38) from ⟨h_z16, h_z17, h_z18, h_z19, h_z22, h_z23, h_z25, h_z28, h_z30, h_z31, h_z32, h_z33, h_z34, h_z35, h_z36, h_z37, h_z38⟩)
  · refine Sf.ite (fun hc2 => ?_) (fun hc2 => ?_)
    · exact Sf.inr (show (0 ≤ z16 ∧ z16 ≤ 20) ∧ (LnOk z17) ∧ (WkOk z18) ∧ (AI 0 99 z19) ∧ (AI 0 35 z22) ∧ (AI 0 35 z23) ∧ (AI 0 19 z25) ∧ (0 ≤ z28 ∧ z28 ≤ 60) ∧ (0 ≤ z30 ∧ z30 ≤ 20) ∧ (0 ≤ z31 ∧ z31 ≤ 8) ∧ (0 ≤ z32 ∧ z32 ≤ 7) ∧ (1 ≤ z33 ∧ z33 ≤ 30) ∧ (LnOk z34) ∧ (GdOk z35) ∧ (WkOk z36) ∧ (AI 0 99 z37) ∧ (AI 0 9 z38) from ⟨h_z16, h_z17, h_z18, h_z19, h_z22, h_z23, h_z25, h_z28, h_z30, h_z31, h_z32, h_z33, h_z34, h_z35, h_z36, h_z37, h_z38⟩)
    · refine Sf.rdb 40 rfl (by grind) (fun v66 e_v66 => ?_)
      clear e_v66
      refine Sf.bind (sX0_workTold h_g4 h_z18) ?_
      intro v67 hr3
      have h_v67 : ((-1) ≤ v67 ∧ v67 ≤ 6) := hr3
      refine Sf.bind (sX0_costOfYear hn h_z22 h_z23 h_z25 h_x3_steps h_x3_nodes h_x3_stepCount h_x3_open h_x3_openCount h_z28 h_z30 h_z31 h_z32 h_z33 h_z34 h_z35 h_z36 h_z37 h_z38 h_z16 h_g3 h_g4 h_g5 h_z17 h_g7 h_z18 h_z19 h_g10) ?_
      rintro ⟨v69, ⟨g71, g72, g73, g74, g75, g76, g77, g78⟩, ⟨g80, g81, g82, g83, g84, g85, g86, g87, g88, g89⟩, ⟨g91, g92, g93, g94, g95, g96⟩⟩ hr4
      obtain ⟨h_g71, h_g72, h_g74, h_g77, h_g80, h_g81, h_g82, h_g83, h_g84, h_g85, h_g86, h_g87, h_g88, h_g91, h_g92, h_g93, h_g94⟩ : (AI 0 35 g71) ∧ (AI 0 35 g72) ∧ (AI 0 19 g74) ∧ (0 ≤ g77 ∧ g77 ≤ 60) ∧ (0 ≤ g80 ∧ g80 ≤ 20) ∧ (0 ≤ g81 ∧ g81 ≤ 8) ∧ (0 ≤ g82 ∧ g82 ≤ 7) ∧ (1 ≤ g83 ∧ g83 ≤ 30) ∧ (LnOk g84) ∧ (GdOk g85) ∧ (WkOk g86) ∧ (AI 0 99 g87) ∧ (AI 0 9 g88) ∧ (0 ≤ g91 ∧ g91 ≤ 20) ∧ (LnOk g92) ∧ (WkOk g93) ∧ (AI 0 99 g94) := hr4
      dsimp only [u10, u4, u6, u8]
      exact Sf.inl (show (0 ≤ (z15 + 1)) ∧ (0 ≤ g91 ∧ g91 ≤ 20) ∧ (LnOk g92) ∧ (WkOk g93) ∧ (AI 0 99 g94) ∧ (AI 0 35 g71) ∧ (AI 0 35 g72) ∧ (AI 0 19 g74) ∧ (0 ≤ g77 ∧ g77 ≤ 60) ∧ (0 ≤ g80 ∧ g80 ≤ 20) ∧ (0 ≤ g81 ∧ g81 ≤ 8) ∧ (0 ≤ g82 ∧ g82 ≤ 7) ∧ (1 ≤ g83 ∧ g83 ≤ 30) ∧ (LnOk g84) ∧ (GdOk g85) ∧ (WkOk g86) ∧ (AI 0 99 g87) ∧ (AI 0 9 g88) from ⟨(by grind), h_g91, h_g92, h_g93, h_g94, h_g71, h_g72, h_g74, h_g77, h_g80, h_g81, h_g82, h_g83, h_g84, h_g85, h_g86, h_g87, h_g88⟩) (muUp_lt hc2)
theorem LX0_costOfPlan_s14 {n : Nat} {p2 : (Nat → Int64)} {p3 : Int32} {x0_gained x2_left x2_earned : (Nat → Int32)} {x2_turnCost x2_turnWayless : Int32} {x3_steps x3_nodes : (Nat → Int32)} {x3_stepCount : Int32} {x3_open : (Nat → Int32)} {x3_openCount : Int32} {x3_seen : Int64} {x4_knownFree : (Nat → Int32)} {g3 g4 g5 : Int32} {g7 g10 : (Nat → Int32)} {z14 z15 z16 : Int32} {z17 z18 z19 z20 : (Nat → Int32)} {z21 : Int32} {z22 z23 z24 z25 z26 z27 : (Nat → Int32)} {z28 z29 z30 z31 z32 z33 : Int32} {z34 z35 z36 z37 z38 : (Nat → Int32)} {z39 : Int32} (hn : 1000000000000 ≤ n) (h_x3_steps : (AI 0 22 x3_steps)) (h_x3_nodes : (AI 0 35 x3_nodes)) (h_x3_stepCount : (0 ≤ x3_stepCount ∧ x3_stepCount ≤ 36)) (h_x3_open : (AI 0 35 x3_open)) (h_x3_openCount : (0 ≤ x3_openCount ∧ x3_openCount ≤ 36)) (h_g3 : (0 ≤ g3 ∧ g3 ≤ 8)) (h_g4 : (0 ≤ g4 ∧ g4 ≤ 7)) (h_g5 : (1 ≤ g5 ∧ g5 ≤ 30)) (h_g7 : (GdOk g7)) (h_g10 : (AI 0 9 g10)) (h_z15 : (0 ≤ z15)) (h_z16 : (0 ≤ z16 ∧ z16 ≤ 20)) (h_z17 : (LnOk z17)) (h_z18 : (WkOk z18)) (h_z19 : (AI 0 99 z19)) (h_z22 : (AI 0 35 z22)) (h_z23 : (AI 0 35 z23)) (h_z25 : (AI 0 19 z25)) (h_z28 : (0 ≤ z28 ∧ z28 ≤ 60)) (h_z30 : (0 ≤ z30 ∧ z30 ≤ 20)) (h_z31 : (0 ≤ z31 ∧ z31 ≤ 8)) (h_z32 : (0 ≤ z32 ∧ z32 ≤ 7)) (h_z33 : (1 ≤ z33 ∧ z33 ≤ 30)) (h_z34 : (LnOk z34)) (h_z35 : (GdOk z35)) (h_z36 : (WkOk z36)) (h_z37 : (AI 0 99 z37)) (h_z38 : (AI 0 9 z38)) : Sf (lp (u26 (fX0_costOfPlan_s14 n 40 p2 p3 x0_gained x2_left x2_earned x2_turnCost x2_turnWayless x3_steps x3_nodes x3_stepCount x3_open x3_openCount x3_seen x4_knownFree g3 g4 g5 g7 g10)) n (z14, z15, z16, z17, z18, z19, z20, z21, z22, z23, z24, z25, z26, z27, z28, z29, z30, z31, z32, z33, z34, z35, z36, z37, z38, z39)) (fun e => (0 ≤ e.2.1 ∧ e.2.1 ≤ 20) ∧ (LnOk e.2.2.1) ∧ (WkOk e.2.2.2.1) ∧ (AI 0 99 e.2.2.2.2.1) ∧ (AI 0 35 e.2.2.2.2.2.2.2.1) ∧ (AI 0 35 e.2.2.2.2.2.2.2.2.1) ∧ (AI 0 19 e.2.2.2.2.2.2.2.2.2.2.1) ∧ (0 ≤ e.2.2.2.2.2.2.2.2.2.2.2.2.2.1 ∧ e.2.2.2.2.2.2.2.2.2.2.2.2.2.1 ≤ 60) ∧ (0 ≤ e.2.2.2.2.2.2.2.2.2.2.2.2.2.2.2.1 ∧ e.2.2.2.2.2.2.2.2.2.2.2.2.2.2.2.1 ≤ 20) ∧ (0 ≤ e.2.2.2.2.2.2.2.2.2.2.2.2.2.2.2.2.1 ∧ e.2.2.2.2.2.2.2.2.2.2.2.2.2.2.2.2.1 ≤ 8) ∧ (0 ≤ e.2.2.2.2.2.2.2.2.2.2.2.2.2.2.2.2.2.1 ∧ e.2.2.2.2.2.2.2.2.2.2.2.2.2.2.2.2.2.1 ≤ 7) ∧ (1 ≤ e.2.2.2.2.2.2.2.2.2.2.2.2.2.2.2.2.2.2.1 ∧ e.2.2.2.2.2.2.2.2.2.2.2.2.2.2.2.2.2.2.1 ≤ 30) ∧ (LnOk e.2.2.2.2.2.2.2.2.2.2.2.2.2.2.2.2.2.2.2.1) ∧ (GdOk e.2.2.2.2.2.2.2.2.2.2.2.2.2.2.2.2.2.2.2.2.1) ∧ (WkOk e.2.2.2.2.2.2.2.2.2.2.2.2.2.2.2.2.2.2.2.2.2.1) ∧ (AI 0 99 e.2.2.2.2.2.2.2.2.2.2.2.2.2.2.2.2.2.2.2.2.2.2.1) ∧ (AI 0 9 e.2.2.2.2.2.2.2.2.2.2.2.2.2.2.2.2.2.2.2.2.2.2.2.1)) :=
  Sf.loop26 (fun z14 z15 z16 z17 z18 z19 z20 z21 z22 z23 z24 z25 z26 z27 z28 z29 z30 z31 z32 z33 z34 z35 z36 z37 z38 z39 => (0 ≤ z15) ∧ (0 ≤ z16 ∧ z16 ≤ 20) ∧ (LnOk z17) ∧ (WkOk z18) ∧ (AI 0 99 z19) ∧ (AI 0 35 z22) ∧ (AI 0 35 z23) ∧ (AI 0 19 z25) ∧ (0 ≤ z28 ∧ z28 ≤ 60) ∧ (0 ≤ z30 ∧ z30 ≤ 20) ∧ (0 ≤ z31 ∧ z31 ≤ 8) ∧ (0 ≤ z32 ∧ z32 ≤ 7) ∧ (1 ≤ z33 ∧ z33 ≤ 30) ∧ (LnOk z34) ∧ (GdOk z35) ∧ (WkOk z36) ∧ (AI 0 99 z37) ∧ (AI 0 9 z38)) (fun z14 z15 z16 z17 z18 z19 z20 z21 z22 z23 z24 z25 z26 z27 z28 z29 z30 z31 z32 z33 z34 z35 z36 z37 z38 z39 => muUp z15) (fun z14 z15 z16 z17 z18 z19 z20 z21 z22 z23 z24 z25 z26 z27 z28 z29 z30 z31 z32 z33 z34 z35 z36 z37 z38 z39 h => TX0_costOfPlan_s14 hn h_x3_steps h_x3_nodes h_x3_stepCount h_x3_open h_x3_openCount h_g3 h_g4 h_g5 h_g7 h_g10 h.1 h.2.1 h.2.2.1 h.2.2.2.1 h.2.2.2.2.1 h.2.2.2.2.2.1 h.2.2.2.2.2.2.1 h.2.2.2.2.2.2.2.1 h.2.2.2.2.2.2.2.2.1 h.2.2.2.2.2.2.2.2.2.1 h.2.2.2.2.2.2.2.2.2.2.1 h.2.2.2.2.2.2.2.2.2.2.2.1 h.2.2.2.2.2.2.2.2.2.2.2.2.1 h.2.2.2.2.2.2.2.2.2.2.2.2.2.1 h.2.2.2.2.2.2.2.2.2.2.2.2.2.2.1 h.2.2.2.2.2.2.2.2.2.2.2.2.2.2.2.1 h.2.2.2.2.2.2.2.2.2.2.2.2.2.2.2.2.1 h.2.2.2.2.2.2.2.2.2.2.2.2.2.2.2.2.2) (show (0 ≤ z15) ∧ (0 ≤ z16 ∧ z16 ≤ 20) ∧ (LnOk z17) ∧ (WkOk z18) ∧ (AI 0 99 z19) ∧ (AI 0 35 z22) ∧ (AI 0 35 z23) ∧ (AI 0 19 z25) ∧ (0 ≤ z28 ∧ z28 ≤ 60) ∧ (0 ≤ z30 ∧ z30 ≤ 20) ∧ (0 ≤ z31 ∧ z31 ≤ 8) ∧ (0 ≤ z32 ∧ z32 ≤ 7) ∧ (1 ≤ z33 ∧ z33 ≤ 30) ∧ (LnOk z34) ∧ (GdOk z35) ∧ (WkOk z36) ∧ (AI 0 99 z37) ∧ (AI 0 9 z38) from ⟨h_z15, h_z16, h_z17, h_z18, h_z19, h_z22, h_z23, h_z25, h_z28, h_z30, h_z31, h_z32, h_z33, h_z34, h_z35, h_z36, h_z37, h_z38⟩) (muUp_n hn)
set_option maxHeartbeats 1000000 in
theorem sX0_costOfPlan {n : Nat} {x0_gained : (Nat → Int32)} {x1_lineCount x1_goodsCount x1_workCount x1_years : Int32} {x1_lines x1_goods x1_works x1_change x1_coin x1_knownFree : (Nat → Int32)} {x1_isKnown : Int32} {x2_left x2_earned : (Nat → Int32)} {x2_turnCost x2_turnWayless : Int32} {x3_edgeA x3_edgeB x3_edgeCost x3_edgeLine x3_change x3_away x3_steps x3_nodes : (Nat → Int32)} {x3_stepCount : Int32} {x3_open : (Nat → Int32)} {x3_openCount : Int32} {x3_seen : Int64} {x3_edgeCount x3_aim x4_lineCount x4_goodsCount x4_workCount x4_years : Int32} {x4_lines x4_goods x4_works x4_change x4_coin x4_knownFree : (Nat → Int32)} {x4_isKnown x5_lineCount x5_goodsCount x5_workCount x5_years : Int32} {x5_lines x5_goods x5_works x5_change x5_coin x5_knownFree : (Nat → Int32)} {x5_isKnown : Int32} {p2 : (Nat → Int64)} {p3 : Int32} (hn : 1000000000000 ≤ n) (h_x1_lineCount : (0 ≤ x1_lineCount ∧ x1_lineCount ≤ 20)) (h_x1_goodsCount : (0 ≤ x1_goodsCount ∧ x1_goodsCount ≤ 8)) (h_x1_workCount : (0 ≤ x1_workCount ∧ x1_workCount ≤ 7)) (h_x1_years : (1 ≤ x1_years ∧ x1_years ≤ 30)) (h_x1_lines : (LnOk x1_lines)) (h_x1_goods : (GdOk x1_goods)) (h_x1_works : (WkOk x1_works)) (h_x1_change : (AI 0 99 x1_change)) (h_x1_coin : (AI 0 9 x1_coin)) (h_x3_edgeA : (AI 0 35 x3_edgeA)) (h_x3_edgeB : (AI 0 35 x3_edgeB)) (h_x3_edgeLine : (AI 0 19 x3_edgeLine)) (h_x3_steps : (AI 0 22 x3_steps)) (h_x3_nodes : (AI 0 35 x3_nodes)) (h_x3_stepCount : (0 ≤ x3_stepCount ∧ x3_stepCount ≤ 36)) (h_x3_open : (AI 0 35 x3_open)) (h_x3_openCount : (0 ≤ x3_openCount ∧ x3_openCount ≤ 36)) (h_x3_edgeCount : (0 ≤ x3_edgeCount ∧ x3_edgeCount ≤ 60)) (h_x4_lineCount : (0 ≤ x4_lineCount ∧ x4_lineCount ≤ 20)) (h_x4_goodsCount : (0 ≤ x4_goodsCount ∧ x4_goodsCount ≤ 8)) (h_x4_workCount : (0 ≤ x4_workCount ∧ x4_workCount ≤ 7)) (h_x4_years : (1 ≤ x4_years ∧ x4_years ≤ 30)) (h_x4_lines : (LnOk x4_lines)) (h_x4_goods : (GdOk x4_goods)) (h_x4_works : (WkOk x4_works)) (h_x4_change : (AI 0 99 x4_change)) (h_x4_coin : (AI 0 9 x4_coin)) (h_x5_lineCount : (0 ≤ x5_lineCount ∧ x5_lineCount ≤ 20)) (h_x5_goodsCount : (0 ≤ x5_goodsCount ∧ x5_goodsCount ≤ 8)) (h_x5_workCount : (0 ≤ x5_workCount ∧ x5_workCount ≤ 7)) (h_x5_years : (1 ≤ x5_years ∧ x5_years ≤ 30)) (h_x5_lines : (LnOk x5_lines)) (h_x5_goods : (GdOk x5_goods)) (h_x5_works : (WkOk x5_works)) (h_x5_change : (AI 0 99 x5_change)) (h_x5_coin : (AI 0 9 x5_coin)) : Sf (fX0_costOfPlan n x0_gained (x1_lineCount, x1_goodsCount, x1_workCount, x1_years, x1_lines, x1_goods, x1_works, x1_change, x1_coin, x1_knownFree, x1_isKnown) (x2_left, x2_earned, x2_turnCost, x2_turnWayless) (x3_edgeA, x3_edgeB, x3_edgeCost, x3_edgeLine, x3_change, x3_away, x3_steps, x3_nodes, x3_stepCount, x3_open, x3_openCount, x3_seen, x3_edgeCount, x3_aim) (x4_lineCount, x4_goodsCount, x4_workCount, x4_years, x4_lines, x4_goods, x4_works, x4_change, x4_coin, x4_knownFree, x4_isKnown) (x5_lineCount, x5_goodsCount, x5_workCount, x5_years, x5_lines, x5_goods, x5_works, x5_change, x5_coin, x5_knownFree, x5_isKnown) 40 p2 p3) (fun r => (0 ≤ r.2.1.1 ∧ r.2.1.1 ≤ 20) ∧ (0 ≤ r.2.1.2.1 ∧ r.2.1.2.1 ≤ 8) ∧ (0 ≤ r.2.1.2.2.1 ∧ r.2.1.2.2.1 ≤ 7) ∧ (1 ≤ r.2.1.2.2.2.1 ∧ r.2.1.2.2.2.1 ≤ 30) ∧ (LnOk r.2.1.2.2.2.2.1) ∧ (GdOk r.2.1.2.2.2.2.2.1) ∧ (WkOk r.2.1.2.2.2.2.2.2.1) ∧ (AI 0 99 r.2.1.2.2.2.2.2.2.2.1) ∧ (AI 0 9 r.2.1.2.2.2.2.2.2.2.2.1) ∧ (AI 0 35 r.2.2.1.1) ∧ (AI 0 35 r.2.2.1.2.1) ∧ (AI 0 19 r.2.2.1.2.2.2.1) ∧ (0 ≤ r.2.2.1.2.2.2.2.2.2.1 ∧ r.2.2.1.2.2.2.2.2.2.1 ≤ 60) ∧ (0 ≤ r.2.2.2.1 ∧ r.2.2.2.1 ≤ 20) ∧ (0 ≤ r.2.2.2.2.1 ∧ r.2.2.2.2.1 ≤ 8) ∧ (0 ≤ r.2.2.2.2.2.1 ∧ r.2.2.2.2.2.1 ≤ 7) ∧ (1 ≤ r.2.2.2.2.2.2.1 ∧ r.2.2.2.2.2.2.1 ≤ 30) ∧ (LnOk r.2.2.2.2.2.2.2.1) ∧ (GdOk r.2.2.2.2.2.2.2.2.1) ∧ (WkOk r.2.2.2.2.2.2.2.2.2.1) ∧ (AI 0 99 r.2.2.2.2.2.2.2.2.2.2.1) ∧ (AI 0 9 r.2.2.2.2.2.2.2.2.2.2.2.1)) := by
  unfold fX0_costOfPlan
  dsimp only [u11, u14, u4]
  refine Sf.bind (sX1_take h_x1_lines h_x1_goods h_x1_works h_x1_change h_x1_coin h_x5_lineCount h_x5_goodsCount h_x5_workCount h_x5_years h_x5_lines h_x5_goods h_x5_works h_x5_change h_x5_coin) ?_
  rintro ⟨g2, g3, g4, g5, g6, g7, g8, g9, g10, g11⟩ hr1
  obtain ⟨h_g2, h_g3, h_g4, h_g5, h_g6, h_g7, h_g8, h_g9, h_g10⟩ : (0 ≤ g2 ∧ g2 ≤ 20) ∧ (0 ≤ g3 ∧ g3 ≤ 8) ∧ (0 ≤ g4 ∧ g4 ≤ 7) ∧ (1 ≤ g5 ∧ g5 ≤ 30) ∧ (LnOk g6) ∧ (GdOk g7) ∧ (WkOk g8) ∧ (AI 0 99 g9) ∧ (AI 0 9 g10) := hr1
  dsimp only [u10]
  refine Sf.bind (LX0_costOfPlan_s14 hn h_x3_steps h_x3_nodes h_x3_stepCount h_x3_open h_x3_openCount h_g3 h_g4 h_g5 h_g7 h_g10 (by decide) h_g2 h_g6 h_g8 h_g9 h_x3_edgeA h_x3_edgeB h_x3_edgeLine h_x3_edgeCount h_x4_lineCount h_x4_goodsCount h_x4_workCount h_x4_years h_x4_lines h_x4_goods h_x4_works h_x4_change h_x4_coin) ?_
  rintro ⟨w41, w42, w43, w44, w45, w46, w47, w48, w49, w50, w51, w52, w53, w54, w55, w56, w57, w58, w59, w60, w61, w62, w63, w64, w65⟩ hr2
  obtain ⟨h_w42, h_w43, h_w44, h_w45, h_w48, h_w49, h_w51, h_w54, h_w56, h_w57, h_w58, h_w59, h_w60, h_w61, h_w62, h_w63, h_w64⟩ : (0 ≤ w42 ∧ w42 ≤ 20) ∧ (LnOk w43) ∧ (WkOk w44) ∧ (AI 0 99 w45) ∧ (AI 0 35 w48) ∧ (AI 0 35 w49) ∧ (AI 0 19 w51) ∧ (0 ≤ w54 ∧ w54 ≤ 60) ∧ (0 ≤ w56 ∧ w56 ≤ 20) ∧ (0 ≤ w57 ∧ w57 ≤ 8) ∧ (0 ≤ w58 ∧ w58 ≤ 7) ∧ (1 ≤ w59 ∧ w59 ≤ 30) ∧ (LnOk w60) ∧ (GdOk w61) ∧ (WkOk w62) ∧ (AI 0 99 w63) ∧ (AI 0 9 w64) := hr2
  dsimp only [u25]
  exact Sf.ok (show (0 ≤ w42 ∧ w42 ≤ 20) ∧ (0 ≤ g3 ∧ g3 ≤ 8) ∧ (0 ≤ g4 ∧ g4 ≤ 7) ∧ (1 ≤ g5 ∧ g5 ≤ 30) ∧ (LnOk w43) ∧ (GdOk g7) ∧ (WkOk w44) ∧ (AI 0 99 w45) ∧ (AI 0 9 g10) ∧ (AI 0 35 w48) ∧ (AI 0 35 w49) ∧ (AI 0 19 w51) ∧ (0 ≤ w54 ∧ w54 ≤ 60) ∧ (0 ≤ w56 ∧ w56 ≤ 20) ∧ (0 ≤ w57 ∧ w57 ≤ 8) ∧ (0 ≤ w58 ∧ w58 ≤ 7) ∧ (1 ≤ w59 ∧ w59 ≤ 30) ∧ (LnOk w60) ∧ (GdOk w61) ∧ (WkOk w62) ∧ (AI 0 99 w63) ∧ (AI 0 9 w64) from ⟨h_w42, h_g3, h_g4, h_g5, h_w43, h_g7, h_w44, h_w45, h_g10, h_w48, h_w49, h_w51, h_w54, h_w56, h_w57, h_w58, h_w59, h_w60, h_w61, h_w62, h_w63, h_w64⟩)
set_option maxHeartbeats 1000000 in
theorem sX1_hasGoods {x0_lineCount x0_goodsCount x0_workCount x0_years : Int32} {x0_lines x0_goods x0_works x0_change x0_coin x0_knownFree : (Nat → Int32)} {x0_isKnown p1 : Int32}  (h_x0_lineCount : (0 ≤ x0_lineCount ∧ x0_lineCount ≤ 20)) (h_x0_goodsCount : (0 ≤ x0_goodsCount ∧ x0_goodsCount ≤ 8)) (h_x0_workCount : (0 ≤ x0_workCount ∧ x0_workCount ≤ 7)) (h_x0_years : (1 ≤ x0_years ∧ x0_years ≤ 30)) (h_x0_lines : (LnOk x0_lines)) (h_x0_goods : (GdOk x0_goods)) (h_x0_works : (WkOk x0_works)) (h_x0_change : (AI 0 99 x0_change)) (h_x0_coin : (AI 0 9 x0_coin)) : Sf (fX1_hasGoods (x0_lineCount, x0_goodsCount, x0_workCount, x0_years, x0_lines, x0_goods, x0_works, x0_change, x0_coin, x0_knownFree, x0_isKnown) p1) (fun r => ((r = 1 ∧ 0 ≤ p1 ∧ p1 < x0_goodsCount) ∨ (r = 0 ∧ ¬ (0 ≤ p1 ∧ p1 < x0_goodsCount)))) := by
  unfold fX1_hasGoods
  dsimp only [u11]
  refine Sf.bind (sX6_within ) ?_
  intro v1 hr1
  have hx_v1 : ((v1 = 1 ∧ 0 ≤ p1 ∧ p1 ≤ (x0_goodsCount - 1)) ∨ (v1 = 0 ∧ (p1 < 0 ∨ (x0_goodsCount - 1) < p1))) := hr1
  refine Sf.zbb (by grind) (fun v3 e_v3 => ?_)
  exact Sf.ok (show ((v3 = 1 ∧ 0 ≤ p1 ∧ p1 < x0_goodsCount) ∨ (v3 = 0 ∧ ¬ (0 ≤ p1 ∧ p1 < x0_goodsCount))) from (by grind))
set_option maxHeartbeats 1000000 in
theorem sX1_putCoin {x0_lineCount x0_goodsCount x0_workCount x0_years : Int32} {x0_lines x0_goods x0_works x0_change x0_coin x0_knownFree : (Nat → Int32)} {x0_isKnown p1 p2 : Int32}  (h_x0_lineCount : (0 ≤ x0_lineCount ∧ x0_lineCount ≤ 20)) (h_x0_goodsCount : (0 ≤ x0_goodsCount ∧ x0_goodsCount ≤ 8)) (h_x0_workCount : (0 ≤ x0_workCount ∧ x0_workCount ≤ 7)) (h_x0_years : (1 ≤ x0_years ∧ x0_years ≤ 30)) (h_x0_lines : (LnOk x0_lines)) (h_x0_goods : (GdOk x0_goods)) (h_x0_works : (WkOk x0_works)) (h_x0_change : (AI 0 99 x0_change)) (h_x0_coin : (AI 0 9 x0_coin)) (h_p2 : (0 ≤ p2 ∧ p2 ≤ 9)) : Sf (fX1_putCoin (x0_lineCount, x0_goodsCount, x0_workCount, x0_years, x0_lines, x0_goods, x0_works, x0_change, x0_coin, x0_knownFree, x0_isKnown) p1 p2) (fun r => (AI 0 9 r.1)) := by
  unfold fX1_putCoin
  dsimp only [u11]
  refine Sf.ite (fun hc1 => ?_) (fun hc1 => ?_)
  · exact Sf.ok (show (AI 0 9 x0_coin) from h_x0_coin)
  · refine Sf.ite (fun hc2 => ?_) (fun hc2 => ?_)
    · exact Sf.ok (show (AI 0 9 x0_coin) from h_x0_coin)
    · refine Sf.wrI 3 rfl h_x0_coin (by grind) h_p2 (fun f1 h_f1 e_f1 => ?_)
      clear e_f1
      exact Sf.ok (show (AI 0 9 f1) from h_f1)
set_option maxHeartbeats 1000000 in
theorem sX1_greatestA {x0_lineCount x0_goodsCount x0_workCount x0_years : Int32} {x0_lines x0_goods x0_works x0_change x0_coin x0_knownFree : (Nat → Int32)} {x0_isKnown p1 : Int32}  (h_x0_lineCount : (0 ≤ x0_lineCount ∧ x0_lineCount ≤ 20)) (h_x0_goodsCount : (0 ≤ x0_goodsCount ∧ x0_goodsCount ≤ 8)) (h_x0_workCount : (0 ≤ x0_workCount ∧ x0_workCount ≤ 7)) (h_x0_years : (1 ≤ x0_years ∧ x0_years ≤ 30)) (h_x0_lines : (LnOk x0_lines)) (h_x0_goods : (GdOk x0_goods)) (h_x0_works : (WkOk x0_works)) (h_x0_change : (AI 0 99 x0_change)) (h_x0_coin : (AI 0 9 x0_coin)) : Sf (fX1_greatestA (x0_lineCount, x0_goodsCount, x0_workCount, x0_years, x0_lines, x0_goods, x0_works, x0_change, x0_coin, x0_knownFree, x0_isKnown) p1) (fun r => (r ≤ 19 ∧ ((p1 = 1 ∨ p1 = 2) ∨ r ≤ 11))) := by
  unfold fX1_greatestA
  dsimp only [u11]
  refine Sf.ite (fun hc1 => ?_) (fun hc1 => ?_)
  · exact Sf.ok (show ((x0_lineCount - 1) ≤ 19 ∧ ((p1 = 1 ∨ p1 = 2) ∨ (x0_lineCount - 1) ≤ 11)) from (by grind))
  · refine Sf.ite (fun hc2 => ?_) (fun hc2 => ?_)
    · exact Sf.ok (show ((x0_lineCount - 1) ≤ 19 ∧ ((p1 = 1 ∨ p1 = 2) ∨ (x0_lineCount - 1) ≤ 11)) from (by grind))
    · exact Sf.ok (show (11 ≤ 19 ∧ ((p1 = 1 ∨ p1 = 2) ∨ 11 ≤ 11)) from (by grind))
set_option maxHeartbeats 1000000 in
theorem sX1_greatestB {p1 : Int32}   : Sf (fX1_greatestB p1) (fun r => (r ≤ 99 ∧ (p1 = 1 ∨ p1 = 2 → r ≤ 2) ∧ (p1 = 1 ∨ p1 = 2 ∨ p1 = 3 ∨ r ≤ 11))) := by
  unfold fX1_greatestB
  refine Sf.ite (fun hc1 => ?_) (fun hc1 => ?_)
  · exact Sf.ok (show (2 ≤ 99 ∧ (p1 = 1 ∨ p1 = 2 → 2 ≤ 2) ∧ (p1 = 1 ∨ p1 = 2 ∨ p1 = 3 ∨ 2 ≤ 11)) from (by grind))
  · refine Sf.ite (fun hc2 => ?_) (fun hc2 => ?_)
    · exact Sf.ok (show (2 ≤ 99 ∧ (p1 = 1 ∨ p1 = 2 → 2 ≤ 2) ∧ (p1 = 1 ∨ p1 = 2 ∨ p1 = 3 ∨ 2 ≤ 11)) from (by grind))
    · refine Sf.ite (fun hc3 => ?_) (fun hc3 => ?_)
      · exact Sf.ok (show (99 ≤ 99 ∧ (p1 = 1 ∨ p1 = 2 → 99 ≤ 2) ∧ (p1 = 1 ∨ p1 = 2 ∨ p1 = 3 ∨ 99 ≤ 11)) from (by grind))
      · exact Sf.ok (show (11 ≤ 99 ∧ (p1 = 1 ∨ p1 = 2 → 11 ≤ 2) ∧ (p1 = 1 ∨ p1 = 2 ∨ p1 = 3 ∨ 11 ≤ 11)) from (by grind))
theorem TX6_isUnder_s4 {p1 z2 z3 : Int32}  (h_z3 : (0 ≤ z3)) : Sf (fX6_isUnder_s4 p1 z2 z3) (LQ (u2 (fun z2 z3 => (0 ≤ z3))) (u2 (fun z2 z3 => muUp z3)) (muUp z3) ((Sum.elim (fun a => True) (fun a => True)))) := by
  unfold fX6_isUnder_s4
  refine Sf.ite (fun hc1 => ?_) (fun hc1 => ?_)
  · exact Sf.inr trivial
  · refine Sf.bind (sX6_within ) ?_
    intro v5 hr2
    have hx_v5 : ((v5 = 1 ∧ 0 ≤ z2 ∧ z2 ≤ 5) ∨ (v5 = 0 ∧ (z2 < 0 ∨ 5 < z2))) := hr2
    refine Sf.ite (fun hc3 => ?_) (fun hc3 => ?_)
    · exact Sf.inr trivial
    · refine Sf.ite (fun hc4 => ?_) (fun hc4 => ?_)
      · exact Sf.inr trivial
      · refine Sf.rdb 6 rfl (by grind) (fun v7 e_v7 => ?_)
        clear e_v7
        exact Sf.inl (show (0 ≤ (z3 + 1)) from (by grind)) (muUp_lt hc1)
theorem LX6_isUnder_s4 {n : Nat} {p1 z2 z3 : Int32} (hn : 1000000000000 ≤ n) (h_z3 : (0 ≤ z3)) : Sf (lp (u2 (fX6_isUnder_s4 p1)) n (z2, z3)) ((Sum.elim (fun a => True) (fun a => True))) :=
  Sf.loop2 (fun z2 z3 => (0 ≤ z3)) (fun z2 z3 => muUp z3) (fun z2 z3 h => TX6_isUnder_s4 h) h_z3 (muUp_n hn)
set_option maxHeartbeats 1000000 in
theorem sX6_isUnder {n : Nat} {p0 p1 : Int32} (hn : 1000000000000 ≤ n)  : Sf (fX6_isUnder n p0 p1) (fun r => True) := by
  unfold fX6_isUnder
  refine Sf.bindS (LX6_isUnder_s4 hn (by decide)) ?_ ?_
  · intro _ _
    exact Sf.ok trivial
  · intro _ _
    exact Sf.ok trivial
set_option maxHeartbeats 1000000 in
theorem sX1_allowsWork {n : Nat} {x0_lineCount x0_goodsCount x0_workCount x0_years : Int32} {x0_lines x0_goods x0_works x0_change x0_coin x0_knownFree : (Nat → Int32)} {x0_isKnown p1 p2 p3 : Int32} (hn : 1000000000000 ≤ n) (h_x0_lineCount : (0 ≤ x0_lineCount ∧ x0_lineCount ≤ 20)) (h_x0_goodsCount : (0 ≤ x0_goodsCount ∧ x0_goodsCount ≤ 8)) (h_x0_workCount : (0 ≤ x0_workCount ∧ x0_workCount ≤ 7)) (h_x0_years : (1 ≤ x0_years ∧ x0_years ≤ 30)) (h_x0_lines : (LnOk x0_lines)) (h_x0_goods : (GdOk x0_goods)) (h_x0_works : (WkOk x0_works)) (h_x0_change : (AI 0 99 x0_change)) (h_x0_coin : (AI 0 9 x0_coin)) : Sf (fX1_allowsWork n (x0_lineCount, x0_goodsCount, x0_workCount, x0_years, x0_lines, x0_goods, x0_works, x0_change, x0_coin, x0_knownFree, x0_isKnown) p1 p2 p3) (fun r => (r = 0 ∨ (r = 1 ∧ (0 ≤ p1 ∧ p1 ≤ 5) ∧ (0 ≤ p2 ∧ p2 ≤ 19) ∧ (0 ≤ p3 ∧ p3 ≤ 99) ∧ WkR p1 p2 p3))) := by
  unfold fX1_allowsWork
  dsimp only [u11]
  refine Sf.bind (sX6_within ) ?_
  intro v1 hr1
  have hx_v1 : ((v1 = 1 ∧ 1 ≤ p1 ∧ p1 ≤ 5) ∨ (v1 = 0 ∧ (p1 < 1 ∨ 5 < p1))) := hr1
  refine Sf.ite (fun hc2 => ?_) (fun hc2 => ?_)
  · exact Sf.ok (show (0 = 0 ∨ (0 = 1 ∧ (0 ≤ p1 ∧ p1 ≤ 5) ∧ (0 ≤ p2 ∧ p2 ≤ 19) ∧ (0 ≤ p3 ∧ p3 ≤ 99) ∧ WkR p1 p2 p3)) from (by unfold WkR; grind))
  · refine Sf.bind (sX6_isUnder hn ) ?_
    intro v3 hr3
    refine Sf.ite (fun hc4 => ?_) (fun hc4 => ?_)
    · unfold fX1_allowsWork_j24
      refine Sf.bind (sX1_greatestA h_x0_lineCount h_x0_goodsCount h_x0_workCount h_x0_years h_x0_lines h_x0_goods h_x0_works h_x0_change h_x0_coin) ?_
      intro v5 hr5
      have hx_v5 : (v5 ≤ 19 ∧ ((p1 = 1 ∨ p1 = 2) ∨ v5 ≤ 11)) := hr5
      refine Sf.bind (sX6_within ) ?_
      intro v7 hr6
      have hx_v7 : ((v7 = 1 ∧ 0 ≤ p2 ∧ p2 ≤ v5) ∨ (v7 = 0 ∧ (p2 < 0 ∨ v5 < p2))) := hr6
      refine Sf.ite (fun hc7 => ?_) (fun hc7 => ?_)
      · exact Sf.ok (show (0 = 0 ∨ (0 = 1 ∧ (0 ≤ p1 ∧ p1 ≤ 5) ∧ (0 ≤ p2 ∧ p2 ≤ 19) ∧ (0 ≤ p3 ∧ p3 ≤ 99) ∧ WkR p1 p2 p3)) from (by unfold WkR; grind))
      · refine Sf.bind (sX1_greatestB ) ?_
        intro v9 hr8
        have hx_v9 : (v9 ≤ 99 ∧ (p1 = 1 ∨ p1 = 2 → v9 ≤ 2) ∧ (p1 = 1 ∨ p1 = 2 ∨ p1 = 3 ∨ v9 ≤ 11)) := hr8
        refine Sf.bind (sX6_within ) ?_
        intro v11 hr9
        have hx_v11 : ((v11 = 1 ∧ 0 ≤ p3 ∧ p3 ≤ v9) ∨ (v11 = 0 ∧ (p3 < 0 ∨ v9 < p3))) := hr9
        refine Sf.ite (fun hc10 => ?_) (fun hc10 => ?_)
        · exact Sf.ok (show (0 = 0 ∨ (0 = 1 ∧ (0 ≤ p1 ∧ p1 ≤ 5) ∧ (0 ≤ p2 ∧ p2 ≤ 19) ∧ (0 ≤ p3 ∧ p3 ≤ 99) ∧ WkR p1 p2 p3)) from (by unfold WkR; grind))
        · exact Sf.ok (show (1 = 0 ∨ (1 = 1 ∧ (0 ≤ p1 ∧ p1 ≤ 5) ∧ (0 ≤ p2 ∧ p2 ≤ 19) ∧ (0 ≤ p3 ∧ p3 ≤ 99) ∧ WkR p1 p2 p3)) from (by unfold WkR; grind))
    · refine Sf.ite (fun hc11 => ?_) (fun hc11 => ?_)
      · exact Sf.ok (show (0 = 0 ∨ (0 = 1 ∧ (0 ≤ p1 ∧ p1 ≤ 5) ∧ (0 ≤ p2 ∧ p2 ≤ 19) ∧ (0 ≤ p3 ∧ p3 ≤ 99) ∧ WkR p1 p2 p3)) from (by unfold WkR; grind))
      · unfold fX1_allowsWork_j24
        refine Sf.bind (sX1_greatestA h_x0_lineCount h_x0_goodsCount h_x0_workCount h_x0_years h_x0_lines h_x0_goods h_x0_works h_x0_change h_x0_coin) ?_
        intro v5 hr12
        have hx_v5 : (v5 ≤ 19 ∧ ((p1 = 1 ∨ p1 = 2) ∨ v5 ≤ 11)) := hr12
        refine Sf.bind (sX6_within ) ?_
        intro v7 hr13
        have hx_v7 : ((v7 = 1 ∧ 0 ≤ p2 ∧ p2 ≤ v5) ∨ (v7 = 0 ∧ (p2 < 0 ∨ v5 < p2))) := hr13
        refine Sf.ite (fun hc14 => ?_) (fun hc14 => ?_)
        · exact Sf.ok (show (0 = 0 ∨ (0 = 1 ∧ (0 ≤ p1 ∧ p1 ≤ 5) ∧ (0 ≤ p2 ∧ p2 ≤ 19) ∧ (0 ≤ p3 ∧ p3 ≤ 99) ∧ WkR p1 p2 p3)) from (by unfold WkR; grind))
        · refine Sf.bind (sX1_greatestB ) ?_
          intro v9 hr15
          have hx_v9 : (v9 ≤ 99 ∧ (p1 = 1 ∨ p1 = 2 → v9 ≤ 2) ∧ (p1 = 1 ∨ p1 = 2 ∨ p1 = 3 ∨ v9 ≤ 11)) := hr15
          refine Sf.bind (sX6_within ) ?_
          intro v11 hr16
          have hx_v11 : ((v11 = 1 ∧ 0 ≤ p3 ∧ p3 ≤ v9) ∨ (v11 = 0 ∧ (p3 < 0 ∨ v9 < p3))) := hr16
          refine Sf.ite (fun hc17 => ?_) (fun hc17 => ?_)
          · exact Sf.ok (show (0 = 0 ∨ (0 = 1 ∧ (0 ≤ p1 ∧ p1 ≤ 5) ∧ (0 ≤ p2 ∧ p2 ≤ 19) ∧ (0 ≤ p3 ∧ p3 ≤ 99) ∧ WkR p1 p2 p3)) from (by unfold WkR; grind))
          · exact Sf.ok (show (1 = 0 ∨ (1 = 1 ∧ (0 ≤ p1 ∧ p1 ≤ 5) ∧ (0 ≤ p2 ∧ p2 ≤ 19) ∧ (0 ≤ p3 ∧ p3 ≤ 99) ∧ WkR p1 p2 p3)) from (by unfold WkR; grind))
set_option maxHeartbeats 1000000 in
theorem sX2_has {p0 : Int32}   : Sf (fX2_has p0) (fun r => ((r = 1 ∧ 0 ≤ p0 ∧ p0 ≤ 7) ∨ (r = 0 ∧ (p0 < 0 ∨ 7 < p0)))) := by
  unfold fX2_has
  refine Sf.bind (sX6_within ) ?_
  intro v1 hr1
  have hx_v1 : ((v1 = 1 ∧ 0 ≤ p0 ∧ p0 ≤ 7) ∨ (v1 = 0 ∧ (p0 < 0 ∨ 7 < p0))) := hr1
  refine Sf.zbb (by grind) (fun v3 e_v3 => ?_)
  exact Sf.ok (show ((v3 = 1 ∧ 0 ≤ p0 ∧ p0 ≤ 7) ∨ (v3 = 0 ∧ (p0 < 0 ∨ 7 < p0))) from (by grind))
set_option maxHeartbeats 1000000 in
theorem sX2_hasRow {x0_elements : (Nat → Nat → Int64)} {x0_held x0_sizes : (Nat → Int32)} {p1 : Int32}  (h_x0_held : (AI (-1) 16 x0_held)) (h_x0_sizes : (AI 0 40 x0_sizes)) (h_p1 : (0 ≤ p1 ∧ p1 ≤ 7)) : Sf (fX2_hasRow (x0_elements, x0_held, x0_sizes) p1) (fun r => ((r = 1) ∨ (r = 0))) := by
  unfold fX2_hasRow
  dsimp only [u3]
  refine Sf.rdI 8 rfl h_x0_held (by grind) (fun v1 h_v1 e_v1 => ?_)
  clear e_v1
  refine Sf.bind (sX6_within ) ?_
  intro v2 hr1
  have hx_v2 : ((v2 = 1 ∧ 0 ≤ v1 ∧ v1 ≤ 4) ∨ (v2 = 0 ∧ (v1 < 0 ∨ 4 < v1))) := hr1
  refine Sf.zbb (by grind) (fun v4 e_v4 => ?_)
  exact Sf.ok (show ((v4 = 1) ∨ (v4 = 0)) from (by grind))
set_option maxHeartbeats 1000000 in
theorem sX2_hasWork {x0_elements : (Nat → Nat → Int64)} {x0_held x0_sizes : (Nat → Int32)} {p1 : Int32}  (h_x0_held : (AI (-1) 16 x0_held)) (h_x0_sizes : (AI 0 40 x0_sizes)) (h_p1 : (0 ≤ p1 ∧ p1 ≤ 7)) : Sf (fX2_hasWork (x0_elements, x0_held, x0_sizes) p1) (fun r => True) := by
  unfold fX2_hasWork
  dsimp only [u3]
  refine Sf.rdI 8 rfl h_x0_held (by grind) (fun v1 h_v1 e_v1 => ?_)
  clear e_v1
  refine Sf.ite (fun hc1 => ?_) (fun hc1 => ?_)
  · exact Sf.ok trivial
  · exact Sf.ok trivial
set_option maxHeartbeats 1000000 in
theorem sX2_differ {x0_elements : (Nat → Nat → Int64)} {x0_held x0_sizes : (Nat → Int32)} {p1 p2 : Int32}  (h_x0_held : (AI (-1) 16 x0_held)) (h_x0_sizes : (AI 0 40 x0_sizes)) (h_p1 : (0 ≤ p1 ∧ p1 ≤ 7)) (h_p2 : (0 ≤ p2 ∧ p2 ≤ 7)) : Sf (fX2_differ (x0_elements, x0_held, x0_sizes) p1 p2) (fun r => True) := by
  unfold fX2_differ
  dsimp only [u3]
  refine Sf.rdI 8 rfl h_x0_held (by grind) (fun v1 h_v1 e_v1 => ?_)
  refine Sf.ite (fun hc1 => ?_) (fun hc1 => ?_)
  · exact Sf.ok trivial
  · refine Sf.rdI 8 rfl h_x0_held (by grind) (fun v2 h_v2 e_v2 => ?_)
    refine Sf.ite (fun hc2 => ?_) (fun hc2 => ?_)
    · exact Sf.ok trivial
    · refine Sf.rdI 8 rfl h_x0_held (by grind) (fun v3 h_v3 e_v3 => ?_)
      have hs3 : v3 = v1 := e_v3.trans e_v1.symm
      clear e_v3
      refine Sf.rdI 8 rfl h_x0_held (by grind) (fun v4 h_v4 e_v4 => ?_)
      have hs4 : v4 = v2 := e_v4.trans e_v2.symm
      clear e_v4
      refine Sf.ite (fun hc5 => ?_) (fun hc5 => ?_)
      · exact Sf.ok trivial
      · exact Sf.ok trivial
set_option maxHeartbeats 1000000 in
theorem sX2_workIn {x0_elements : (Nat → Nat → Int64)} {x0_held x0_sizes : (Nat → Int32)} {p1 : Int32}  (h_x0_held : (AI (-1) 16 x0_held)) (h_x0_sizes : (AI 0 40 x0_sizes)) (h_p1 : (0 ≤ p1 ∧ p1 ≤ 7)) : Sf (fX2_workIn (x0_elements, x0_held, x0_sizes) p1) (fun r => True) := by
  unfold fX2_workIn
  dsimp only [u3]
  refine Sf.bind (sX2_hasWork h_x0_held h_x0_sizes h_p1) ?_
  intro v1 hr1
  refine Sf.ite (fun hc2 => ?_) (fun hc2 => ?_)
  · exact Sf.ok trivial
  · refine Sf.rdI 8 rfl h_x0_held (by grind) (fun v3 h_v3 e_v3 => ?_)
    clear e_v3
    exact Sf.ok trivial
theorem TJ7_fill_d0a16_s6 {p1 : Int64} {z2 : Int32} {z3 : (Nat → Int64)}  (h_z2 : (0 ≤ z2)) : Sf (fJ7_fill_d0a16_s6 40 p1 z2 z3) (LQ (u2 (fun z2 z3 => (0 ≤ z2))) (u2 (fun z2 z3 => muUp z2)) (muUp z2) (fun e => True)) := by
  unfold fJ7_fill_d0a16_s6
  have h_nat : Int32.ofNat 40 = 40 := rfl
  refine Sf.ite (fun hc1 => ?_) (fun hc1 => ?_)
  · exact Sf.inr trivial
  · refine Sf.wrb 40 rfl (by grind) (fun f6 e_f6 => ?_)
    clear e_f6
    exact Sf.inl (show (0 ≤ (z2 + 1)) from (by grind)) (muUp_lt hc1)
theorem LJ7_fill_d0a16_s6 {n : Nat} {p1 : Int64} {z2 : Int32} {z3 : (Nat → Int64)} (hn : 1000000000000 ≤ n) (h_z2 : (0 ≤ z2)) : Sf (lp (u2 (fJ7_fill_d0a16_s6 40 p1)) n (z2, z3)) (fun e => True) :=
  Sf.loop2 (fun z2 z3 => (0 ≤ z2)) (fun z2 z3 => muUp z2) (fun z2 z3 h => TJ7_fill_d0a16_s6 h) h_z2 (muUp_n hn)
set_option maxHeartbeats 1000000 in
theorem sJ7_fill_d0a16 {n : Nat} {p0 : (Nat → Int64)} {p1 : Int64} (hn : 1000000000000 ≤ n)  : Sf (fJ7_fill_d0a16 n 40 p0 p1) (fun r => True) := by
  unfold fJ7_fill_d0a16
  refine Sf.bind (LJ7_fill_d0a16_s6 hn (by decide)) ?_
  intro w5 hr1
  exact Sf.ok trivial
set_option maxHeartbeats 1000000 in
theorem sX2_putRow {n : Nat} {x0_elements : (Nat → Nat → Int64)} {x0_held x0_sizes : (Nat → Int32)} {p1 p2 p3 : Int32} (hn : 1000000000000 ≤ n) (h_x0_held : (AI (-1) 16 x0_held)) (h_x0_sizes : (AI 0 40 x0_sizes)) (h_p1 : (0 ≤ p1 ∧ p1 ≤ 7)) (h_p2 : (0 ≤ p2 ∧ p2 ≤ 4)) (h_p3 : (0 ≤ p3 ∧ p3 ≤ 40)) : Sf (fX2_putRow n (x0_elements, x0_held, x0_sizes) p1 p2 p3) (fun r => (AI (-1) 16 r.2.1) ∧ (AI 0 40 r.2.2)) := by
  unfold fX2_putRow
  dsimp only [u3]
  refine Sf.wrI 8 rfl h_x0_held (by grind) (by grind) (fun f1 h_f1 e_f1 => ?_)
  clear e_f1
  refine Sf.wrI 8 rfl h_x0_sizes (by grind) h_p3 (fun f2 h_f2 e_f2 => ?_)
  clear e_f2
  refine Sf.ckb 8 rfl (by grind) (fun q3 e_q3 h_q3 => ?_)
  refine Sf.bind (sJ7_fill_d0a16 hn ) ?_
  intro g4 hr1
  exact Sf.ok (show (AI (-1) 16 f1) ∧ (AI 0 40 f2) from ⟨h_f1, h_f2⟩)
set_option maxHeartbeats 1000000 in
theorem sX2_fitted {p0 : Int32} {p1 : Int64}   : Sf (fX2_fitted p0 p1) (fun r => True) := by
  unfold fX2_fitted
  refine Sf.ite (fun hc1 => ?_) (fun hc1 => ?_)
  · exact Sf.ok trivial
  · refine Sf.ite (fun hc2 => ?_) (fun hc2 => ?_)
    · exact Sf.ok trivial
    · refine Sf.ite (fun hc3 => ?_) (fun hc3 => ?_)
      · exact Sf.ok trivial
      · refine Sf.ite (fun hc4 => ?_) (fun hc4 => ?_)
        · exact Sf.ok trivial
        · refine Sf.ite (fun hc5 => ?_) (fun hc5 => ?_)
          · exact Sf.ok trivial
          · exact Sf.ok trivial
set_option maxHeartbeats 1000000 in
theorem sX2_put {x0_elements : (Nat → Nat → Int64)} {x0_held x0_sizes : (Nat → Int32)} {p1 p2 : Int32} {p3 : Int64}  (h_x0_held : (AI (-1) 16 x0_held)) (h_x0_sizes : (AI 0 40 x0_sizes)) (h_p1 : (0 ≤ p1 ∧ p1 ≤ 7)) (h_p2 : (0 ≤ p2 ∧ p2 ≤ 39)) : Sf (fX2_put (x0_elements, x0_held, x0_sizes) p1 p2 p3) (fun r => True) := by
  unfold fX2_put
  dsimp only [u3]
  refine Sf.ckb 8 rfl (by grind) (fun q1 e_q1 h_q1 => ?_)
  refine Sf.rdI 8 rfl h_x0_held (by grind) (fun v2 h_v2 e_v2 => ?_)
  clear e_v2
  refine Sf.bind (sX2_fitted ) ?_
  intro v3 hr1
  refine Sf.wrb 40 rfl (by grind) (fun f5 e_f5 => ?_)
  clear e_f5
  exact Sf.ok trivial
theorem TX2_dropWorksFrom_s2 {p1 : Int32} {x0_elements : (Nat → Nat → Int64)} {x0_sizes : (Nat → Int32)} {z2 : Int32} {z3 : (Nat → Int32)}  (h_x0_sizes : (AI 0 40 x0_sizes)) (h_z2 : (0 ≤ z2)) (h_z3 : (AI (-1) 16 z3)) : Sf (fX2_dropWorksFrom_s2 p1 x0_elements x0_sizes z2 z3) (LQ (u2 (fun z2 z3 => (0 ≤ z2) ∧ (AI (-1) 16 z3))) (u2 (fun z2 z3 => muUp z2)) (muUp z2) (fun e => (AI (-1) 16 e))) := by
  unfold fX2_dropWorksFrom_s2
  refine Sf.ite (fun hc1 => ?_) (fun hc1 => ?_)
  · exact Sf.inr (show (AI (-1) 16 z3) from h_z3)
  · refine Sf.bind (sX2_workIn h_z3 h_x0_sizes (by grind)) ?_
    intro v6 hr2
    refine Sf.ite (fun hc3 => ?_) (fun hc3 => ?_)
    · exact Sf.inl (show (0 ≤ (z2 + 1)) ∧ (AI (-1) 16 z3) from ⟨(by grind), h_z3⟩) (muUp_lt hc1)
    · refine Sf.wrI 8 rfl h_z3 (by grind) (by decide) (fun f8 h_f8 e_f8 => ?_)
      clear e_f8
      exact Sf.inl (show (0 ≤ (z2 + 1)) ∧ (AI (-1) 16 f8) from ⟨(by grind), h_f8⟩) (muUp_lt hc1)
theorem LX2_dropWorksFrom_s2 {n : Nat} {p1 : Int32} {x0_elements : (Nat → Nat → Int64)} {x0_sizes : (Nat → Int32)} {z2 : Int32} {z3 : (Nat → Int32)} (hn : 1000000000000 ≤ n) (h_x0_sizes : (AI 0 40 x0_sizes)) (h_z2 : (0 ≤ z2)) (h_z3 : (AI (-1) 16 z3)) : Sf (lp (u2 (fX2_dropWorksFrom_s2 p1 x0_elements x0_sizes)) n (z2, z3)) (fun e => (AI (-1) 16 e)) :=
  Sf.loop2 (fun z2 z3 => (0 ≤ z2) ∧ (AI (-1) 16 z3)) (fun z2 z3 => muUp z2) (fun z2 z3 h => TX2_dropWorksFrom_s2 h_x0_sizes h.1 h.2) (show (0 ≤ z2) ∧ (AI (-1) 16 z3) from ⟨h_z2, h_z3⟩) (muUp_n hn)
set_option maxHeartbeats 1000000 in
theorem sX2_dropWorksFrom {n : Nat} {x0_elements : (Nat → Nat → Int64)} {x0_held x0_sizes : (Nat → Int32)} {p1 : Int32} (hn : 1000000000000 ≤ n) (h_x0_held : (AI (-1) 16 x0_held)) (h_x0_sizes : (AI 0 40 x0_sizes)) : Sf (fX2_dropWorksFrom n (x0_elements, x0_held, x0_sizes) p1) (fun r => (AI (-1) 16 r)) := by
  unfold fX2_dropWorksFrom
  dsimp only [u3]
  refine Sf.bind (LX2_dropWorksFrom_s2 hn h_x0_sizes (by decide) h_x0_held) ?_
  intro w5 hr1
  have h_w5 : (AI (-1) 16 w5) := hr1
  exact Sf.ok (show (AI (-1) 16 w5) from h_w5)
theorem TX2_inUse_s4 {x0_held : (Nat → Int32)} {z2 z3 : Int32}  (h_x0_held : (AI (-1) 16 x0_held)) (h_z3 : (0 ≤ z3)) : Sf (fX2_inUse_s4 x0_held z2 z3) (LQ (u2 (fun z2 z3 => (0 ≤ z3))) (u2 (fun z2 z3 => muUp z3)) (muUp z3) (fun e => True)) := by
  unfold fX2_inUse_s4
  refine Sf.ite (fun hc1 => ?_) (fun hc1 => ?_)
  · exact Sf.inr trivial
  · refine Sf.rdI 8 rfl h_x0_held (by grind) (fun v6 h_v6 e_v6 => ?_)
    clear e_v6
    refine Sf.ite (fun hc2 => ?_) (fun hc2 => ?_)
    · exact Sf.inl (show (0 ≤ (z3 + 1)) from (by grind)) (muUp_lt hc1)
    · exact Sf.inl (show (0 ≤ (z3 + 1)) from (by grind)) (muUp_lt hc1)
theorem LX2_inUse_s4 {n : Nat} {x0_held : (Nat → Int32)} {z2 z3 : Int32} (hn : 1000000000000 ≤ n) (h_x0_held : (AI (-1) 16 x0_held)) (h_z3 : (0 ≤ z3)) : Sf (lp (u2 (fX2_inUse_s4 x0_held)) n (z2, z3)) (fun e => True) :=
  Sf.loop2 (fun z2 z3 => (0 ≤ z3)) (fun z2 z3 => muUp z3) (fun z2 z3 h => TX2_inUse_s4 h_x0_held h) h_z3 (muUp_n hn)
set_option maxHeartbeats 1000000 in
theorem sX2_inUse {n : Nat} {x0_elements : (Nat → Nat → Int64)} {x0_held x0_sizes : (Nat → Int32)} (hn : 1000000000000 ≤ n) (h_x0_held : (AI (-1) 16 x0_held)) (h_x0_sizes : (AI 0 40 x0_sizes)) : Sf (fX2_inUse n (x0_elements, x0_held, x0_sizes)) (fun r => True) := by
  unfold fX2_inUse
  dsimp only [u3]
  refine Sf.bind (LX2_inUse_s4 hn h_x0_held (by decide)) ?_
  intro w5 hr1
  exact Sf.ok trivial

section
theorem TX0_wrongAt_s6 {p2 : (Nat → Int64)} {p3 x0_lineCount x0_goodsCount x0_workCount x0_years : Int32} {x0_lines x0_goods x0_works x0_change x0_coin x0_knownFree : (Nat → Int32)} {x0_isKnown z2 z3 : Int32}  (h_x0_lineCount : (0 ≤ x0_lineCount ∧ x0_lineCount ≤ 20)) (h_x0_goodsCount : (0 ≤ x0_goodsCount ∧ x0_goodsCount ≤ 8)) (h_x0_workCount : (0 ≤ x0_workCount ∧ x0_workCount ≤ 7)) (h_x0_years : (1 ≤ x0_years ∧ x0_years ≤ 30)) (h_x0_lines : (LnOk x0_lines)) (h_x0_goods : (GdOk x0_goods)) (h_x0_works : (WkOk x0_works)) (h_x0_change : (AI 0 99 x0_change)) (h_x0_coin : (AI 0 9 x0_coin)) (h_z3 : (0 ≤ z3)) : Sf (fX0_wrongAt_s6 40 p2 p3 x0_lineCount x0_goodsCount x0_workCount x0_years x0_lines x0_goods x0_works x0_change x0_coin x0_knownFree x0_isKnown z2 z3) (LQ (u2 (fun z2 z3 => (0 ≤ z3))) (u2 (fun z2 z3 => muUp z3)) (muUp z3) ((Sum.elim (fun a => (0 ≤ a)) (fun a => True)))) := by
  unfold fX0_wrongAt_s6
  have h_nat : Int32.ofNat 40 = 40 := rfl
  refine Sf.ite (fun hc1 => ?_) (fun hc1 => ?_)
  · exact Sf.inr trivial
  · refine Sf.ite (fun hc2 => ?_) (fun hc2 => ?_)
    · exact Sf.inr trivial
    · refine Sf.rdb 40 rfl (by grind) (fun v6 e_v6 => ?_)
      clear e_v6
      refine Sf.bind (sX0_workTold h_x0_workCount h_x0_works) ?_
      intro v7 hr3
      have h_v7 : ((-1) ≤ v7 ∧ v7 ≤ 6) := hr3
      refine Sf.ite (fun hc4 => ?_) (fun hc4 => ?_)
      · exact Sf.inl (show (0 ≤ (z3 + 1)) from (by grind)) (muUp_lt hc2)
      · refine Sf.ite (fun hc5 => ?_) (fun hc5 => ?_)
        · refine Sf.someb (fun t9 e_t9 => ?_)
          exact Sf.inl (show (0 ≤ (z3 + 1)) from (by grind)) (muUp_lt hc2)
        · exact Sf.inr (show (0 ≤ z3) from h_z3)
theorem LX0_wrongAt_s6 {n : Nat} {p2 : (Nat → Int64)} {p3 x0_lineCount x0_goodsCount x0_workCount x0_years : Int32} {x0_lines x0_goods x0_works x0_change x0_coin x0_knownFree : (Nat → Int32)} {x0_isKnown z2 z3 : Int32} (hn : 1000000000000 ≤ n) (h_x0_lineCount : (0 ≤ x0_lineCount ∧ x0_lineCount ≤ 20)) (h_x0_goodsCount : (0 ≤ x0_goodsCount ∧ x0_goodsCount ≤ 8)) (h_x0_workCount : (0 ≤ x0_workCount ∧ x0_workCount ≤ 7)) (h_x0_years : (1 ≤ x0_years ∧ x0_years ≤ 30)) (h_x0_lines : (LnOk x0_lines)) (h_x0_goods : (GdOk x0_goods)) (h_x0_works : (WkOk x0_works)) (h_x0_change : (AI 0 99 x0_change)) (h_x0_coin : (AI 0 9 x0_coin)) (h_z3 : (0 ≤ z3)) : Sf (lp (u2 (fX0_wrongAt_s6 40 p2 p3 x0_lineCount x0_goodsCount x0_workCount x0_years x0_lines x0_goods x0_works x0_change x0_coin x0_knownFree x0_isKnown)) n (z2, z3)) ((Sum.elim (fun a => (0 ≤ a)) (fun a => True))) :=
  Sf.loop2 (fun z2 z3 => (0 ≤ z3)) (fun z2 z3 => muUp z3) (fun z2 z3 h => TX0_wrongAt_s6 h_x0_lineCount h_x0_goodsCount h_x0_workCount h_x0_years h_x0_lines h_x0_goods h_x0_works h_x0_change h_x0_coin h) h_z3 (muUp_n hn)
set_option maxHeartbeats 1000000 in
theorem sX0_wrongAt {n : Nat} {x0_lineCount x0_goodsCount x0_workCount x0_years : Int32} {x0_lines x0_goods x0_works x0_change x0_coin x0_knownFree : (Nat → Int32)} {x0_isKnown : Int32} {p2 : (Nat → Int64)} {p3 : Int32} (hn : 1000000000000 ≤ n) (h_x0_lineCount : (0 ≤ x0_lineCount ∧ x0_lineCount ≤ 20)) (h_x0_goodsCount : (0 ≤ x0_goodsCount ∧ x0_goodsCount ≤ 8)) (h_x0_workCount : (0 ≤ x0_workCount ∧ x0_workCount ≤ 7)) (h_x0_years : (1 ≤ x0_years ∧ x0_years ≤ 30)) (h_x0_lines : (LnOk x0_lines)) (h_x0_goods : (GdOk x0_goods)) (h_x0_works : (WkOk x0_works)) (h_x0_change : (AI 0 99 x0_change)) (h_x0_coin : (AI 0 9 x0_coin)) : Sf (fX0_wrongAt n (x0_lineCount, x0_goodsCount, x0_workCount, x0_years, x0_lines, x0_goods, x0_works, x0_change, x0_coin, x0_knownFree, x0_isKnown) 40 p2 p3) (fun r => True) := by
  unfold fX0_wrongAt
  dsimp only [u11]
  refine Sf.bindS (LX0_wrongAt_s6 hn h_x0_lineCount h_x0_goodsCount h_x0_workCount h_x0_years h_x0_lines h_x0_goods h_x0_works h_x0_change h_x0_coin (by decide)) ?_ ?_
  · intro w5 hr1
    have h_w5 : (0 ≤ w5) := hr1
    exact Sf.ok trivial
  · intro _ _
    exact Sf.ok trivial
set_option maxHeartbeats 1000000 in
theorem sX0_costOfYear {n : Nat} {x0_gained x1_left x1_earned : (Nat → Int32)} {x1_turnCost x1_turnWayless : Int32} {x2_edgeA x2_edgeB x2_edgeCost x2_edgeLine x2_change x2_away x2_steps x2_nodes : (Nat → Int32)} {x2_stepCount : Int32} {x2_open : (Nat → Int32)} {x2_openCount : Int32} {x2_seen : Int64} {x2_edgeCount x2_aim x3_lineCount x3_goodsCount x3_workCount x3_years : Int32} {x3_lines x3_goods x3_works x3_change x3_coin x3_knownFree : (Nat → Int32)} {x3_isKnown x4_lineCount x4_goodsCount x4_workCount x4_years : Int32} {x4_lines x4_goods x4_works x4_change x4_coin x4_knownFree : (Nat → Int32)} {x4_isKnown p2 : Int32} (hn : 1000000000000 ≤ n) (h_x2_edgeA : (AI 0 35 x2_edgeA)) (h_x2_edgeB : (AI 0 35 x2_edgeB)) (h_x2_edgeLine : (AI 0 19 x2_edgeLine)) (h_x2_steps : (AI 0 22 x2_steps)) (h_x2_nodes : (AI 0 35 x2_nodes)) (h_x2_stepCount : (0 ≤ x2_stepCount ∧ x2_stepCount ≤ 36)) (h_x2_open : (AI 0 35 x2_open)) (h_x2_openCount : (0 ≤ x2_openCount ∧ x2_openCount ≤ 36)) (h_x2_edgeCount : (0 ≤ x2_edgeCount ∧ x2_edgeCount ≤ 60)) (h_x3_lineCount : (0 ≤ x3_lineCount ∧ x3_lineCount ≤ 20)) (h_x3_goodsCount : (0 ≤ x3_goodsCount ∧ x3_goodsCount ≤ 8)) (h_x3_workCount : (0 ≤ x3_workCount ∧ x3_workCount ≤ 7)) (h_x3_years : (1 ≤ x3_years ∧ x3_years ≤ 30)) (h_x3_lines : (LnOk x3_lines)) (h_x3_goods : (GdOk x3_goods)) (h_x3_works : (WkOk x3_works)) (h_x3_change : (AI 0 99 x3_change)) (h_x3_coin : (AI 0 9 x3_coin)) (h_x4_lineCount : (0 ≤ x4_lineCount ∧ x4_lineCount ≤ 20)) (h_x4_goodsCount : (0 ≤ x4_goodsCount ∧ x4_goodsCount ≤ 8)) (h_x4_workCount : (0 ≤ x4_workCount ∧ x4_workCount ≤ 7)) (h_x4_years : (1 ≤ x4_years ∧ x4_years ≤ 30)) (h_x4_lines : (LnOk x4_lines)) (h_x4_goods : (GdOk x4_goods)) (h_x4_works : (WkOk x4_works)) (h_x4_change : (AI 0 99 x4_change)) (h_x4_coin : (AI 0 9 x4_coin)) : Sf (fX0_costOfYear n x0_gained (x1_left, x1_earned, x1_turnCost, x1_turnWayless) (x2_edgeA, x2_edgeB, x2_edgeCost, x2_edgeLine, x2_change, x2_away, x2_steps, x2_nodes, x2_stepCount, x2_open, x2_openCount, x2_seen, x2_edgeCount, x2_aim) (x3_lineCount, x3_goodsCount, x3_workCount, x3_years, x3_lines, x3_goods, x3_works, x3_change, x3_coin, x3_knownFree, x3_isKnown) (x4_lineCount, x4_goodsCount, x4_workCount, x4_years, x4_lines, x4_goods, x4_works, x4_change, x4_coin, x4_knownFree, x4_isKnown) p2) (fun r => (AI 0 35 r.2.1.1) ∧ (AI 0 35 r.2.1.2.1) ∧ (AI 0 19 r.2.1.2.2.2.1) ∧ (0 ≤ r.2.1.2.2.2.2.2.2.1 ∧ r.2.1.2.2.2.2.2.2.1 ≤ 60) ∧ (0 ≤ r.2.2.1.1 ∧ r.2.2.1.1 ≤ 20) ∧ (0 ≤ r.2.2.1.2.1 ∧ r.2.2.1.2.1 ≤ 8) ∧ (0 ≤ r.2.2.1.2.2.1 ∧ r.2.2.1.2.2.1 ≤ 7) ∧ (1 ≤ r.2.2.1.2.2.2.1 ∧ r.2.2.1.2.2.2.1 ≤ 30) ∧ (LnOk r.2.2.1.2.2.2.2.1) ∧ (GdOk r.2.2.1.2.2.2.2.2.1) ∧ (WkOk r.2.2.1.2.2.2.2.2.2.1) ∧ (AI 0 99 r.2.2.1.2.2.2.2.2.2.2.1) ∧ (AI 0 9 r.2.2.1.2.2.2.2.2.2.2.2.1) ∧ (0 ≤ r.2.2.2.1 ∧ r.2.2.2.1 ≤ 20) ∧ (LnOk r.2.2.2.2.1) ∧ (WkOk r.2.2.2.2.2.1) ∧ (AI 0 99 r.2.2.2.2.2.2.1)) := by
  unfold fX0_costOfYear
  dsimp only [u11, u14, u4]
  refine Sf.bind (sX1_hasWork h_x4_lineCount h_x4_goodsCount h_x4_workCount h_x4_years h_x4_lines h_x4_goods h_x4_works h_x4_change h_x4_coin) ?_
  intro v1 hr1
  have hx_v1 : ((v1 = 1 ∧ 0 ≤ p2 ∧ p2 < x4_workCount) ∨ (v1 = 0 ∧ ¬ (0 ≤ p2 ∧ p2 < x4_workCount))) := hr1
  refine Sf.ite (fun hc2 => ?_) (fun hc2 => ?_)
  · unfold fX0_costOfYear_j22
    refine Sf.bind (sX0_freeWith hn h_x2_edgeA h_x2_edgeB h_x2_edgeLine h_x2_steps h_x2_nodes h_x2_stepCount h_x2_open h_x2_openCount h_x2_edgeCount h_x3_lineCount h_x3_goodsCount h_x3_workCount h_x3_years h_x3_lines h_x3_goods h_x3_works h_x3_change h_x3_coin h_x4_lineCount h_x4_goodsCount h_x4_workCount h_x4_years h_x4_lines h_x4_goods h_x4_works h_x4_change h_x4_coin) ?_
    rintro ⟨v9, ⟨g11, g12, g13, g14, g15, g16, g17, g18⟩, ⟨g20, g21, g22, g23, g24, g25, g26, g27, g28, g29⟩, ⟨g31, g32, g33, g34, g35⟩⟩ hr3
    obtain ⟨h_g11, h_g12, h_g14, h_g17, h_g20, h_g21, h_g22, h_g23, h_g24, h_g25, h_g26, h_g27, h_g28, h_g31, h_g32, h_g33⟩ : (AI 0 35 g11) ∧ (AI 0 35 g12) ∧ (AI 0 19 g14) ∧ (0 ≤ g17 ∧ g17 ≤ 60) ∧ (0 ≤ g20 ∧ g20 ≤ 20) ∧ (0 ≤ g21 ∧ g21 ≤ 8) ∧ (0 ≤ g22 ∧ g22 ≤ 7) ∧ (1 ≤ g23 ∧ g23 ≤ 30) ∧ (LnOk g24) ∧ (GdOk g25) ∧ (WkOk g26) ∧ (AI 0 99 g27) ∧ (AI 0 9 g28) ∧ (0 ≤ g31 ∧ g31 ≤ 20) ∧ (LnOk g32) ∧ (AI 0 99 g33) := hr3
    dsimp only [u10, u4, u5, u8]
    exact Sf.ok (show (AI 0 35 g11) ∧ (AI 0 35 g12) ∧ (AI 0 19 g14) ∧ (0 ≤ g17 ∧ g17 ≤ 60) ∧ (0 ≤ g20 ∧ g20 ≤ 20) ∧ (0 ≤ g21 ∧ g21 ≤ 8) ∧ (0 ≤ g22 ∧ g22 ≤ 7) ∧ (1 ≤ g23 ∧ g23 ≤ 30) ∧ (LnOk g24) ∧ (GdOk g25) ∧ (WkOk g26) ∧ (AI 0 99 g27) ∧ (AI 0 9 g28) ∧ (0 ≤ g31 ∧ g31 ≤ 20) ∧ (LnOk g32) ∧ (WkOk x4_works) ∧ (AI 0 99 g33) from ⟨h_g11, h_g12, h_g14, h_g17, h_g20, h_g21, h_g22, h_g23, h_g24, h_g25, h_g26, h_g27, h_g28, h_g31, h_g32, h_x4_works, h_g33⟩)
  · refine Sf.bind (s_ofWork h_x4_works (by grind) (by decide)) ?_
    intro v37 hr4
    obtain ⟨h_v37, e_v37⟩ : (0 ≤ v37 ∧ v37 ≤ 9999) ∧ v37 = x4_works (p2.toNatClampNeg * 5 + 3) := hr4
    clear e_v37
    refine Sf.bind (sX1_performForGood h_x4_lineCount h_x4_workCount h_x4_lines h_x4_works h_x4_change) ?_
    rintro ⟨g40, g41, g42, g43, g44⟩ hr5
    obtain ⟨h_g40, h_g41, h_g42, h_g43⟩ : (0 ≤ g40 ∧ g40 ≤ 20) ∧ (LnOk g41) ∧ (WkOk g42) ∧ (AI 0 99 g43) := hr5
    dsimp only [u5]
    unfold fX0_costOfYear_j22
    refine Sf.bind (sX0_freeWith hn h_x2_edgeA h_x2_edgeB h_x2_edgeLine h_x2_steps h_x2_nodes h_x2_stepCount h_x2_open h_x2_openCount h_x2_edgeCount h_x3_lineCount h_x3_goodsCount h_x3_workCount h_x3_years h_x3_lines h_x3_goods h_x3_works h_x3_change h_x3_coin h_g40 h_x4_goodsCount h_x4_workCount h_x4_years h_g41 h_x4_goods h_g42 h_g43 h_x4_coin) ?_
    rintro ⟨v9, ⟨g11, g12, g13, g14, g15, g16, g17, g18⟩, ⟨g20, g21, g22, g23, g24, g25, g26, g27, g28, g29⟩, ⟨g31, g32, g33, g34, g35⟩⟩ hr6
    obtain ⟨h_g11, h_g12, h_g14, h_g17, h_g20, h_g21, h_g22, h_g23, h_g24, h_g25, h_g26, h_g27, h_g28, h_g31, h_g32, h_g33⟩ : (AI 0 35 g11) ∧ (AI 0 35 g12) ∧ (AI 0 19 g14) ∧ (0 ≤ g17 ∧ g17 ≤ 60) ∧ (0 ≤ g20 ∧ g20 ≤ 20) ∧ (0 ≤ g21 ∧ g21 ≤ 8) ∧ (0 ≤ g22 ∧ g22 ≤ 7) ∧ (1 ≤ g23 ∧ g23 ≤ 30) ∧ (LnOk g24) ∧ (GdOk g25) ∧ (WkOk g26) ∧ (AI 0 99 g27) ∧ (AI 0 9 g28) ∧ (0 ≤ g31 ∧ g31 ≤ 20) ∧ (LnOk g32) ∧ (AI 0 99 g33) := hr6
    dsimp only [u10, u4, u5, u8]
    exact Sf.ok (show (AI 0 35 g11) ∧ (AI 0 35 g12) ∧ (AI 0 19 g14) ∧ (0 ≤ g17 ∧ g17 ≤ 60) ∧ (0 ≤ g20 ∧ g20 ≤ 20) ∧ (0 ≤ g21 ∧ g21 ≤ 8) ∧ (0 ≤ g22 ∧ g22 ≤ 7) ∧ (1 ≤ g23 ∧ g23 ≤ 30) ∧ (LnOk g24) ∧ (GdOk g25) ∧ (WkOk g26) ∧ (AI 0 99 g27) ∧ (AI 0 9 g28) ∧ (0 ≤ g31 ∧ g31 ≤ 20) ∧ (LnOk g32) ∧ (WkOk g42) ∧ (AI 0 99 g33) from ⟨h_g11, h_g12, h_g14, h_g17, h_g20, h_g21, h_g22, h_g23, h_g24, h_g25, h_g26, h_g27, h_g28, h_g31, h_g32, h_g42, h_g33⟩)
theorem TX0_costOfPlan_s14 {n : Nat} {p2 : (Nat → Int64)} {p3 : Int32} {x0_gained x2_left x2_earned : (Nat → Int32)} {x2_turnCost x2_turnWayless : Int32} {x3_steps x3_nodes : (Nat → Int32)} {x3_stepCount : Int32} {x3_open : (Nat → Int32)} {x3_openCount : Int32} {x3_seen : Int64} {x4_knownFree : (Nat → Int32)} {g3 g4 g5 : Int32} {g7 g10 : (Nat → Int32)} {z14 z15 z16 : Int32} {z17 z18 z19 z20 : (Nat → Int32)} {z21 : Int32} {z22 z23 z24 z25 z26 z27 : (Nat → Int32)} {z28 z29 z30 z31 z32 z33 : Int32} {z34 z35 z36 z37 z38 : (Nat → Int32)} {z39 : Int32} (hn : 1000000000000 ≤ n) (h_x3_steps : (AI 0 22 x3_steps)) (h_x3_nodes : (AI 0 35 x3_nodes)) (h_x3_stepCount : (0 ≤ x3_stepCount ∧ x3_stepCount ≤ 36)) (h_x3_open : (AI 0 35 x3_open)) (h_x3_openCount : (0 ≤ x3_openCount ∧ x3_openCount ≤ 36)) (h_g3 : (0 ≤ g3 ∧ g3 ≤ 8)) (h_g4 : (0 ≤ g4 ∧ g4 ≤ 7)) (h_g5 : (1 ≤ g5 ∧ g5 ≤ 30)) (h_g7 : (GdOk g7)) (h_g10 : (AI 0 9 g10)) (h_z15 : (0 ≤ z15)) (h_z16 : (0 ≤ z16 ∧ z16 ≤ 20)) (h_z17 : (LnOk z17)) (h_z18 : (WkOk z18)) (h_z19 : (AI 0 99 z19)) (h_z22 : (AI 0 35 z22)) (h_z23 : (AI 0 35 z23)) (h_z25 : (AI 0 19 z25)) (h_z28 : (0 ≤ z28 ∧ z28 ≤ 60)) (h_z30 : (0 ≤ z30 ∧ z30 ≤ 20)) (h_z31 : (0 ≤ z31 ∧ z31 ≤ 8)) (h_z32 : (0 ≤ z32 ∧ z32 ≤ 7)) (h_z33 : (1 ≤ z33 ∧ z33 ≤ 30)) (h_z34 : (LnOk z34)) (h_z35 : (GdOk z35)) (h_z36 : (WkOk z36)) (h_z37 : (AI 0 99 z37)) (h_z38 : (AI 0 9 z38)) : Sf (fX0_costOfPlan_s14 n 40 p2 p3 x0_gained x2_left x2_earned x2_turnCost x2_turnWayless x3_steps x3_nodes x3_stepCount x3_open x3_openCount x3_seen x4_knownFree g3 g4 g5 g7 g10 z14 z15 z16 z17 z18 z19 z20 z21 z22 z23 z24 z25 z26 z27 z28 z29 z30 z31 z32 z33 z34 z35 z36 z37 z38 z39) (LQ (u26 (fun z14 z15 z16 z17 z18 z19 z20 z21 z22 z23 z24 z25 z26 z27 z28 z29 z30 z31 z32 z33 z34 z35 z36 z37 z38 z39 => (0 ≤ z15) ∧ (0 ≤ z16 ∧ z16 ≤ 20) ∧ (LnOk z17) ∧ (WkOk z18) ∧ (AI 0 99 z19) ∧ (AI 0 35 z22) ∧ (AI 0 35 z23) ∧ (AI 0 19 z25) ∧ (0 ≤ z28 ∧ z28 ≤ 60) ∧ (0 ≤ z30 ∧ z30 ≤ 20) ∧ (0 ≤ z31 ∧ z31 ≤ 8) ∧ (0 ≤ z32 ∧ z32 ≤ 7) ∧ (1 ≤ z33 ∧ z33 ≤ 30) ∧ (LnOk z34) ∧ (GdOk z35) ∧ (WkOk z36) ∧ (AI 0 99 z37) ∧ (AI 0 9 z38))) (u26 (fun z14 z15 z16 z17 z18 z19 z20 z21 z22 z23 z24 z25 z26 z27 z28 z29 z30 z31 z32 z33 z34 z35 z36 z37 z38 z39 => muUp z15)) (muUp z15) (fun e => (0 ≤ e.2.1 ∧ e.2.1 ≤ 20) ∧ (LnOk e.2.2.1) ∧ (WkOk e.2.2.2.1) ∧ (AI 0 99 e.2.2.2.2.1) ∧ (AI 0 35 e.2.2.2.2.2.2.2.1) ∧ (AI 0 35 e.2.2.2.2.2.2.2.2.1) ∧ (AI 0 19 e.2.2.2.2.2.2.2.2.2.2.1) ∧ (0 ≤ e.2.2.2.2.2.2.2.2.2.2.2.2.2.1 ∧ e.2.2.2.2.2.2.2.2.2.2.2.2.2.1 ≤ 60) ∧ (0 ≤ e.2.2.2.2.2.2.2.2.2.2.2.2.2.2.2.1 ∧ e.2.2.2.2.2.2.2.2.2.2.2.2.2.2.2.1 ≤ 20) ∧ (0 ≤ e.2.2.2.2.2.2.2.2.2.2.2.2.2.2.2.2.1 ∧ e.2.2.2.2.2.2.2.2.2.2.2.2.2.2.2.2.1 ≤ 8) ∧ (0 ≤ e.2.2.2.2.2.2.2.2.2.2.2.2.2.2.2.2.2.1 ∧ e.2.2.2.2.2.2.2.2.2.2.2.2.2.2.2.2.2.1 ≤ 7) ∧ (1 ≤ e.2.2.2.2.2.2.2.2.2.2.2.2.2.2.2.2.2.2.1 ∧ e.2.2.2.2.2.2.2.2.2.2.2.2.2.2.2.2.2.2.1 ≤ 30) ∧ (LnOk e.2.2.2.2.2.2.2.2.2.2.2.2.2.2.2.2.2.2.2.1) ∧ (GdOk e.2.2.2.2.2.2.2.2.2.2.2.2.2.2.2.2.2.2.2.2.1) ∧ (WkOk e.2.2.2.2.2.2.2.2.2.2.2.2.2.2.2.2.2.2.2.2.2.1) ∧ (AI 0 99 e.2.2.2.2.2.2.2.2.2.2.2.2.2.2.2.2.2.2.2.2.2.2.1) ∧ (AI 0 9 e.2.2.2.2.2.2.2.2.2.2.2.2.2.2.2.2.2.2.2.2.2.2.2.1))) := by
  unfold fX0_costOfPlan_s14
  have h_nat : Int32.ofNat 40 = 40 := rfl
  refine Sf.ite (fun hc1 => ?_) (fun hc1 => ?_)
  · exact Sf.inr (show (0 ≤ z16 ∧ z16 ≤ 20) ∧ (LnOk z17) ∧ (WkOk z18) ∧ (AI 0 99 z19) ∧ (AI 0 35 z22) ∧ (AI 0 35 z23) ∧ (AI 0 19 z25) ∧ (0 ≤ z28 ∧ z28 ≤ 60) ∧ (0 ≤ z30 ∧ z30 ≤ 20) ∧ (0 ≤ z31 ∧ z31 ≤ 8) ∧ (0 ≤ z32 ∧ z32 ≤ 7) ∧ (1 ≤ z33 ∧ z33 ≤ 30) ∧ (LnOk z34) ∧ (GdOk z35) ∧ (WkOk z36) ∧ (AI 0 99 z37) ∧ (AI 0 9 z38) from ⟨h_z16, h_z17, h_z18, h_z19, h_z22, h_z23, h_z25, h_z28, h_z30, h_z31, h_z32, h_z33, h_z34, h_z35, h_z36, h_z37, h_z38⟩)
  · refine Sf.ite (fun hc2 => ?_) (fun hc2 => ?_)
    · exact Sf.inr (show (0 ≤ z16 ∧ z16 ≤ 20) ∧ (LnOk z17) ∧ (WkOk z18) ∧ (AI 0 99 z19) ∧ (AI 0 35 z22) ∧ (AI 0 35 z23) ∧ (AI 0 19 z25) ∧ (0 ≤ z28 ∧ z28 ≤ 60) ∧ (0 ≤ z30 ∧ z30 ≤ 20) ∧ (0 ≤ z31 ∧ z31 ≤ 8) ∧ (0 ≤ z32 ∧ z32 ≤ 7) ∧ (1 ≤ z33 ∧ z33 ≤ 30) ∧ (LnOk z34) ∧ (GdOk z35) ∧ (WkOk z36) ∧ (AI 0 99 z37) ∧ (AI 0 9 z38) from ⟨h_z16, h_z17, h_z18, h_z19, h_z22, h_z23, h_z25, h_z28, h_z30, h_z31, h_z32, h_z33, h_z34, h_z35, h_z36, h_z37, h_z38⟩)
    · refine Sf.rdb 40 rfl (by grind) (fun v66 e_v66 => ?_)
      clear e_v66
      refine Sf.bind (sX0_workTold h_g4 h_z18) ?_
      intro v67 hr3
      have h_v67 : ((-1) ≤ v67 ∧ v67 ≤ 6) := hr3
      refine Sf.bind (sX0_costOfYear hn h_z22 h_z23 h_z25 h_x3_steps h_x3_nodes h_x3_stepCount h_x3_open h_x3_openCount h_z28 h_z30 h_z31 h_z32 h_z33 h_z34 h_z35 h_z36 h_z37 h_z38 h_z16 h_g3 h_g4 h_g5 h_z17 h_g7 h_z18 h_z19 h_g10) ?_
      rintro ⟨v69, ⟨g71, g72, g73, g74, g75, g76, g77, g78⟩, ⟨g80, g81, g82, g83, g84, g85, g86, g87, g88, g89⟩, ⟨g91, g92, g93, g94, g95, g96⟩⟩ hr4
      obtain ⟨h_g71, h_g72, h_g74, h_g77, h_g80, h_g81, h_g82, h_g83, h_g84, h_g85, h_g86, h_g87, h_g88, h_g91, h_g92, h_g93, h_g94⟩ : (AI 0 35 g71) ∧ (AI 0 35 g72) ∧ (AI 0 19 g74) ∧ (0 ≤ g77 ∧ g77 ≤ 60) ∧ (0 ≤ g80 ∧ g80 ≤ 20) ∧ (0 ≤ g81 ∧ g81 ≤ 8) ∧ (0 ≤ g82 ∧ g82 ≤ 7) ∧ (1 ≤ g83 ∧ g83 ≤ 30) ∧ (LnOk g84) ∧ (GdOk g85) ∧ (WkOk g86) ∧ (AI 0 99 g87) ∧ (AI 0 9 g88) ∧ (0 ≤ g91 ∧ g91 ≤ 20) ∧ (LnOk g92) ∧ (WkOk g93) ∧ (AI 0 99 g94) := hr4
      dsimp only [u10, u4, u6, u8]
      exact Sf.inl (show (0 ≤ (z15 + 1)) ∧ (0 ≤ g91 ∧ g91 ≤ 20) ∧ (LnOk g92) ∧ (WkOk g93) ∧ (AI 0 99 g94) ∧ (AI 0 35 g71) ∧ (AI 0 35 g72) ∧ (AI 0 19 g74) ∧ (0 ≤ g77 ∧ g77 ≤ 60) ∧ (0 ≤ g80 ∧ g80 ≤ 20) ∧ (0 ≤ g81 ∧ g81 ≤ 8) ∧ (0 ≤ g82 ∧ g82 ≤ 7) ∧ (1 ≤ g83 ∧ g83 ≤ 30) ∧ (LnOk g84) ∧ (GdOk g85) ∧ (WkOk g86) ∧ (AI 0 99 g87) ∧ (AI 0 9 g88) from ⟨(by grind), h_g91, h_g92, h_g93, h_g94, h_g71, h_g72, h_g74, h_g77, h_g80, h_g81, h_g82, h_g83, h_g84, h_g85, h_g86, h_g87, h_g88⟩) (muUp_lt hc2)
theorem LX0_costOfPlan_s14 {n : Nat} {p2 : (Nat → Int64)} {p3 : Int32} {x0_gained x2_left x2_earned : (Nat → Int32)} {x2_turnCost x2_turnWayless : Int32} {x3_steps x3_nodes : (Nat → Int32)} {x3_stepCount : Int32} {x3_open : (Nat → Int32)} {x3_openCount : Int32} {x3_seen : Int64} {x4_knownFree : (Nat → Int32)} {g3 g4 g5 : Int32} {g7 g10 : (Nat → Int32)} {z14 z15 z16 : Int32} {z17 z18 z19 z20 : (Nat → Int32)} {z21 : Int32} {z22 z23 z24 z25 z26 z27 : (Nat → Int32)} {z28 z29 z30 z31 z32 z33 : Int32} {z34 z35 z36 z37 z38 : (Nat → Int32)} {z39 : Int32} (hn : 1000000000000 ≤ n) (h_x3_steps : (AI 0 22 x3_steps)) (h_x3_nodes : (AI 0 35 x3_nodes)) (h_x3_stepCount : (0 ≤ x3_stepCount ∧ x3_stepCount ≤ 36)) (h_x3_open : (AI 0 35 x3_open)) (h_x3_openCount : (0 ≤ x3_openCount ∧ x3_openCount ≤ 36)) (h_g3 : (0 ≤ g3 ∧ g3 ≤ 8)) (h_g4 : (0 ≤ g4 ∧ g4 ≤ 7)) (h_g5 : (1 ≤ g5 ∧ g5 ≤ 30)) (h_g7 : (GdOk g7)) (h_g10 : (AI 0 9 g10)) (h_z15 : (0 ≤ z15)) (h_z16 : (0 ≤ z16 ∧ z16 ≤ 20)) (h_z17 : (LnOk z17)) (h_z18 : (WkOk z18)) (h_z19 : (AI 0 99 z19)) (h_z22 : (AI 0 35 z22)) (h_z23 : (AI 0 35 z23)) (h_z25 : (AI 0 19 z25)) (h_z28 : (0 ≤ z28 ∧ z28 ≤ 60)) (h_z30 : (0 ≤ z30 ∧ z30 ≤ 20)) (h_z31 : (0 ≤ z31 ∧ z31 ≤ 8)) (h_z32 : (0 ≤ z32 ∧ z32 ≤ 7)) (h_z33 : (1 ≤ z33 ∧ z33 ≤ 30)) (h_z34 : (LnOk z34)) (h_z35 : (GdOk z35)) (h_z36 : (WkOk z36)) (h_z37 : (AI 0 99 z37)) (h_z38 : (AI 0 9 z38)) : Sf (lp (u26 (fX0_costOfPlan_s14 n 40 p2 p3 x0_gained x2_left x2_earned x2_turnCost x2_turnWayless x3_steps x3_nodes x3_stepCount x3_open x3_openCount x3_seen x4_knownFree g3 g4 g5 g7 g10)) n (z14, z15, z16, z17, z18, z19, z20, z21, z22, z23, z24, z25, z26, z27, z28, z29, z30, z31, z32, z33, z34, z35, z36, z37, z38, z39)) (fun e => (0 ≤ e.2.1 ∧ e.2.1 ≤ 20) ∧ (LnOk e.2.2.1) ∧ (WkOk e.2.2.2.1) ∧ (AI 0 99 e.2.2.2.2.1) ∧ (AI 0 35 e.2.2.2.2.2.2.2.1) ∧ (AI 0 35 e.2.2.2.2.2.2.2.2.1) ∧ (AI 0 19 e.2.2.2.2.2.2.2.2.2.2.1) ∧ (0 ≤ e.2.2.2.2.2.2.2.2.2.2.2.2.2.1 ∧ e.2.2.2.2.2.2.2.2.2.2.2.2.2.1 ≤ 60) ∧ (0 ≤ e.2.2.2.2.2.2.2.2.2.2.2.2.2.2.2.1 ∧ e.2.2.2.2.2.2.2.2.2.2.2.2.2.2.2.1 ≤ 20) ∧ (0 ≤ e.2.2.2.2.2.2.2.2.2.2.2.2.2.2.2.2.1 ∧ e.2.2.2.2.2.2.2.2.2.2.2.2.2.2.2.2.1 ≤ 8) ∧ (0 ≤ e.2.2.2.2.2.2.2.2.2.2.2.2.2.2.2.2.2.1 ∧ e.2.2.2.2.2.2.2.2.2.2.2.2.2.2.2.2.2.1 ≤ 7) ∧ (1 ≤ e.2.2.2.2.2.2.2.2.2.2.2.2.2.2.2.2.2.2.1 ∧ e.2.2.2.2.2.2.2.2.2.2.2.2.2.2.2.2.2.2.1 ≤ 30) ∧ (LnOk e.2.2.2.2.2.2.2.2.2.2.2.2.2.2.2.2.2.2.2.1) ∧ (GdOk e.2.2.2.2.2.2.2.2.2.2.2.2.2.2.2.2.2.2.2.2.1) ∧ (WkOk e.2.2.2.2.2.2.2.2.2.2.2.2.2.2.2.2.2.2.2.2.2.1) ∧ (AI 0 99 e.2.2.2.2.2.2.2.2.2.2.2.2.2.2.2.2.2.2.2.2.2.2.1) ∧ (AI 0 9 e.2.2.2.2.2.2.2.2.2.2.2.2.2.2.2.2.2.2.2.2.2.2.2.1)) :=
  Sf.loop26 (fun z14 z15 z16 z17 z18 z19 z20 z21 z22 z23 z24 z25 z26 z27 z28 z29 z30 z31 z32 z33 z34 z35 z36 z37 z38 z39 => (0 ≤ z15) ∧ (0 ≤ z16 ∧ z16 ≤ 20) ∧ (LnOk z17) ∧ (WkOk z18) ∧ (AI 0 99 z19) ∧ (AI 0 35 z22) ∧ (AI 0 35 z23) ∧ (AI 0 19 z25) ∧ (0 ≤ z28 ∧ z28 ≤ 60) ∧ (0 ≤ z30 ∧ z30 ≤ 20) ∧ (0 ≤ z31 ∧ z31 ≤ 8) ∧ (0 ≤ z32 ∧ z32 ≤ 7) ∧ (1 ≤ z33 ∧ z33 ≤ 30) ∧ (LnOk z34) ∧ (GdOk z35) ∧ (WkOk z36) ∧ (AI 0 99 z37) ∧ (AI 0 9 z38)) (fun z14 z15 z16 z17 z18 z19 z20 z21 z22 z23 z24 z25 z26 z27 z28 z29 z30 z31 z32 z33 z34 z35 z36 z37 z38 z39 => muUp z15) (fun z14 z15 z16 z17 z18 z19 z20 z21 z22 z23 z24 z25 z26 z27 z28 z29 z30 z31 z32 z33 z34 z35 z36 z37 z38 z39 h => TX0_costOfPlan_s14 hn h_x3_steps h_x3_nodes h_x3_stepCount h_x3_open h_x3_openCount h_g3 h_g4 h_g5 h_g7 h_g10 h.1 h.2.1 h.2.2.1 h.2.2.2.1 h.2.2.2.2.1 h.2.2.2.2.2.1 h.2.2.2.2.2.2.1 h.2.2.2.2.2.2.2.1 h.2.2.2.2.2.2.2.2.1 h.2.2.2.2.2.2.2.2.2.1 h.2.2.2.2.2.2.2.2.2.2.1 h.2.2.2.2.2.2.2.2.2.2.2.1 h.2.2.2.2.2.2.2.2.2.2.2.2.1 h.2.2.2.2.2.2.2.2.2.2.2.2.2.1 h.2.2.2.2.2.2.2.2.2.2.2.2.2.2.1 h.2.2.2.2.2.2.2.2.2.2.2.2.2.2.2.1 h.2.2.2.2.2.2.2.2.2.2.2.2.2.2.2.2.1 h.2.2.2.2.2.2.2.2.2.2.2.2.2.2.2.2.2) (show (0 ≤ z15) ∧ (0 ≤ z16 ∧ z16 ≤ 20) ∧ (LnOk z17) ∧ (WkOk z18) ∧ (AI 0 99 z19) ∧ (AI 0 35 z22) ∧ (AI 0 35 z23) ∧ (AI 0 19 z25) ∧ (0 ≤ z28 ∧ z28 ≤ 60) ∧ (0 ≤ z30 ∧ z30 ≤ 20) ∧ (0 ≤ z31 ∧ z31 ≤ 8) ∧ (0 ≤ z32 ∧ z32 ≤ 7) ∧ (1 ≤ z33 ∧ z33 ≤ 30) ∧ (LnOk z34) ∧ (GdOk z35) ∧ (WkOk z36) ∧ (AI 0 99 z37) ∧ (AI 0 9 z38) from ⟨h_z15, h_z16, h_z17, h_z18, h_z19, h_z22, h_z23, h_z25, h_z28, h_z30, h_z31, h_z32, h_z33, h_z34, h_z35, h_z36, h_z37, h_z38⟩) (muUp_n hn)
set_option maxHeartbeats 1000000 in
theorem sX0_costOfPlan {n : Nat} {x0_gained : (Nat → Int32)} {x1_lineCount x1_goodsCount x1_workCount x1_years : Int32} {x1_lines x1_goods x1_works x1_change x1_coin x1_knownFree : (Nat → Int32)} {x1_isKnown : Int32} {x2_left x2_earned : (Nat → Int32)} {x2_turnCost x2_turnWayless : Int32} {x3_edgeA x3_edgeB x3_edgeCost x3_edgeLine x3_change x3_away x3_steps x3_nodes : (Nat → Int32)} {x3_stepCount : Int32} {x3_open : (Nat → Int32)} {x3_openCount : Int32} {x3_seen : Int64} {x3_edgeCount x3_aim x4_lineCount x4_goodsCount x4_workCount x4_years : Int32} {x4_lines x4_goods x4_works x4_change x4_coin x4_knownFree : (Nat → Int32)} {x4_isKnown x5_lineCount x5_goodsCount x5_workCount x5_years : Int32} {x5_lines x5_goods x5_works x5_change x5_coin x5_knownFree : (Nat → Int32)} {x5_isKnown : Int32} {p2 : (Nat → Int64)} {p3 : Int32} (hn : 1000000000000 ≤ n) (h_x1_lineCount : (0 ≤ x1_lineCount ∧ x1_lineCount ≤ 20)) (h_x1_goodsCount : (0 ≤ x1_goodsCount ∧ x1_goodsCount ≤ 8)) (h_x1_workCount : (0 ≤ x1_workCount ∧ x1_workCount ≤ 7)) (h_x1_years : (1 ≤ x1_years ∧ x1_years ≤ 30)) (h_x1_lines : (LnOk x1_lines)) (h_x1_goods : (GdOk x1_goods)) (h_x1_works : (WkOk x1_works)) (h_x1_change : (AI 0 99 x1_change)) (h_x1_coin : (AI 0 9 x1_coin)) (h_x3_edgeA : (AI 0 35 x3_edgeA)) (h_x3_edgeB : (AI 0 35 x3_edgeB)) (h_x3_edgeLine : (AI 0 19 x3_edgeLine)) (h_x3_steps : (AI 0 22 x3_steps)) (h_x3_nodes : (AI 0 35 x3_nodes)) (h_x3_stepCount : (0 ≤ x3_stepCount ∧ x3_stepCount ≤ 36)) (h_x3_open : (AI 0 35 x3_open)) (h_x3_openCount : (0 ≤ x3_openCount ∧ x3_openCount ≤ 36)) (h_x3_edgeCount : (0 ≤ x3_edgeCount ∧ x3_edgeCount ≤ 60)) (h_x4_lineCount : (0 ≤ x4_lineCount ∧ x4_lineCount ≤ 20)) (h_x4_goodsCount : (0 ≤ x4_goodsCount ∧ x4_goodsCount ≤ 8)) (h_x4_workCount : (0 ≤ x4_workCount ∧ x4_workCount ≤ 7)) (h_x4_years : (1 ≤ x4_years ∧ x4_years ≤ 30)) (h_x4_lines : (LnOk x4_lines)) (h_x4_goods : (GdOk x4_goods)) (h_x4_works : (WkOk x4_works)) (h_x4_change : (AI 0 99 x4_change)) (h_x4_coin : (AI 0 9 x4_coin)) (h_x5_lineCount : (0 ≤ x5_lineCount ∧ x5_lineCount ≤ 20)) (h_x5_goodsCount : (0 ≤ x5_goodsCount ∧ x5_goodsCount ≤ 8)) (h_x5_workCount : (0 ≤ x5_workCount ∧ x5_workCount ≤ 7)) (h_x5_years : (1 ≤ x5_years ∧ x5_years ≤ 30)) (h_x5_lines : (LnOk x5_lines)) (h_x5_goods : (GdOk x5_goods)) (h_x5_works : (WkOk x5_works)) (h_x5_change : (AI 0 99 x5_change)) (h_x5_coin : (AI 0 9 x5_coin)) : Sf (fX0_costOfPlan n x0_gained (x1_lineCount, x1_goodsCount, x1_workCount, x1_years, x1_lines, x1_goods, x1_works, x1_change, x1_coin, x1_knownFree, x1_isKnown) (x2_left, x2_earned, x2_turnCost, x2_turnWayless) (x3_edgeA, x3_edgeB, x3_edgeCost, x3_edgeLine, x3_change, x3_away, x3_steps, x3_nodes, x3_stepCount, x3_open, x3_openCount, x3_seen, x3_edgeCount, x3_aim) (x4_lineCount, x4_goodsCount, x4_workCount, x4_years, x4_lines, x4_goods, x4_works, x4_change, x4_coin, x4_knownFree, x4_isKnown) (x5_lineCount, x5_goodsCount, x5_workCount, x5_years, x5_lines, x5_goods, x5_works, x5_change, x5_coin, x5_knownFree, x5_isKnown) 40 p2 p3) (fun r => (0 ≤ r.2.1.1 ∧ r.2.1.1 ≤ 20) ∧ (0 ≤ r.2.1.2.1 ∧ r.2.1.2.1 ≤ 8) ∧ (0 ≤ r.2.1.2.2.1 ∧ r.2.1.2.2.1 ≤ 7) ∧ (1 ≤ r.2.1.2.2.2.1 ∧ r.2.1.2.2.2.1 ≤ 30) ∧ (LnOk r.2.1.2.2.2.2.1) ∧ (GdOk r.2.1.2.2.2.2.2.1) ∧ (WkOk r.2.1.2.2.2.2.2.2.1) ∧ (AI 0 99 r.2.1.2.2.2.2.2.2.2.1) ∧ (AI 0 9 r.2.1.2.2.2.2.2.2.2.2.1) ∧ (AI 0 35 r.2.2.1.1) ∧ (AI 0 35 r.2.2.1.2.1) ∧ (AI 0 19 r.2.2.1.2.2.2.1) ∧ (0 ≤ r.2.2.1.2.2.2.2.2.2.1 ∧ r.2.2.1.2.2.2.2.2.2.1 ≤ 60) ∧ (0 ≤ r.2.2.2.1 ∧ r.2.2.2.1 ≤ 20) ∧ (0 ≤ r.2.2.2.2.1 ∧ r.2.2.2.2.1 ≤ 8) ∧ (0 ≤ r.2.2.2.2.2.1 ∧ r.2.2.2.2.2.1 ≤ 7) ∧ (1 ≤ r.2.2.2.2.2.2.1 ∧ r.2.2.2.2.2.2.1 ≤ 30) ∧ (LnOk r.2.2.2.2.2.2.2.1) ∧ (GdOk r.2.2.2.2.2.2.2.2.1) ∧ (WkOk r.2.2.2.2.2.2.2.2.2.1) ∧ (AI 0 99 r.2.2.2.2.2.2.2.2.2.2.1) ∧ (AI 0 9 r.2.2.2.2.2.2.2.2.2.2.2.1)) := by
  unfold fX0_costOfPlan
  dsimp only [u11, u14, u4]
  refine Sf.bind (sX1_take h_x1_lines h_x1_goods h_x1_works h_x1_change h_x1_coin h_x5_lineCount h_x5_goodsCount h_x5_workCount h_x5_years h_x5_lines h_x5_goods h_x5_works h_x5_change h_x5_coin) ?_
  rintro ⟨g2, g3, g4, g5, g6, g7, g8, g9, g10, g11⟩ hr1
  obtain ⟨h_g2, h_g3, h_g4, h_g5, h_g6, h_g7, h_g8, h_g9, h_g10⟩ : (0 ≤ g2 ∧ g2 ≤ 20) ∧ (0 ≤ g3 ∧ g3 ≤ 8) ∧ (0 ≤ g4 ∧ g4 ≤ 7) ∧ (1 ≤ g5 ∧ g5 ≤ 30) ∧ (LnOk g6) ∧ (GdOk g7) ∧ (WkOk g8) ∧ (AI 0 99 g9) ∧ (AI 0 9 g10) := hr1
  dsimp only [u10]
  refine Sf.bind (LX0_costOfPlan_s14 hn h_x3_steps h_x3_nodes h_x3_stepCount h_x3_open h_x3_openCount h_g3 h_g4 h_g5 h_g7 h_g10 (by decide) h_g2 h_g6 h_g8 h_g9 h_x3_edgeA h_x3_edgeB h_x3_edgeLine h_x3_edgeCount h_x4_lineCount h_x4_goodsCount h_x4_workCount h_x4_years h_x4_lines h_x4_goods h_x4_works h_x4_change h_x4_coin) ?_
  rintro ⟨w41, w42, w43, w44, w45, w46, w47, w48, w49, w50, w51, w52, w53, w54, w55, w56, w57, w58, w59, w60, w61, w62, w63, w64, w65⟩ hr2
  obtain ⟨h_w42, h_w43, h_w44, h_w45, h_w48, h_w49, h_w51, h_w54, h_w56, h_w57, h_w58, h_w59, h_w60, h_w61, h_w62, h_w63, h_w64⟩ : (0 ≤ w42 ∧ w42 ≤ 20) ∧ (LnOk w43) ∧ (WkOk w44) ∧ (AI 0 99 w45) ∧ (AI 0 35 w48) ∧ (AI 0 35 w49) ∧ (AI 0 19 w51) ∧ (0 ≤ w54 ∧ w54 ≤ 60) ∧ (0 ≤ w56 ∧ w56 ≤ 20) ∧ (0 ≤ w57 ∧ w57 ≤ 8) ∧ (0 ≤ w58 ∧ w58 ≤ 7) ∧ (1 ≤ w59 ∧ w59 ≤ 30) ∧ (LnOk w60) ∧ (GdOk w61) ∧ (WkOk w62) ∧ (AI 0 99 w63) ∧ (AI 0 9 w64) := hr2
  dsimp only [u25]
  exact Sf.ok (show (0 ≤ w42 ∧ w42 ≤ 20) ∧ (0 ≤ g3 ∧ g3 ≤ 8) ∧ (0 ≤ g4 ∧ g4 ≤ 7) ∧ (1 ≤ g5 ∧ g5 ≤ 30) ∧ (LnOk w43) ∧ (GdOk g7) ∧ (WkOk w44) ∧ (AI 0 99 w45) ∧ (AI 0 9 g10) ∧ (AI 0 35 w48) ∧ (AI 0 35 w49) ∧ (AI 0 19 w51) ∧ (0 ≤ w54 ∧ w54 ≤ 60) ∧ (0 ≤ w56 ∧ w56 ≤ 20) ∧ (0 ≤ w57 ∧ w57 ≤ 8) ∧ (0 ≤ w58 ∧ w58 ≤ 7) ∧ (1 ≤ w59 ∧ w59 ≤ 30) ∧ (LnOk w60) ∧ (GdOk w61) ∧ (WkOk w62) ∧ (AI 0 99 w63) ∧ (AI 0 9 w64) from ⟨h_w42, h_g3, h_g4, h_g5, h_w43, h_g7, h_w44, h_w45, h_g10, h_w48, h_w49, h_w51, h_w54, h_w56, h_w57, h_w58, h_w59, h_w60, h_w61, h_w62, h_w63, h_w64⟩)
set_option maxHeartbeats 1000000 in
theorem sX1_hasGoods {x0_lineCount x0_goodsCount x0_workCount x0_years : Int32} {x0_lines x0_goods x0_works x0_change x0_coin x0_knownFree : (Nat → Int32)} {x0_isKnown p1 : Int32}  (h_x0_lineCount : (0 ≤ x0_lineCount ∧ x0_lineCount ≤ 20)) (h_x0_goodsCount : (0 ≤ x0_goodsCount ∧ x0_goodsCount ≤ 8)) (h_x0_workCount : (0 ≤ x0_workCount ∧ x0_workCount ≤ 7)) (h_x0_years : (1 ≤ x0_years ∧ x0_years ≤ 30)) (h_x0_lines : (LnOk x0_lines)) (h_x0_goods : (GdOk x0_goods)) (h_x0_works : (WkOk x0_works)) (h_x0_change : (AI 0 99 x0_change)) (h_x0_coin : (AI 0 9 x0_coin)) : Sf (fX1_hasGoods (x0_lineCount, x0_goodsCount, x0_workCount, x0_years, x0_lines, x0_goods, x0_works, x0_change, x0_coin, x0_knownFree, x0_isKnown) p1) (fun r => ((r = 1 ∧ 0 ≤ p1 ∧ p1 < x0_goodsCount) ∨ (r = 0 ∧ ¬ (0 ≤ p1 ∧ p1 < x0_goodsCount)))) := by
  unfold fX1_hasGoods
  dsimp only [u11]
  refine Sf.bind (sX6_within ) ?_
  intro v1 hr1
  have hx_v1 : ((v1 = 1 ∧ 0 ≤ p1 ∧ p1 ≤ (x0_goodsCount - 1)) ∨ (v1 = 0 ∧ (p1 < 0 ∨ (x0_goodsCount - 1) < p1))) := hr1
  refine Sf.zbb (by grind) (fun v3 e_v3 => ?_)
  exact Sf.ok (show ((v3 = 1 ∧ 0 ≤ p1 ∧ p1 < x0_goodsCount) ∨ (v3 = 0 ∧ ¬ (0 ≤ p1 ∧ p1 < x0_goodsCount))) from (by grind))
set_option maxHeartbeats 1000000 in
theorem sX1_putCoin {x0_lineCount x0_goodsCount x0_workCount x0_years : Int32} {x0_lines x0_goods x0_works x0_change x0_coin x0_knownFree : (Nat → Int32)} {x0_isKnown p1 p2 : Int32}  (h_x0_lineCount : (0 ≤ x0_lineCount ∧ x0_lineCount ≤ 20)) (h_x0_goodsCount : (0 ≤ x0_goodsCount ∧ x0_goodsCount ≤ 8)) (h_x0_workCount : (0 ≤ x0_workCount ∧ x0_workCount ≤ 7)) (h_x0_years : (1 ≤ x0_years ∧ x0_years ≤ 30)) (h_x0_lines : (LnOk x0_lines)) (h_x0_goods : (GdOk x0_goods)) (h_x0_works : (WkOk x0_works)) (h_x0_change : (AI 0 99 x0_change)) (h_x0_coin : (AI 0 9 x0_coin)) (h_p2 : (0 ≤ p2 ∧ p2 ≤ 9)) : Sf (fX1_putCoin (x0_lineCount, x0_goodsCount, x0_workCount, x0_years, x0_lines, x0_goods, x0_works, x0_change, x0_coin, x0_knownFree, x0_isKnown) p1 p2) (fun r => (AI 0 9 r.1)) := by
  unfold fX1_putCoin
  dsimp only [u11]
  refine Sf.ite (fun hc1 => ?_) (fun hc1 => ?_)
  · exact Sf.ok (show (AI 0 9 x0_coin) from h_x0_coin)
  · refine Sf.ite (fun hc2 => ?_) (fun hc2 => ?_)
    · exact Sf.ok (show (AI 0 9 x0_coin) from h_x0_coin)
    · refine Sf.wrI 3 rfl h_x0_coin (by grind) h_p2 (fun f1 h_f1 e_f1 => ?_)
      clear e_f1
      exact Sf.ok (show (AI 0 9 f1) from h_f1)
set_option maxHeartbeats 1000000 in
theorem sX1_greatestA {x0_lineCount x0_goodsCount x0_workCount x0_years : Int32} {x0_lines x0_goods x0_works x0_change x0_coin x0_knownFree : (Nat → Int32)} {x0_isKnown p1 : Int32}  (h_x0_lineCount : (0 ≤ x0_lineCount ∧ x0_lineCount ≤ 20)) (h_x0_goodsCount : (0 ≤ x0_goodsCount ∧ x0_goodsCount ≤ 8)) (h_x0_workCount : (0 ≤ x0_workCount ∧ x0_workCount ≤ 7)) (h_x0_years : (1 ≤ x0_years ∧ x0_years ≤ 30)) (h_x0_lines : (LnOk x0_lines)) (h_x0_goods : (GdOk x0_goods)) (h_x0_works : (WkOk x0_works)) (h_x0_change : (AI 0 99 x0_change)) (h_x0_coin : (AI 0 9 x0_coin)) : Sf (fX1_greatestA (x0_lineCount, x0_goodsCount, x0_workCount, x0_years, x0_lines, x0_goods, x0_works, x0_change, x0_coin, x0_knownFree, x0_isKnown) p1) (fun r => (r ≤ 19 ∧ ((p1 = 1 ∨ p1 = 2) ∨ r ≤ 11))) := by
  unfold fX1_greatestA
  dsimp only [u11]
  refine Sf.ite (fun hc1 => ?_) (fun hc1 => ?_)
  · exact Sf.ok (show ((x0_lineCount - 1) ≤ 19 ∧ ((p1 = 1 ∨ p1 = 2) ∨ (x0_lineCount - 1) ≤ 11)) from (by grind))
  · refine Sf.ite (fun hc2 => ?_) (fun hc2 => ?_)
    · exact Sf.ok (show ((x0_lineCount - 1) ≤ 19 ∧ ((p1 = 1 ∨ p1 = 2) ∨ (x0_lineCount - 1) ≤ 11)) from (by grind))
    · exact Sf.ok (show (11 ≤ 19 ∧ ((p1 = 1 ∨ p1 = 2) ∨ 11 ≤ 11)) from (by grind))
set_option maxHeartbeats 1000000 in
theorem sX1_greatestB {p1 : Int32}   : Sf (fX1_greatestB p1) (fun r => (r ≤ 99 ∧ (p1 = 1 ∨ p1 = 2 → r ≤ 2) ∧ (p1 = 1 ∨ p1 = 2 ∨ p1 = 3 ∨ r ≤ 11))) := by
  unfold fX1_greatestB
  refine Sf.ite (fun hc1 => ?_) (fun hc1 => ?_)
  · exact Sf.ok (show (2 ≤ 99 ∧ (p1 = 1 ∨ p1 = 2 → 2 ≤ 2) ∧ (p1 = 1 ∨ p1 = 2 ∨ p1 = 3 ∨ 2 ≤ 11)) from (by grind))
  · refine Sf.ite (fun hc2 => ?_) (fun hc2 => ?_)
    · exact Sf.ok (show (2 ≤ 99 ∧ (p1 = 1 ∨ p1 = 2 → 2 ≤ 2) ∧ (p1 = 1 ∨ p1 = 2 ∨ p1 = 3 ∨ 2 ≤ 11)) from (by grind))
    · refine Sf.ite (fun hc3 => ?_) (fun hc3 => ?_)
      · exact Sf.ok (show (99 ≤ 99 ∧ (p1 = 1 ∨ p1 = 2 → 99 ≤ 2) ∧ (p1 = 1 ∨ p1 = 2 ∨ p1 = 3 ∨ 99 ≤ 11)) from (by grind))
      · exact Sf.ok (show (11 ≤ 99 ∧ (p1 = 1 ∨ p1 = 2 → 11 ≤ 2) ∧ (p1 = 1 ∨ p1 = 2 ∨ p1 = 3 ∨ 11 ≤ 11)) from (by grind))
theorem TX6_isUnder_s4 {p1 z2 z3 : Int32}  (h_z3 : (0 ≤ z3)) : Sf (fX6_isUnder_s4 p1 z2 z3) (LQ (u2 (fun z2 z3 => (0 ≤ z3))) (u2 (fun z2 z3 => muUp z3)) (muUp z3) ((Sum.elim (fun a => True) (fun a => True)))) := by
  unfold fX6_isUnder_s4
  refine Sf.ite (fun hc1 => ?_) (fun hc1 => ?_)
  · exact Sf.inr trivial
  · refine Sf.bind (sX6_within ) ?_
    intro v5 hr2
    have hx_v5 : ((v5 = 1 ∧ 0 ≤ z2 ∧ z2 ≤ 5) ∨ (v5 = 0 ∧ (z2 < 0 ∨ 5 < z2))) := hr2
    refine Sf.ite (fun hc3 => ?_) (fun hc3 => ?_)
    · exact Sf.inr trivial
    · refine Sf.ite (fun hc4 => ?_) (fun hc4 => ?_)
      · exact Sf.inr trivial
      · refine Sf.rdb 6 rfl (by grind) (fun v7 e_v7 => ?_)
        clear e_v7
        exact Sf.inl (show (0 ≤ (z3 + 1)) from (by grind)) (muUp_lt hc1)
theorem LX6_isUnder_s4 {n : Nat} {p1 z2 z3 : Int32} (hn : 1000000000000 ≤ n) (h_z3 : (0 ≤ z3)) : Sf (lp (u2 (fX6_isUnder_s4 p1)) n (z2, z3)) ((Sum.elim (fun a => True) (fun a => True))) :=
  Sf.loop2 (fun z2 z3 => (0 ≤ z3)) (fun z2 z3 => muUp z3) (fun z2 z3 h => TX6_isUnder_s4 h) h_z3 (muUp_n hn)
set_option maxHeartbeats 1000000 in
theorem sX6_isUnder {n : Nat} {p0 p1 : Int32} (hn : 1000000000000 ≤ n)  : Sf (fX6_isUnder n p0 p1) (fun r => True) := by
  unfold fX6_isUnder
  refine Sf.bindS (LX6_isUnder_s4 hn (by decide)) ?_ ?_
  · intro _ _
    exact Sf.ok trivial
  · intro _ _
    exact Sf.ok trivial
set_option maxHeartbeats 1000000 in
theorem sX1_allowsWork {n : Nat} {x0_lineCount x0_goodsCount x0_workCount x0_years : Int32} {x0_lines x0_goods x0_works x0_change x0_coin x0_knownFree : (Nat → Int32)} {x0_isKnown p1 p2 p3 : Int32} (hn : 1000000000000 ≤ n) (h_x0_lineCount : (0 ≤ x0_lineCount ∧ x0_lineCount ≤ 20)) (h_x0_goodsCount : (0 ≤ x0_goodsCount ∧ x0_goodsCount ≤ 8)) (h_x0_workCount : (0 ≤ x0_workCount ∧ x0_workCount ≤ 7)) (h_x0_years : (1 ≤ x0_years ∧ x0_years ≤ 30)) (h_x0_lines : (LnOk x0_lines)) (h_x0_goods : (GdOk x0_goods)) (h_x0_works : (WkOk x0_works)) (h_x0_change : (AI 0 99 x0_change)) (h_x0_coin : (AI 0 9 x0_coin)) : Sf (fX1_allowsWork n (x0_lineCount, x0_goodsCount, x0_workCount, x0_years, x0_lines, x0_goods, x0_works, x0_change, x0_coin, x0_knownFree, x0_isKnown) p1 p2 p3) (fun r => (r = 0 ∨ (r = 1 ∧ (0 ≤ p1 ∧ p1 ≤ 5) ∧ (0 ≤ p2 ∧ p2 ≤ 19) ∧ (0 ≤ p3 ∧ p3 ≤ 99) ∧ WkR p1 p2 p3))) := by
  unfold fX1_allowsWork
  dsimp only [u11]
  refine Sf.bind (sX6_within ) ?_
  intro v1 hr1
  have hx_v1 : ((v1 = 1 ∧ 1 ≤ p1 ∧ p1 ≤ 5) ∨ (v1 = 0 ∧ (p1 < 1 ∨ 5 < p1))) := hr1
  refine Sf.ite (fun hc2 => ?_) (fun hc2 => ?_)
  · exact Sf.ok (show (0 = 0 ∨ (0 = 1 ∧ (0 ≤ p1 ∧ p1 ≤ 5) ∧ (0 ≤ p2 ∧ p2 ≤ 19) ∧ (0 ≤ p3 ∧ p3 ≤ 99) ∧ WkR p1 p2 p3)) from (by unfold WkR; grind))
  · refine Sf.bind (sX6_isUnder hn ) ?_
    intro v3 hr3
    refine Sf.ite (fun hc4 => ?_) (fun hc4 => ?_)
    · unfold fX1_allowsWork_j24
      refine Sf.bind (sX1_greatestA h_x0_lineCount h_x0_goodsCount h_x0_workCount h_x0_years h_x0_lines h_x0_goods h_x0_works h_x0_change h_x0_coin) ?_
      intro v5 hr5
      have hx_v5 : (v5 ≤ 19 ∧ ((p1 = 1 ∨ p1 = 2) ∨ v5 ≤ 11)) := hr5
      refine Sf.bind (sX6_within ) ?_
      intro v7 hr6
      have hx_v7 : ((v7 = 1 ∧ 0 ≤ p2 ∧ p2 ≤ v5) ∨ (v7 = 0 ∧ (p2 < 0 ∨ v5 < p2))) := hr6
      refine Sf.ite (fun hc7 => ?_) (fun hc7 => ?_)
      · exact Sf.ok (show (0 = 0 ∨ (0 = 1 ∧ (0 ≤ p1 ∧ p1 ≤ 5) ∧ (0 ≤ p2 ∧ p2 ≤ 19) ∧ (0 ≤ p3 ∧ p3 ≤ 99) ∧ WkR p1 p2 p3)) from (by unfold WkR; grind))
      · refine Sf.bind (sX1_greatestB ) ?_
        intro v9 hr8
        have hx_v9 : (v9 ≤ 99 ∧ (p1 = 1 ∨ p1 = 2 → v9 ≤ 2) ∧ (p1 = 1 ∨ p1 = 2 ∨ p1 = 3 ∨ v9 ≤ 11)) := hr8
        refine Sf.bind (sX6_within ) ?_
        intro v11 hr9
        have hx_v11 : ((v11 = 1 ∧ 0 ≤ p3 ∧ p3 ≤ v9) ∨ (v11 = 0 ∧ (p3 < 0 ∨ v9 < p3))) := hr9
        refine Sf.ite (fun hc10 => ?_) (fun hc10 => ?_)
        · exact Sf.ok (show (0 = 0 ∨ (0 = 1 ∧ (0 ≤ p1 ∧ p1 ≤ 5) ∧ (0 ≤ p2 ∧ p2 ≤ 19) ∧ (0 ≤ p3 ∧ p3 ≤ 99) ∧ WkR p1 p2 p3)) from (by unfold WkR; grind))
        · exact Sf.ok (show (1 = 0 ∨ (1 = 1 ∧ (0 ≤ p1 ∧ p1 ≤ 5) ∧ (0 ≤ p2 ∧ p2 ≤ 19) ∧ (0 ≤ p3 ∧ p3 ≤ 99) ∧ WkR p1 p2 p3)) from (by unfold WkR; grind))
    · refine Sf.ite (fun hc11 => ?_) (fun hc11 => ?_)
      · exact Sf.ok (show (0 = 0 ∨ (0 = 1 ∧ (0 ≤ p1 ∧ p1 ≤ 5) ∧ (0 ≤ p2 ∧ p2 ≤ 19) ∧ (0 ≤ p3 ∧ p3 ≤ 99) ∧ WkR p1 p2 p3)) from (by unfold WkR; grind))
      · unfold fX1_allowsWork_j24
        refine Sf.bind (sX1_greatestA h_x0_lineCount h_x0_goodsCount h_x0_workCount h_x0_years h_x0_lines h_x0_goods h_x0_works h_x0_change h_x0_coin) ?_
        intro v5 hr12
        have hx_v5 : (v5 ≤ 19 ∧ ((p1 = 1 ∨ p1 = 2) ∨ v5 ≤ 11)) := hr12
        refine Sf.bind (sX6_within ) ?_
        intro v7 hr13
        have hx_v7 : ((v7 = 1 ∧ 0 ≤ p2 ∧ p2 ≤ v5) ∨ (v7 = 0 ∧ (p2 < 0 ∨ v5 < p2))) := hr13
        refine Sf.ite (fun hc14 => ?_) (fun hc14 => ?_)
        · exact Sf.ok (show (0 = 0 ∨ (0 = 1 ∧ (0 ≤ p1 ∧ p1 ≤ 5) ∧ (0 ≤ p2 ∧ p2 ≤ 19) ∧ (0 ≤ p3 ∧ p3 ≤ 99) ∧ WkR p1 p2 p3)) from (by unfold WkR; grind))
        · refine Sf.bind (sX1_greatestB ) ?_
          intro v9 hr15
          have hx_v9 : (v9 ≤ 99 ∧ (p1 = 1 ∨ p1 = 2 → v9 ≤ 2) ∧ (p1 = 1 ∨ p1 = 2 ∨ p1 = 3 ∨ v9 ≤ 11)) := hr15
          refine Sf.bind (sX6_within ) ?_
          intro v11 hr16
          have hx_v11 : ((v11 = 1 ∧ 0 ≤ p3 ∧ p3 ≤ v9) ∨ (v11 = 0 ∧ (p3 < 0 ∨ v9 < p3))) := hr16
          refine Sf.ite (fun hc17 => ?_) (fun hc17 => ?_)
          · exact Sf.ok (show (0 = 0 ∨ (0 = 1 ∧ (0 ≤ p1 ∧ p1 ≤ 5) ∧ (0 ≤ p2 ∧ p2 ≤ 19) ∧ (0 ≤ p3 ∧ p3 ≤ 99) ∧ WkR p1 p2 p3)) from (by unfold WkR; grind))
          · exact Sf.ok (show (1 = 0 ∨ (1 = 1 ∧ (0 ≤ p1 ∧ p1 ≤ 5) ∧ (0 ≤ p2 ∧ p2 ≤ 19) ∧ (0 ≤ p3 ∧ p3 ≤ 99) ∧ WkR p1 p2 p3)) from (by unfold WkR; grind))
set_option maxHeartbeats 1000000 in
theorem sX2_has {p0 : Int32}   : Sf (fX2_has p0) (fun r => ((r = 1 ∧ 0 ≤ p0 ∧ p0 ≤ 7) ∨ (r = 0 ∧ (p0 < 0 ∨ 7 < p0)))) := by
  unfold fX2_has
  refine Sf.bind (sX6_within ) ?_
  intro v1 hr1
  have hx_v1 : ((v1 = 1 ∧ 0 ≤ p0 ∧ p0 ≤ 7) ∨ (v1 = 0 ∧ (p0 < 0 ∨ 7 < p0))) := hr1
  refine Sf.zbb (by grind) (fun v3 e_v3 => ?_)
  exact Sf.ok (show ((v3 = 1 ∧ 0 ≤ p0 ∧ p0 ≤ 7) ∨ (v3 = 0 ∧ (p0 < 0 ∨ 7 < p0))) from (by grind))
set_option maxHeartbeats 1000000 in
theorem sX2_hasRow {x0_elements : (Nat → Nat → Int64)} {x0_held x0_sizes : (Nat → Int32)} {p1 : Int32}  (h_x0_held : (AI (-1) 16 x0_held)) (h_x0_sizes : (AI 0 40 x0_sizes)) (h_p1 : (0 ≤ p1 ∧ p1 ≤ 7)) : Sf (fX2_hasRow (x0_elements, x0_held, x0_sizes) p1) (fun r => ((r = 1) ∨ (r = 0))) := by
  unfold fX2_hasRow
  dsimp only [u3]
  refine Sf.rdI 8 rfl h_x0_held (by grind) (fun v1 h_v1 e_v1 => ?_)
  clear e_v1
  refine Sf.bind (sX6_within ) ?_
  intro v2 hr1
  have hx_v2 : ((v2 = 1 ∧ 0 ≤ v1 ∧ v1 ≤ 4) ∨ (v2 = 0 ∧ (v1 < 0 ∨ 4 < v1))) := hr1
  refine Sf.zbb (by grind) (fun v4 e_v4 => ?_)
  exact Sf.ok (show ((v4 = 1) ∨ (v4 = 0)) from (by grind))
set_option maxHeartbeats 1000000 in
theorem sX2_hasWork {x0_elements : (Nat → Nat → Int64)} {x0_held x0_sizes : (Nat → Int32)} {p1 : Int32}  (h_x0_held : (AI (-1) 16 x0_held)) (h_x0_sizes : (AI 0 40 x0_sizes)) (h_p1 : (0 ≤ p1 ∧ p1 ≤ 7)) : Sf (fX2_hasWork (x0_elements, x0_held, x0_sizes) p1) (fun r => True) := by
  unfold fX2_hasWork
  dsimp only [u3]
  refine Sf.rdI 8 rfl h_x0_held (by grind) (fun v1 h_v1 e_v1 => ?_)
  clear e_v1
  refine Sf.ite (fun hc1 => ?_) (fun hc1 => ?_)
  · exact Sf.ok trivial
  · exact Sf.ok trivial
set_option maxHeartbeats 1000000 in
theorem sX2_differ {x0_elements : (Nat → Nat → Int64)} {x0_held x0_sizes : (Nat → Int32)} {p1 p2 : Int32}  (h_x0_held : (AI (-1) 16 x0_held)) (h_x0_sizes : (AI 0 40 x0_sizes)) (h_p1 : (0 ≤ p1 ∧ p1 ≤ 7)) (h_p2 : (0 ≤ p2 ∧ p2 ≤ 7)) : Sf (fX2_differ (x0_elements, x0_held, x0_sizes) p1 p2) (fun r => True) := by
  unfold fX2_differ
  dsimp only [u3]
  refine Sf.rdI 8 rfl h_x0_held (by grind) (fun v1 h_v1 e_v1 => ?_)
  refine Sf.ite (fun hc1 => ?_) (fun hc1 => ?_)
  · exact Sf.ok trivial
  · refine Sf.rdI 8 rfl h_x0_held (by grind) (fun v2 h_v2 e_v2 => ?_)
    refine Sf.ite (fun hc2 => ?_) (fun hc2 => ?_)
    · exact Sf.ok trivial
    · refine Sf.rdI 8 rfl h_x0_held (by grind) (fun v3 h_v3 e_v3 => ?_)
      have hs3 : v3 = v1 := e_v3.trans e_v1.symm
      clear e_v3
      refine Sf.rdI 8 rfl h_x0_held (by grind) (fun v4 h_v4 e_v4 => ?_)
      have hs4 : v4 = v2 := e_v4.trans e_v2.symm
      clear e_v4
      refine Sf.ite (fun hc5 => ?_) (fun hc5 => ?_)
      · exact Sf.ok trivial
      · exact Sf.ok trivial
set_option maxHeartbeats 1000000 in
theorem sX2_workIn {x0_elements : (Nat → Nat → Int64)} {x0_held x0_sizes : (Nat → Int32)} {p1 : Int32}  (h_x0_held : (AI (-1) 16 x0_held)) (h_x0_sizes : (AI 0 40 x0_sizes)) (h_p1 : (0 ≤ p1 ∧ p1 ≤ 7)) : Sf (fX2_workIn (x0_elements, x0_held, x0_sizes) p1) (fun r => True) := by
  unfold fX2_workIn
  dsimp only [u3]
  refine Sf.bind (sX2_hasWork h_x0_held h_x0_sizes h_p1) ?_
  intro v1 hr1
  refine Sf.ite (fun hc2 => ?_) (fun hc2 => ?_)
  · exact Sf.ok trivial
  · refine Sf.rdI 8 rfl h_x0_held (by grind) (fun v3 h_v3 e_v3 => ?_)
    clear e_v3
    exact Sf.ok trivial
theorem TJ7_fill_d0a16_s6 {p1 : Int64} {z2 : Int32} {z3 : (Nat → Int64)}  (h_z2 : (0 ≤ z2)) : Sf (fJ7_fill_d0a16_s6 40 p1 z2 z3) (LQ (u2 (fun z2 z3 => (0 ≤ z2))) (u2 (fun z2 z3 => muUp z2)) (muUp z2) (fun e => True)) := by
  unfold fJ7_fill_d0a16_s6
  have h_nat : Int32.ofNat 40 = 40 := rfl
  refine Sf.ite (fun hc1 => ?_) (fun hc1 => ?_)
  · exact Sf.inr trivial
  · refine Sf.wrb 40 rfl (by grind) (fun f6 e_f6 => ?_)
    clear e_f6
    exact Sf.inl (show (0 ≤ (z2 + 1)) from (by grind)) (muUp_lt hc1)
theorem LJ7_fill_d0a16_s6 {n : Nat} {p1 : Int64} {z2 : Int32} {z3 : (Nat → Int64)} (hn : 1000000000000 ≤ n) (h_z2 : (0 ≤ z2)) : Sf (lp (u2 (fJ7_fill_d0a16_s6 40 p1)) n (z2, z3)) (fun e => True) :=
  Sf.loop2 (fun z2 z3 => (0 ≤ z2)) (fun z2 z3 => muUp z2) (fun z2 z3 h => TJ7_fill_d0a16_s6 h) h_z2 (muUp_n hn)
set_option maxHeartbeats 1000000 in
theorem sJ7_fill_d0a16 {n : Nat} {p0 : (Nat → Int64)} {p1 : Int64} (hn : 1000000000000 ≤ n)  : Sf (fJ7_fill_d0a16 n 40 p0 p1) (fun r => True) := by
  unfold fJ7_fill_d0a16
  refine Sf.bind (LJ7_fill_d0a16_s6 hn (by decide)) ?_
  intro w5 hr1
  exact Sf.ok trivial
set_option maxHeartbeats 1000000 in
theorem sX2_putRow {n : Nat} {x0_elements : (Nat → Nat → Int64)} {x0_held x0_sizes : (Nat → Int32)} {p1 p2 p3 : Int32} (hn : 1000000000000 ≤ n) (h_x0_held : (AI (-1) 16 x0_held)) (h_x0_sizes : (AI 0 40 x0_sizes)) (h_p1 : (0 ≤ p1 ∧ p1 ≤ 7)) (h_p2 : (0 ≤ p2 ∧ p2 ≤ 4)) (h_p3 : (0 ≤ p3 ∧ p3 ≤ 40)) : Sf (fX2_putRow n (x0_elements, x0_held, x0_sizes) p1 p2 p3) (fun r => (AI (-1) 16 r.2.1) ∧ (AI 0 40 r.2.2)) := by
  unfold fX2_putRow
  dsimp only [u3]
  refine Sf.wrI 8 rfl h_x0_held (by grind) (by grind) (fun f1 h_f1 e_f1 => ?_)
  clear e_f1
  refine Sf.wrI 8 rfl h_x0_sizes (by grind) h_p3 (fun f2 h_f2 e_f2 => ?_)
  clear e_f2
  refine Sf.ckb 8 rfl (by grind) (fun q3 e_q3 h_q3 => ?_)
  refine Sf.bind (sJ7_fill_d0a16 hn ) ?_
  intro g4 hr1
  exact Sf.ok (show (AI (-1) 16 f1) ∧ (AI 0 40 f2) from ⟨h_f1, h_f2⟩)
set_option maxHeartbeats 1000000 in
theorem sX2_fitted {p0 : Int32} {p1 : Int64}   : Sf (fX2_fitted p0 p1) (fun r => True) := by
  unfold fX2_fitted
  refine Sf.ite (fun hc1 => ?_) (fun hc1 => ?_)
  · exact Sf.ok trivial
  · refine Sf.ite (fun hc2 => ?_) (fun hc2 => ?_)
    · exact Sf.ok trivial
    · refine Sf.ite (fun hc3 => ?_) (fun hc3 => ?_)
      · exact Sf.ok trivial
      · refine Sf.ite (fun hc4 => ?_) (fun hc4 => ?_)
        · exact Sf.ok trivial
        · refine Sf.ite (fun hc5 => ?_) (fun hc5 => ?_)
          · exact Sf.ok trivial
          · exact Sf.ok trivial
set_option maxHeartbeats 1000000 in
theorem sX2_put {x0_elements : (Nat → Nat → Int64)} {x0_held x0_sizes : (Nat → Int32)} {p1 p2 : Int32} {p3 : Int64}  (h_x0_held : (AI (-1) 16 x0_held)) (h_x0_sizes : (AI 0 40 x0_sizes)) (h_p1 : (0 ≤ p1 ∧ p1 ≤ 7)) (h_p2 : (0 ≤ p2 ∧ p2 ≤ 39)) : Sf (fX2_put (x0_elements, x0_held, x0_sizes) p1 p2 p3) (fun r => True) := by
  unfold fX2_put
  dsimp only [u3]
  refine Sf.ckb 8 rfl (by grind) (fun q1 e_q1 h_q1 => ?_)
  refine Sf.rdI 8 rfl h_x0_held (by grind) (fun v2 h_v2 e_v2 => ?_)
  clear e_v2
  refine Sf.bind (sX2_fitted ) ?_
  intro v3 hr1
  refine Sf.wrb 40 rfl (by grind) (fun f5 e_f5 => ?_)
  clear e_f5
  exact Sf.ok trivial
theorem TX2_dropWorksFrom_s2 {p1 : Int32} {x0_elements : (Nat → Nat → Int64)} {x0_sizes : (Nat → Int32)} {z2 : Int32} {z3 : (Nat → Int32)}  (h_x0_sizes : (AI 0 40 x0_sizes)) (h_z2 : (0 ≤ z2)) (h_z3 : (AI (-1) 16 z3)) : Sf (fX2_dropWorksFrom_s2 p1 x0_elements x0_sizes z2 z3) (LQ (u2 (fun z2 z3 => (0 ≤ z2) ∧ (AI (-1) 16 z3))) (u2 (fun z2 z3 => muUp z2)) (muUp z2) (fun e => (AI (-1) 16 e))) := by
  unfold fX2_dropWorksFrom_s2
  refine Sf.ite (fun hc1 => ?_) (fun hc1 => ?_)
  · exact Sf.inr (show (AI (-1) 16 z3) from h_z3)
  · refine Sf.bind (sX2_workIn h_z3 h_x0_sizes (by grind)) ?_
    intro v6 hr2
    refine Sf.ite (fun hc3 => ?_) (fun hc3 => ?_)
    · exact Sf.inl (show (0 ≤ (z2 + 1)) ∧ (AI (-1) 16 z3) from ⟨(by grind), h_z3⟩) (muUp_lt hc1)
    · refine Sf.wrI 8 rfl h_z3 (by grind) (by decide) (fun f8 h_f8 e_f8 => ?_)
      clear e_f8
      exact Sf.inl (show (0 ≤ (z2 + 1)) ∧ (AI (-1) 16 f8) from ⟨(by grind), h_f8⟩) (muUp_lt hc1)
theorem LX2_dropWorksFrom_s2 {n : Nat} {p1 : Int32} {x0_elements : (Nat → Nat → Int64)} {x0_sizes : (Nat → Int32)} {z2 : Int32} {z3 : (Nat → Int32)} (hn : 1000000000000 ≤ n) (h_x0_sizes : (AI 0 40 x0_sizes)) (h_z2 : (0 ≤ z2)) (h_z3 : (AI (-1) 16 z3)) : Sf (lp (u2 (fX2_dropWorksFrom_s2 p1 x0_elements x0_sizes)) n (z2, z3)) (fun e => (AI (-1) 16 e)) :=
  Sf.loop2 (fun z2 z3 => (0 ≤ z2) ∧ (AI (-1) 16 z3)) (fun z2 z3 => muUp z2) (fun z2 z3 h => TX2_dropWorksFrom_s2 h_x0_sizes h.1 h.2) (show (0 ≤ z2) ∧ (AI (-1) 16 z3) from ⟨h_z2, h_z3⟩) (muUp_n hn)
set_option maxHeartbeats 1000000 in
theorem sX2_dropWorksFrom {n : Nat} {x0_elements : (Nat → Nat → Int64)} {x0_held x0_sizes : (Nat → Int32)} {p1 : Int32} (hn : 1000000000000 ≤ n) (h_x0_held : (AI (-1) 16 x0_held)) (h_x0_sizes : (AI 0 40 x0_sizes)) : Sf (fX2_dropWorksFrom n (x0_elements, x0_held, x0_sizes) p1) (fun r => (AI (-1) 16 r)) := by
  unfold fX2_dropWorksFrom
  dsimp only [u3]
  refine Sf.bind (LX2_dropWorksFrom_s2 hn h_x0_sizes (by decide) h_x0_held) ?_
  intro w5 hr1
  have h_w5 : (AI (-1) 16 w5) := hr1
  exact Sf.ok (show (AI (-1) 16 w5) from h_w5)
theorem TX2_inUse_s4 {x0_held : (Nat → Int32)} {z2 z3 : Int32}  (h_x0_held : (AI (-1) 16 x0_held)) (h_z3 : (0 ≤ z3)) : Sf (fX2_inUse_s4 x0_held z2 z3) (LQ (u2 (fun z2 z3 => (0 ≤ z3))) (u2 (fun z2 z3 => muUp z3)) (muUp z3) (fun e => True)) := by
  unfold fX2_inUse_s4
  refine Sf.ite (fun hc1 => ?_) (fun hc1 => ?_)
  · exact Sf.inr trivial
  · refine Sf.rdI 8 rfl h_x0_held (by grind) (fun v6 h_v6 e_v6 => ?_)
    clear e_v6
    refine Sf.ite (fun hc2 => ?_) (fun hc2 => ?_)
    · exact Sf.inl (show (0 ≤ (z3 + 1)) from (by grind)) (muUp_lt hc1)
    · exact Sf.inl (show (0 ≤ (z3 + 1)) from (by grind)) (muUp_lt hc1)
theorem LX2_inUse_s4 {n : Nat} {x0_held : (Nat → Int32)} {z2 z3 : Int32} (hn : 1000000000000 ≤ n) (h_x0_held : (AI (-1) 16 x0_held)) (h_z3 : (0 ≤ z3)) : Sf (lp (u2 (fX2_inUse_s4 x0_held)) n (z2, z3)) (fun e => True) :=
  Sf.loop2 (fun z2 z3 => (0 ≤ z3)) (fun z2 z3 => muUp z3) (fun z2 z3 h => TX2_inUse_s4 h_x0_held h) h_z3 (muUp_n hn)
set_option maxHeartbeats 1000000 in
theorem sX2_inUse {n : Nat} {x0_elements : (Nat → Nat → Int64)} {x0_held x0_sizes : (Nat → Int32)} (hn : 1000000000000 ≤ n) (h_x0_held : (AI (-1) 16 x0_held)) (h_x0_sizes : (AI 0 40 x0_sizes)) : Sf (fX2_inUse n (x0_elements, x0_held, x0_sizes)) (fun r => True) := by
  unfold fX2_inUse
  dsimp only [u3]
  refine Sf.bind (LX2_inUse_s4 hn h_x0_held (by decide)) ?_
  intro w5 hr1
  exact Sf.ok trivial
end
section
set_option maxHeartbeats 1000000 in
theorem sX3_put {x0_bytes : (Nat → Int32)} {x0_size x0_start x0_end x0_token x0_value p1 : Int32}  (h_x0_size : (0 ≤ x0_size ∧ x0_size ≤ 250)) (h_x0_start : (0 ≤ x0_start ∧ x0_start ≤ 250)) (h_x0_end : (0 ≤ x0_end ∧ x0_end ≤ 250)) : Sf (fX3_put (x0_bytes, x0_size, x0_start, x0_end, x0_token, x0_value) p1) (fun r => (0 ≤ r.2 ∧ r.2 ≤ 250)) := by
  unfold fX3_put
  dsimp only [u6]
  refine Sf.ite (fun hc1 => ?_) (fun hc1 => ?_)
  · exact Sf.ok (show (0 ≤ x0_size ∧ x0_size ≤ 250) from h_x0_size)
  · refine Sf.wrb 250 rfl (by grind) (fun f1 e_f1 => ?_)
    clear e_f1
    exact Sf.ok (show (0 ≤ (x0_size + 1) ∧ (x0_size + 1) ≤ 250) from (by grind))
set_option maxHeartbeats 1000000 in
theorem sX3_tokenAt {x0_bytes : (Nat → Int32)} {x0_size x0_start x0_end x0_token x0_value p1 : Int32}  (h_x0_size : (0 ≤ x0_size ∧ x0_size ≤ 250)) (h_x0_start : (0 ≤ x0_start ∧ x0_start ≤ 250)) (h_x0_end : (0 ≤ x0_end ∧ x0_end ≤ 250)) (h_p1 : (0 ≤ p1)) : Sf (fX3_tokenAt (x0_bytes, x0_size, x0_start, x0_end, x0_token, x0_value) p1) (fun r => (0 ≤ r ∧ r ≤ 4) ∧ (r = 0 ∨ p1 < x0_size)) := by
  unfold fX3_tokenAt
  dsimp only [u6]
  refine Sf.ite (fun hc1 => ?_) (fun hc1 => ?_)
  · refine Sf.rdb 250 rfl (by grind) (fun v1 e_v1 => ?_)
    clear e_v1
    refine Sf.ite (fun hc2 => ?_) (fun hc2 => ?_)
    · unfold fX3_tokenAt_j31
      refine Sf.ite (fun hc3 => ?_) (fun hc3 => ?_)
      · unfold fX3_tokenAt_j45
        refine Sf.ite (fun hc4 => ?_) (fun hc4 => ?_)
        · exact Sf.ok (show (0 ≤ 3 ∧ 3 ≤ 4) ∧ (3 = 0 ∨ p1 < x0_size) from ⟨(by decide), (by grind)⟩)
        · exact Sf.ok (show (0 ≤ 4 ∧ 4 ≤ 4) ∧ (4 = 0 ∨ p1 < x0_size) from ⟨(by decide), (by grind)⟩)
      · refine Sf.ite (fun hc5 => ?_) (fun hc5 => ?_)
        · unfold fX3_tokenAt_j45
          refine Sf.ite (fun hc6 => ?_) (fun hc6 => ?_)
          · exact Sf.ok (show (0 ≤ 3 ∧ 3 ≤ 4) ∧ (3 = 0 ∨ p1 < x0_size) from ⟨(by decide), (by grind)⟩)
          · exact Sf.ok (show (0 ≤ 4 ∧ 4 ≤ 4) ∧ (4 = 0 ∨ p1 < x0_size) from ⟨(by decide), (by grind)⟩)
        · exact Sf.ok (show (0 ≤ 2 ∧ 2 ≤ 4) ∧ (2 = 0 ∨ p1 < x0_size) from ⟨(by decide), (by grind)⟩)
    · refine Sf.ite (fun hc7 => ?_) (fun hc7 => ?_)
      · unfold fX3_tokenAt_j31
        refine Sf.ite (fun hc8 => ?_) (fun hc8 => ?_)
        · unfold fX3_tokenAt_j45
          refine Sf.ite (fun hc9 => ?_) (fun hc9 => ?_)
          · exact Sf.ok (show (0 ≤ 3 ∧ 3 ≤ 4) ∧ (3 = 0 ∨ p1 < x0_size) from ⟨(by decide), (by grind)⟩)
          · exact Sf.ok (show (0 ≤ 4 ∧ 4 ≤ 4) ∧ (4 = 0 ∨ p1 < x0_size) from ⟨(by decide), (by grind)⟩)
        · refine Sf.ite (fun hc10 => ?_) (fun hc10 => ?_)
          · unfold fX3_tokenAt_j45
            refine Sf.ite (fun hc11 => ?_) (fun hc11 => ?_)
            · exact Sf.ok (show (0 ≤ 3 ∧ 3 ≤ 4) ∧ (3 = 0 ∨ p1 < x0_size) from ⟨(by decide), (by grind)⟩)
            · exact Sf.ok (show (0 ≤ 4 ∧ 4 ≤ 4) ∧ (4 = 0 ∨ p1 < x0_size) from ⟨(by decide), (by grind)⟩)
          · exact Sf.ok (show (0 ≤ 2 ∧ 2 ≤ 4) ∧ (2 = 0 ∨ p1 < x0_size) from ⟨(by decide), (by grind)⟩)
      · exact Sf.ok (show (0 ≤ 1 ∧ 1 ≤ 4) ∧ (1 = 0 ∨ p1 < x0_size) from ⟨(by decide), (by grind)⟩)
  · exact Sf.ok (show (0 ≤ 0 ∧ 0 ≤ 4) ∧ (0 = 0 ∨ p1 < x0_size) from ⟨(by decide), (by grind)⟩)
theorem TX3_valueHere_s22 {x0_bytes : (Nat → Int32)} {x0_end z2 z3 : Int32}  (h_x0_end : (0 ≤ x0_end ∧ x0_end ≤ 250)) (h_z3 : (0 ≤ z3)) : Sf (fX3_valueHere_s22 x0_bytes x0_end z2 z3) (LQ (u2 (fun z2 z3 => (0 ≤ z3))) (u2 (fun z2 z3 => muUp z3)) (muUp z3) (fun e => True)) := by
  unfold fX3_valueHere_s22
  refine Sf.ite (fun hc1 => ?_) (fun hc1 => ?_)
  · exact Sf.inr trivial
  · refine Sf.rdb 250 rfl (by grind) (fun v6 e_v6 => ?_)
    clear e_v6
    exact Sf.inl (show (0 ≤ (z3 + 1)) from (by grind)) (muUp_lt hc1)
theorem LX3_valueHere_s22 {n : Nat} {x0_bytes : (Nat → Int32)} {x0_end z2 z3 : Int32} (hn : 1000000000000 ≤ n) (h_x0_end : (0 ≤ x0_end ∧ x0_end ≤ 250)) (h_z3 : (0 ≤ z3)) : Sf (lp (u2 (fX3_valueHere_s22 x0_bytes x0_end)) n (z2, z3)) (fun e => True) :=
  Sf.loop2 (fun z2 z3 => (0 ≤ z3)) (fun z2 z3 => muUp z3) (fun z2 z3 h => TX3_valueHere_s22 h_x0_end h) h_z3 (muUp_n hn)
set_option maxHeartbeats 1000000 in
theorem sX3_valueHere {n : Nat} {x0_bytes : (Nat → Int32)} {x0_size x0_start x0_end x0_token x0_value : Int32} (hn : 1000000000000 ≤ n) (h_x0_size : (0 ≤ x0_size ∧ x0_size ≤ 250)) (h_x0_start : (0 ≤ x0_start ∧ x0_start ≤ 250)) (h_x0_end : (0 ≤ x0_end ∧ x0_end ≤ 250)) : Sf (fX3_valueHere n (x0_bytes, x0_size, x0_start, x0_end, x0_token, x0_value)) (fun r => True) := by
  unfold fX3_valueHere
  dsimp only [u6]
  refine Sf.ite (fun hc1 => ?_) (fun hc1 => ?_)
  · refine Sf.bind (LX3_valueHere_s22 hn h_x0_end (by grind)) ?_
    intro w5 hr2
    exact Sf.ok trivial
  · exact Sf.ok trivial
theorem TX3_next_s5 {x0_bytes : (Nat → Int32)} {x0_size z2 : Int32}  (h_x0_size : (0 ≤ x0_size ∧ x0_size ≤ 250)) (h_z2 : (0 ≤ z2 ∧ z2 ≤ 250)) : Sf (fX3_next_s5 x0_bytes x0_size z2) (LQ (fun (e : Int32) => (0 ≤ e ∧ e ≤ 250)) (fun (e : Int32) => muUp e) (muUp z2) (fun e => (0 ≤ e ∧ e ≤ 250))) := by
  unfold fX3_next_s5
  refine Sf.ite (fun hc1 => ?_) (fun hc1 => ?_)
  · exact Sf.inr (show (0 ≤ z2 ∧ z2 ≤ 250) from h_z2)
  · refine Sf.rdb 250 rfl (by grind) (fun v23 e_v23 => ?_)
    clear e_v23
    refine Sf.ite (fun hc2 => ?_) (fun hc2 => ?_)
    · exact Sf.inl (show (0 ≤ (z2 + 1) ∧ (z2 + 1) ≤ 250) from (by grind)) (muUp_lt hc1)
    · exact Sf.inr (show (0 ≤ z2 ∧ z2 ≤ 250) from h_z2)
theorem LX3_next_s5 {n : Nat} {x0_bytes : (Nat → Int32)} {x0_size z2 : Int32} (hn : 1000000000000 ≤ n) (h_x0_size : (0 ≤ x0_size ∧ x0_size ≤ 250)) (h_z2 : (0 ≤ z2 ∧ z2 ≤ 250)) : Sf (lp (fX3_next_s5 x0_bytes x0_size) n z2) (fun e => (0 ≤ e ∧ e ≤ 250)) :=
  Sf.loop (fun e => (0 ≤ e ∧ e ≤ 250)) (fun e => muUp e) (fun e h => TX3_next_s5 h_x0_size h) n _ h_z2 (muUp_n hn)
theorem TX3_next_s70 {x0_bytes : (Nat → Int32)} {x0_size x0_end x0_value w4 v5 z12 : Int32}  (h_x0_size : (0 ≤ x0_size ∧ x0_size ≤ 250)) (h_x0_end : (0 ≤ x0_end ∧ x0_end ≤ 250)) (h_w4 : (0 ≤ w4 ∧ w4 ≤ 250)) (h_v5 : (0 ≤ v5 ∧ v5 ≤ 4)) (h_z12 : (0 ≤ z12 ∧ z12 ≤ 250)) : Sf (fX3_next_s70 x0_bytes x0_size x0_end x0_value w4 v5 z12) (LQ (fun (e : Int32) => (0 ≤ e ∧ e ≤ 250)) (fun (e : Int32) => muUp e) (muUp z12) (fun e => (0 ≤ e ∧ e ≤ 250))) := by
  unfold fX3_next_s70
  refine Sf.ite (fun hc1 => ?_) (fun hc1 => ?_)
  · exact Sf.inr (show (0 ≤ z12 ∧ z12 ≤ 250) from h_z12)
  · refine Sf.bind (sX3_tokenAt h_x0_size h_w4 h_x0_end (by grind)) ?_
    intro v15 hr2
    obtain ⟨h_v15, hx_v15⟩ : (0 ≤ v15 ∧ v15 ≤ 4) ∧ (v15 = 0 ∨ z12 < x0_size) := hr2
    refine Sf.ite (fun hc3 => ?_) (fun hc3 => ?_)
    · exact Sf.inl (show (0 ≤ (z12 + 1) ∧ (z12 + 1) ≤ 250) from (by grind)) (muUp_lt hc1)
    · exact Sf.inr (show (0 ≤ z12 ∧ z12 ≤ 250) from h_z12)
theorem LX3_next_s70 {n : Nat} {x0_bytes : (Nat → Int32)} {x0_size x0_end x0_value w4 v5 z12 : Int32} (hn : 1000000000000 ≤ n) (h_x0_size : (0 ≤ x0_size ∧ x0_size ≤ 250)) (h_x0_end : (0 ≤ x0_end ∧ x0_end ≤ 250)) (h_w4 : (0 ≤ w4 ∧ w4 ≤ 250)) (h_v5 : (0 ≤ v5 ∧ v5 ≤ 4)) (h_z12 : (0 ≤ z12 ∧ z12 ≤ 250)) : Sf (lp (fX3_next_s70 x0_bytes x0_size x0_end x0_value w4 v5) n z12) (fun e => (0 ≤ e ∧ e ≤ 250)) :=
  Sf.loop (fun e => (0 ≤ e ∧ e ≤ 250)) (fun e => muUp e) (fun e h => TX3_next_s70 h_x0_size h_x0_end h_w4 h_v5 h) n _ h_z12 (muUp_n hn)
theorem TX3_next_s70b {x0_bytes : (Nat → Int32)} {x0_size x0_end x0_value w4 v5 z18 : Int32}  (h_x0_size : (0 ≤ x0_size ∧ x0_size ≤ 250)) (h_x0_end : (0 ≤ x0_end ∧ x0_end ≤ 250)) (h_w4 : (0 ≤ w4 ∧ w4 ≤ 250)) (h_v5 : (0 ≤ v5 ∧ v5 ≤ 4)) (h_z18 : (0 ≤ z18 ∧ z18 ≤ 250)) : Sf (fX3_next_s70b x0_bytes x0_size x0_end x0_value w4 v5 z18) (LQ (fun (e : Int32) => (0 ≤ e ∧ e ≤ 250)) (fun (e : Int32) => muUp e) (muUp z18) (fun e => (0 ≤ e ∧ e ≤ 250))) := by
  unfold fX3_next_s70b
  refine Sf.ite (fun hc1 => ?_) (fun hc1 => ?_)
  · exact Sf.inr (show (0 ≤ z18 ∧ z18 ≤ 250) from h_z18)
  · refine Sf.bind (sX3_tokenAt h_x0_size h_w4 h_x0_end (by grind)) ?_
    intro v21 hr2
    obtain ⟨h_v21, hx_v21⟩ : (0 ≤ v21 ∧ v21 ≤ 4) ∧ (v21 = 0 ∨ z18 < x0_size) := hr2
    refine Sf.ite (fun hc3 => ?_) (fun hc3 => ?_)
    · exact Sf.inl (show (0 ≤ (z18 + 1) ∧ (z18 + 1) ≤ 250) from (by grind)) (muUp_lt hc1)
    · exact Sf.inr (show (0 ≤ z18 ∧ z18 ≤ 250) from h_z18)
theorem LX3_next_s70b {n : Nat} {x0_bytes : (Nat → Int32)} {x0_size x0_end x0_value w4 v5 z18 : Int32} (hn : 1000000000000 ≤ n) (h_x0_size : (0 ≤ x0_size ∧ x0_size ≤ 250)) (h_x0_end : (0 ≤ x0_end ∧ x0_end ≤ 250)) (h_w4 : (0 ≤ w4 ∧ w4 ≤ 250)) (h_v5 : (0 ≤ v5 ∧ v5 ≤ 4)) (h_z18 : (0 ≤ z18 ∧ z18 ≤ 250)) : Sf (lp (fX3_next_s70b x0_bytes x0_size x0_end x0_value w4 v5) n z18) (fun e => (0 ≤ e ∧ e ≤ 250)) :=
  Sf.loop (fun e => (0 ≤ e ∧ e ≤ 250)) (fun e => muUp e) (fun e h => TX3_next_s70b h_x0_size h_x0_end h_w4 h_v5 h) n _ h_z18 (muUp_n hn)
set_option maxHeartbeats 1000000 in
theorem sX3_next {n : Nat} {x0_bytes : (Nat → Int32)} {x0_size x0_start x0_end x0_token x0_value : Int32} (hn : 1000000000000 ≤ n) (h_x0_size : (0 ≤ x0_size ∧ x0_size ≤ 250)) (h_x0_start : (0 ≤ x0_start ∧ x0_start ≤ 250)) (h_x0_end : (0 ≤ x0_end ∧ x0_end ≤ 250)) : Sf (fX3_next n (x0_bytes, x0_size, x0_start, x0_end, x0_token, x0_value)) (fun r => (0 ≤ r.1 ∧ r.1 ≤ 250) ∧ (0 ≤ r.2.1 ∧ r.2.1 ≤ 250)) := by
  unfold fX3_next
  dsimp only [u6]
  refine Sf.bind (LX3_next_s5 hn h_x0_size h_x0_end) ?_
  intro w4 hr1
  have h_w4 : (0 ≤ w4 ∧ w4 ≤ 250) := hr1
  refine Sf.bind (sX3_tokenAt h_x0_size h_w4 h_x0_end (by grind)) ?_
  intro v5 hr2
  obtain ⟨h_v5, hx_v5⟩ : (0 ≤ v5 ∧ v5 ≤ 4) ∧ (v5 = 0 ∨ w4 < x0_size) := hr2
  refine Sf.ite (fun hc3 => ?_) (fun hc3 => ?_)
  · unfold fX3_next_j54
    refine Sf.ite (fun hc4 => ?_) (fun hc4 => ?_)
    · refine Sf.bind (LX3_next_s70 hn h_x0_size h_x0_end h_w4 h_v5 h_w4) ?_
      intro w14 hr5
      have h_w14 : (0 ≤ w14 ∧ w14 ≤ 250) := hr5
      unfold fX3_next_j96
      refine Sf.ite (fun hc6 => ?_) (fun hc6 => ?_)
      · refine Sf.bind (sX3_valueHere hn h_x0_size h_w4 h_w14) ?_
        intro v9 hr7
        exact Sf.ok (show (0 ≤ w4 ∧ w4 ≤ 250) ∧ (0 ≤ w14 ∧ w14 ≤ 250) from ⟨h_w4, h_w14⟩)
      · exact Sf.ok (show (0 ≤ w4 ∧ w4 ≤ 250) ∧ (0 ≤ w14 ∧ w14 ≤ 250) from ⟨h_w4, h_w14⟩)
    · refine Sf.ite (fun hc8 => ?_) (fun hc8 => ?_)
      · refine Sf.bind (LX3_next_s70b hn h_x0_size h_x0_end h_w4 h_v5 h_w4) ?_
        intro w20 hr9
        have h_w20 : (0 ≤ w20 ∧ w20 ≤ 250) := hr9
        unfold fX3_next_j96
        refine Sf.ite (fun hc10 => ?_) (fun hc10 => ?_)
        · refine Sf.bind (sX3_valueHere hn h_x0_size h_w4 h_w20) ?_
          intro v9 hr11
          exact Sf.ok (show (0 ≤ w4 ∧ w4 ≤ 250) ∧ (0 ≤ w20 ∧ w20 ≤ 250) from ⟨h_w4, h_w20⟩)
        · exact Sf.ok (show (0 ≤ w4 ∧ w4 ≤ 250) ∧ (0 ≤ w20 ∧ w20 ≤ 250) from ⟨h_w4, h_w20⟩)
      · unfold fX3_next_j96
        refine Sf.ite (fun hc12 => ?_) (fun hc12 => ?_)
        · refine Sf.bind (sX3_valueHere hn h_x0_size h_w4 h_w4) ?_
          intro v9 hr13
          exact Sf.ok (show (0 ≤ w4 ∧ w4 ≤ 250) ∧ (0 ≤ w4 ∧ w4 ≤ 250) from ⟨h_w4, h_w4⟩)
        · exact Sf.ok (show (0 ≤ w4 ∧ w4 ≤ 250) ∧ (0 ≤ w4 ∧ w4 ≤ 250) from ⟨h_w4, h_w4⟩)
  · unfold fX3_next_j54
    refine Sf.ite (fun hc14 => ?_) (fun hc14 => ?_)
    · refine Sf.bind (LX3_next_s70 hn h_x0_size h_x0_end h_w4 h_v5 (by grind)) ?_
      intro w14 hr15
      have h_w14 : (0 ≤ w14 ∧ w14 ≤ 250) := hr15
      unfold fX3_next_j96
      refine Sf.ite (fun hc16 => ?_) (fun hc16 => ?_)
      · refine Sf.bind (sX3_valueHere hn h_x0_size h_w4 h_w14) ?_
        intro v9 hr17
        exact Sf.ok (show (0 ≤ w4 ∧ w4 ≤ 250) ∧ (0 ≤ w14 ∧ w14 ≤ 250) from ⟨h_w4, h_w14⟩)
      · exact Sf.ok (show (0 ≤ w4 ∧ w4 ≤ 250) ∧ (0 ≤ w14 ∧ w14 ≤ 250) from ⟨h_w4, h_w14⟩)
    · refine Sf.ite (fun hc18 => ?_) (fun hc18 => ?_)
      · refine Sf.bind (LX3_next_s70b hn h_x0_size h_x0_end h_w4 h_v5 (by grind)) ?_
        intro w20 hr19
        have h_w20 : (0 ≤ w20 ∧ w20 ≤ 250) := hr19
        unfold fX3_next_j96
        refine Sf.ite (fun hc20 => ?_) (fun hc20 => ?_)
        · refine Sf.bind (sX3_valueHere hn h_x0_size h_w4 h_w20) ?_
          intro v9 hr21
          exact Sf.ok (show (0 ≤ w4 ∧ w4 ≤ 250) ∧ (0 ≤ w20 ∧ w20 ≤ 250) from ⟨h_w4, h_w20⟩)
        · exact Sf.ok (show (0 ≤ w4 ∧ w4 ≤ 250) ∧ (0 ≤ w20 ∧ w20 ≤ 250) from ⟨h_w4, h_w20⟩)
      · unfold fX3_next_j96
        refine Sf.ite (fun hc22 => ?_) (fun hc22 => ?_)
        · refine Sf.bind (sX3_valueHere hn h_x0_size h_w4 (by grind)) ?_
          intro v9 hr23
          exact Sf.ok (show (0 ≤ w4 ∧ w4 ≤ 250) ∧ (0 ≤ (w4 + 1) ∧ (w4 + 1) ≤ 250) from ⟨h_w4, (by grind)⟩)
        · exact Sf.ok (show (0 ≤ w4 ∧ w4 ≤ 250) ∧ (0 ≤ (w4 + 1) ∧ (w4 + 1) ≤ 250) from ⟨h_w4, (by grind)⟩)
set_option maxHeartbeats 1000000 in
theorem sX3_number {n : Nat} {x0_bytes : (Nat → Int32)} {x0_size x0_start x0_end x0_token x0_value p1 p2 : Int32} (hn : 1000000000000 ≤ n) (h_x0_size : (0 ≤ x0_size ∧ x0_size ≤ 250)) (h_x0_start : (0 ≤ x0_start ∧ x0_start ≤ 250)) (h_x0_end : (0 ≤ x0_end ∧ x0_end ≤ 250)) : Sf (fX3_number n (x0_bytes, x0_size, x0_start, x0_end, x0_token, x0_value) p1 p2) (fun r => (0 ≤ r.2.1 ∧ r.2.1 ≤ 250) ∧ (0 ≤ r.2.2.1 ∧ r.2.2.1 ≤ 250) ∧ (r.1 = (-1) ∨ (p1 ≤ r.1 ∧ r.1 ≤ p2))) := by
  unfold fX3_number
  dsimp only [u6]
  refine Sf.ite (fun hc1 => ?_) (fun hc1 => ?_)
  · refine Sf.bind (sX6_within ) ?_
    intro v1 hr2
    have hx_v1 : ((v1 = 1 ∧ p1 ≤ x0_value ∧ x0_value ≤ p2) ∨ (v1 = 0 ∧ (x0_value < p1 ∨ p2 < x0_value))) := hr2
    refine Sf.ite (fun hc3 => ?_) (fun hc3 => ?_)
    · exact Sf.ok (show (0 ≤ x0_start ∧ x0_start ≤ 250) ∧ (0 ≤ x0_end ∧ x0_end ≤ 250) ∧ ((-1) = (-1) ∨ (p1 ≤ (-1) ∧ (-1) ≤ p2)) from ⟨h_x0_start, h_x0_end, (by grind)⟩)
    · refine Sf.bind (sX3_next hn h_x0_size h_x0_start h_x0_end) ?_
      rintro ⟨g3, g4, g5, g6⟩ hr4
      obtain ⟨h_g3, h_g4⟩ : (0 ≤ g3 ∧ g3 ≤ 250) ∧ (0 ≤ g4 ∧ g4 ≤ 250) := hr4
      dsimp only [u4]
      exact Sf.ok (show (0 ≤ g3 ∧ g3 ≤ 250) ∧ (0 ≤ g4 ∧ g4 ≤ 250) ∧ (x0_value = (-1) ∨ (p1 ≤ x0_value ∧ x0_value ≤ p2)) from ⟨h_g3, h_g4, (by grind)⟩)
  · exact Sf.ok (show (0 ≤ x0_start ∧ x0_start ≤ 250) ∧ (0 ≤ x0_end ∧ x0_end ≤ 250) ∧ ((-1) = (-1) ∨ (p1 ≤ (-1) ∧ (-1) ≤ p2)) from ⟨h_x0_start, h_x0_end, (by grind)⟩)
set_option maxHeartbeats 1000000 in
theorem sX3_perhaps {n : Nat} {x0_bytes : (Nat → Int32)} {x0_size x0_start x0_end x0_token x0_value : Int32} {p1 : Nat} {p2 p3 p4 : Int32} (hn : 1000000000000 ≤ n) (h_x0_size : (0 ≤ x0_size ∧ x0_size ≤ 250)) (h_x0_start : (0 ≤ x0_start ∧ x0_start ≤ 250)) (h_x0_end : (0 ≤ x0_end ∧ x0_end ≤ 250)) (he_0 : p1 < 20) : Sf (fX3_perhaps n (x0_bytes, x0_size, x0_start, x0_end, x0_token, x0_value) p1 p2 p3 p4) (fun r => (0 ≤ r.2.1 ∧ r.2.1 ≤ 250) ∧ (0 ≤ r.2.2.1 ∧ r.2.2.1 ≤ 250) ∧ (r.1 = (-1) ∨ (p2 ≤ r.1 ∧ r.1 ≤ p3) ∨ r.1 = p4)) := by
  unfold fX3_perhaps
  dsimp only [u6]
  refine Sf.bind (sX3_isWord hn h_x0_start h_x0_end (by first | assumption | decide)) ?_
  intro v1 hr1
  have h_v1 : (0 ≤ v1 ∧ v1 ≤ 1) := hr1
  refine Sf.ite (fun hc2 => ?_) (fun hc2 => ?_)
  · exact Sf.ok (show (0 ≤ x0_start ∧ x0_start ≤ 250) ∧ (0 ≤ x0_end ∧ x0_end ≤ 250) ∧ (p4 = (-1) ∨ (p2 ≤ p4 ∧ p4 ≤ p3) ∨ p4 = p4) from ⟨h_x0_start, h_x0_end, (by grind)⟩)
  · refine Sf.bind (sX3_next hn h_x0_size h_x0_start h_x0_end) ?_
    rintro ⟨g3, g4, g5, g6⟩ hr3
    obtain ⟨h_g3, h_g4⟩ : (0 ≤ g3 ∧ g3 ≤ 250) ∧ (0 ≤ g4 ∧ g4 ≤ 250) := hr3
    dsimp only [u4]
    refine Sf.bind (sX3_number hn h_x0_size h_g3 h_g4) ?_
    rintro ⟨v8, g9, g10, g11, g12⟩ hr4
    obtain ⟨h_g9, h_g10, hx_v8⟩ : (0 ≤ g9 ∧ g9 ≤ 250) ∧ (0 ≤ g10 ∧ g10 ≤ 250) ∧ (v8 = (-1) ∨ (p2 ≤ v8 ∧ v8 ≤ p3)) := hr4
    dsimp only [u5]
    exact Sf.ok (show (0 ≤ g9 ∧ g9 ≤ 250) ∧ (0 ≤ g10 ∧ g10 ≤ 250) ∧ (v8 = (-1) ∨ (p2 ≤ v8 ∧ v8 ≤ p3) ∨ v8 = p4) from ⟨h_g9, h_g10, (by grind)⟩)
set_option maxHeartbeats 1000000 in
theorem sX3_numberUnlike {n : Nat} {x0_bytes : (Nat → Int32)} {x0_size x0_start x0_end x0_token x0_value p1 p2 : Int32} (hn : 1000000000000 ≤ n) (h_x0_size : (0 ≤ x0_size ∧ x0_size ≤ 250)) (h_x0_start : (0 ≤ x0_start ∧ x0_start ≤ 250)) (h_x0_end : (0 ≤ x0_end ∧ x0_end ≤ 250)) : Sf (fX3_numberUnlike n (x0_bytes, x0_size, x0_start, x0_end, x0_token, x0_value) p1 p2) (fun r => (0 ≤ r.2.1 ∧ r.2.1 ≤ 250) ∧ (0 ≤ r.2.2.1 ∧ r.2.2.1 ≤ 250) ∧ (r.1 = (-1) ∨ (0 ≤ r.1 ∧ r.1 ≤ p2))) := by
  unfold fX3_numberUnlike
  dsimp only [u6]
  refine Sf.ite (fun hc1 => ?_) (fun hc1 => ?_)
  · refine Sf.ite (fun hc2 => ?_) (fun hc2 => ?_)
    · exact Sf.ok (show (0 ≤ x0_start ∧ x0_start ≤ 250) ∧ (0 ≤ x0_end ∧ x0_end ≤ 250) ∧ ((-1) = (-1) ∨ (0 ≤ (-1) ∧ (-1) ≤ p2)) from ⟨h_x0_start, h_x0_end, (by grind)⟩)
    · refine Sf.bind (sX3_number hn h_x0_size h_x0_start h_x0_end) ?_
      rintro ⟨v7, g8, g9, g10, g11⟩ hr3
      obtain ⟨h_g8, h_g9, hx_v7⟩ : (0 ≤ g8 ∧ g8 ≤ 250) ∧ (0 ≤ g9 ∧ g9 ≤ 250) ∧ (v7 = (-1) ∨ (0 ≤ v7 ∧ v7 ≤ p2)) := hr3
      dsimp only [u5]
      exact Sf.ok (show (0 ≤ g8 ∧ g8 ≤ 250) ∧ (0 ≤ g9 ∧ g9 ≤ 250) ∧ (v7 = (-1) ∨ (0 ≤ v7 ∧ v7 ≤ p2)) from ⟨h_g8, h_g9, (by grind)⟩)
  · refine Sf.bind (sX3_number hn h_x0_size h_x0_start h_x0_end) ?_
    rintro ⟨v1, g2, g3, g4, g5⟩ hr4
    obtain ⟨h_g2, h_g3, hx_v1⟩ : (0 ≤ g2 ∧ g2 ≤ 250) ∧ (0 ≤ g3 ∧ g3 ≤ 250) ∧ (v1 = (-1) ∨ (0 ≤ v1 ∧ v1 ≤ p2)) := hr4
    dsimp only [u5]
    exact Sf.ok (show (0 ≤ g2 ∧ g2 ≤ 250) ∧ (0 ≤ g3 ∧ g3 ≤ 250) ∧ (v1 = (-1) ∨ (0 ≤ v1 ∧ v1 ≤ p2)) from ⟨h_g2, h_g3, (by grind)⟩)
set_option maxHeartbeats 1000000 in
theorem sX3_readLine {n : Nat} {x0_bytes : (Nat → Int32)} {x0_size x0_start x0_end x0_token x0_value x1_lineCount x1_goodsCount x1_workCount x1_years : Int32} {x1_lines x1_goods x1_works x1_change x1_coin x1_knownFree : (Nat → Int32)} {x1_isKnown : Int32} (hn : 1000000000000 ≤ n) (h_x0_size : (0 ≤ x0_size ∧ x0_size ≤ 250)) (h_x0_start : (0 ≤ x0_start ∧ x0_start ≤ 250)) (h_x0_end : (0 ≤ x0_end ∧ x0_end ≤ 250)) (h_x1_lineCount : (0 ≤ x1_lineCount ∧ x1_lineCount ≤ 20)) (h_x1_goodsCount : (0 ≤ x1_goodsCount ∧ x1_goodsCount ≤ 8)) (h_x1_workCount : (0 ≤ x1_workCount ∧ x1_workCount ≤ 7)) (h_x1_years : (1 ≤ x1_years ∧ x1_years ≤ 30)) (h_x1_lines : (LnOk x1_lines)) (h_x1_goods : (GdOk x1_goods)) (h_x1_works : (WkOk x1_works)) (h_x1_change : (AI 0 99 x1_change)) (h_x1_coin : (AI 0 9 x1_coin)) : Sf (fX3_readLine n (x0_bytes, x0_size, x0_start, x0_end, x0_token, x0_value) (x1_lineCount, x1_goodsCount, x1_workCount, x1_years, x1_lines, x1_goods, x1_works, x1_change, x1_coin, x1_knownFree, x1_isKnown)) (fun r => (0 ≤ r.1 ∧ r.1 ≤ 1) ∧ (0 ≤ r.2.1 ∧ r.2.1 ≤ 250) ∧ (0 ≤ r.2.2.1 ∧ r.2.2.1 ≤ 250) ∧ (0 ≤ r.2.2.2.2.2.1 ∧ r.2.2.2.2.2.1 ≤ 20) ∧ (LnOk r.2.2.2.2.2.2.1)) := by
  unfold fX3_readLine
  dsimp only [u11, u6]
  refine Sf.bind (sX3_next hn h_x0_size h_x0_start h_x0_end) ?_
  rintro ⟨g1, g2, g3, g4⟩ hr1
  obtain ⟨h_g1, h_g2⟩ : (0 ≤ g1 ∧ g1 ≤ 250) ∧ (0 ≤ g2 ∧ g2 ≤ 250) := hr1
  dsimp only [u4]
  refine Sf.bind (sX3_number hn h_x0_size h_g1 h_g2) ?_
  rintro ⟨v6, g7, g8, g9, g10⟩ hr2
  obtain ⟨h_g7, h_g8, hx_v6⟩ : (0 ≤ g7 ∧ g7 ≤ 250) ∧ (0 ≤ g8 ∧ g8 ≤ 250) ∧ (v6 = (-1) ∨ (0 ≤ v6 ∧ v6 ≤ 11)) := hr2
  dsimp only [u5]
  refine Sf.ite (fun hc3 => ?_) (fun hc3 => ?_)
  · unfold fX3_readLine_j28
    refine Sf.ite (fun hc4 => ?_) (fun hc4 => absurd (by decide) hc4)
    exact Sf.ok (show (0 ≤ 0 ∧ 0 ≤ 1) ∧ (0 ≤ g7 ∧ g7 ≤ 250) ∧ (0 ≤ g8 ∧ g8 ≤ 250) ∧ (0 ≤ x1_lineCount ∧ x1_lineCount ≤ 20) ∧ (LnOk x1_lines) from ⟨(by decide), h_g7, h_g8, h_x1_lineCount, h_x1_lines⟩)
  · refine Sf.bind (sX3_numberUnlike hn h_x0_size h_g7 h_g8) ?_
    rintro ⟨v64, g65, g66, g67, g68⟩ hr5
    obtain ⟨h_g65, h_g66, hx_v64⟩ : (0 ≤ g65 ∧ g65 ≤ 250) ∧ (0 ≤ g66 ∧ g66 ≤ 250) ∧ (v64 = (-1) ∨ (0 ≤ v64 ∧ v64 ≤ 11)) := hr5
    dsimp only [u5]
    unfold fX3_readLine_j28
    refine Sf.ite (fun hc6 => ?_) (fun hc6 => ?_)
    · exact Sf.ok (show (0 ≤ 0 ∧ 0 ≤ 1) ∧ (0 ≤ g65 ∧ g65 ≤ 250) ∧ (0 ≤ g66 ∧ g66 ≤ 250) ∧ (0 ≤ x1_lineCount ∧ x1_lineCount ≤ 20) ∧ (LnOk x1_lines) from ⟨(by decide), h_g65, h_g66, h_x1_lineCount, h_x1_lines⟩)
    · refine Sf.bind (sX3_isWord hn h_g65 h_g66 (by first | assumption | decide)) ?_
      intro v17 hr7
      have h_v17 : (0 ≤ v17 ∧ v17 ≤ 1) := hr7
      refine Sf.ite (fun hc8 => ?_) (fun hc8 => ?_)
      · exact Sf.ok (show (0 ≤ 0 ∧ 0 ≤ 1) ∧ (0 ≤ g65 ∧ g65 ≤ 250) ∧ (0 ≤ g66 ∧ g66 ≤ 250) ∧ (0 ≤ x1_lineCount ∧ x1_lineCount ≤ 20) ∧ (LnOk x1_lines) from ⟨(by decide), h_g65, h_g66, h_x1_lineCount, h_x1_lines⟩)
      · refine Sf.bind (sX3_next hn h_x0_size h_g65 h_g66) ?_
        rintro ⟨g19, g20, g21, g22⟩ hr9
        obtain ⟨h_g19, h_g20⟩ : (0 ≤ g19 ∧ g19 ≤ 250) ∧ (0 ≤ g20 ∧ g20 ≤ 250) := hr9
        dsimp only [u4]
        refine Sf.bind (sX3_number hn h_x0_size h_g19 h_g20) ?_
        rintro ⟨v24, g25, g26, g27, g28⟩ hr10
        obtain ⟨h_g25, h_g26, hx_v24⟩ : (0 ≤ g25 ∧ g25 ≤ 250) ∧ (0 ≤ g26 ∧ g26 ≤ 250) ∧ (v24 = (-1) ∨ (1 ≤ v24 ∧ v24 ≤ 7)) := hr10
        dsimp only [u5]
        refine Sf.ite (fun hc11 => ?_) (fun hc11 => ?_)
        · exact Sf.ok (show (0 ≤ 0 ∧ 0 ≤ 1) ∧ (0 ≤ g25 ∧ g25 ≤ 250) ∧ (0 ≤ g26 ∧ g26 ≤ 250) ∧ (0 ≤ x1_lineCount ∧ x1_lineCount ≤ 20) ∧ (LnOk x1_lines) from ⟨(by decide), h_g25, h_g26, h_x1_lineCount, h_x1_lines⟩)
        · refine Sf.bind (sX3_isWord hn h_g25 h_g26 (by first | assumption | decide)) ?_
          intro v30 hr12
          have h_v30 : (0 ≤ v30 ∧ v30 ≤ 1) := hr12
          refine Sf.ite (fun hc13 => ?_) (fun hc13 => ?_)
          · exact Sf.ok (show (0 ≤ 0 ∧ 0 ≤ 1) ∧ (0 ≤ g25 ∧ g25 ≤ 250) ∧ (0 ≤ g26 ∧ g26 ≤ 250) ∧ (0 ≤ x1_lineCount ∧ x1_lineCount ≤ 20) ∧ (LnOk x1_lines) from ⟨(by decide), h_g25, h_g26, h_x1_lineCount, h_x1_lines⟩)
          · refine Sf.bind (sX3_next hn h_x0_size h_g25 h_g26) ?_
            rintro ⟨g32, g33, g34, g35⟩ hr14
            obtain ⟨h_g32, h_g33⟩ : (0 ≤ g32 ∧ g32 ≤ 250) ∧ (0 ≤ g33 ∧ g33 ≤ 250) := hr14
            dsimp only [u4]
            refine Sf.bind (sX3_number hn h_x0_size h_g32 h_g33) ?_
            rintro ⟨v37, g38, g39, g40, g41⟩ hr15
            obtain ⟨h_g38, h_g39, hx_v37⟩ : (0 ≤ g38 ∧ g38 ≤ 250) ∧ (0 ≤ g39 ∧ g39 ≤ 250) ∧ (v37 = (-1) ∨ (1 ≤ v37 ∧ v37 ≤ 60)) := hr15
            dsimp only [u5]
            refine Sf.ite (fun hc16 => ?_) (fun hc16 => ?_)
            · exact Sf.ok (show (0 ≤ 0 ∧ 0 ≤ 1) ∧ (0 ≤ g38 ∧ g38 ≤ 250) ∧ (0 ≤ g39 ∧ g39 ≤ 250) ∧ (0 ≤ x1_lineCount ∧ x1_lineCount ≤ 20) ∧ (LnOk x1_lines) from ⟨(by decide), h_g38, h_g39, h_x1_lineCount, h_x1_lines⟩)
            · refine Sf.bind (sX3_perhaps hn h_x0_size h_g38 h_g39 (by first | assumption | decide)) ?_
              rintro ⟨v43, g44, g45, g46, g47⟩ hr17
              obtain ⟨h_g44, h_g45, hx_v43⟩ : (0 ≤ g44 ∧ g44 ≤ 250) ∧ (0 ≤ g45 ∧ g45 ≤ 250) ∧ (v43 = (-1) ∨ (1 ≤ v43 ∧ v43 ≤ 999) ∨ v43 = 999) := hr17
              dsimp only [u5]
              refine Sf.ite (fun hc18 => ?_) (fun hc18 => ?_)
              · unfold fX3_readLine_j130
                refine Sf.ite (fun hc19 => ?_) (fun hc19 => absurd (by decide) hc19)
                exact Sf.ok (show (0 ≤ 0 ∧ 0 ≤ 1) ∧ (0 ≤ g44 ∧ g44 ≤ 250) ∧ (0 ≤ g45 ∧ g45 ≤ 250) ∧ (0 ≤ x1_lineCount ∧ x1_lineCount ≤ 20) ∧ (LnOk x1_lines) from ⟨(by decide), h_g44, h_g45, h_x1_lineCount, h_x1_lines⟩)
              · refine Sf.bind (sX3_perhaps hn h_x0_size h_g44 h_g45 (by first | assumption | decide)) ?_
                rintro ⟨v58, g59, g60, g61, g62⟩ hr20
                obtain ⟨h_g59, h_g60, hx_v58⟩ : (0 ≤ g59 ∧ g59 ≤ 250) ∧ (0 ≤ g60 ∧ g60 ≤ 250) ∧ (v58 = (-1) ∨ (0 ≤ v58 ∧ v58 ≤ 5) ∨ v58 = 0) := hr20
                dsimp only [u5]
                unfold fX3_readLine_j130
                refine Sf.ite (fun hc21 => ?_) (fun hc21 => ?_)
                · exact Sf.ok (show (0 ≤ 0 ∧ 0 ≤ 1) ∧ (0 ≤ g59 ∧ g59 ≤ 250) ∧ (0 ≤ g60 ∧ g60 ≤ 250) ∧ (0 ≤ x1_lineCount ∧ x1_lineCount ≤ 20) ∧ (LnOk x1_lines) from ⟨(by decide), h_g59, h_g60, h_x1_lineCount, h_x1_lines⟩)
                · refine Sf.bind (sX1_addLine h_x1_lineCount h_x1_lines (by grind) (by grind) (by grind) (by grind) (by grind) (by grind)) ?_
                  rintro ⟨g54, g55, g56⟩ hr22
                  obtain ⟨h_g54, h_g55⟩ : (0 ≤ g54 ∧ g54 ≤ 20) ∧ (LnOk g55) := hr22
                  dsimp only [u3]
                  exact Sf.ok (show (0 ≤ 1 ∧ 1 ≤ 1) ∧ (0 ≤ g59 ∧ g59 ≤ 250) ∧ (0 ≤ g60 ∧ g60 ≤ 250) ∧ (0 ≤ g54 ∧ g54 ≤ 20) ∧ (LnOk g55) from ⟨(by decide), h_g59, h_g60, h_g54, h_g55⟩)
set_option maxHeartbeats 1000000 in
theorem sX3_readGoods {n : Nat} {x0_bytes : (Nat → Int32)} {x0_size x0_start x0_end x0_token x0_value x1_lineCount x1_goodsCount x1_workCount x1_years : Int32} {x1_lines x1_goods x1_works x1_change x1_coin x1_knownFree : (Nat → Int32)} {x1_isKnown : Int32} (hn : 1000000000000 ≤ n) (h_x0_size : (0 ≤ x0_size ∧ x0_size ≤ 250)) (h_x0_start : (0 ≤ x0_start ∧ x0_start ≤ 250)) (h_x0_end : (0 ≤ x0_end ∧ x0_end ≤ 250)) (h_x1_lineCount : (0 ≤ x1_lineCount ∧ x1_lineCount ≤ 20)) (h_x1_goodsCount : (0 ≤ x1_goodsCount ∧ x1_goodsCount ≤ 8)) (h_x1_workCount : (0 ≤ x1_workCount ∧ x1_workCount ≤ 7)) (h_x1_years : (1 ≤ x1_years ∧ x1_years ≤ 30)) (h_x1_lines : (LnOk x1_lines)) (h_x1_goods : (GdOk x1_goods)) (h_x1_works : (WkOk x1_works)) (h_x1_change : (AI 0 99 x1_change)) (h_x1_coin : (AI 0 9 x1_coin)) : Sf (fX3_readGoods n (x0_bytes, x0_size, x0_start, x0_end, x0_token, x0_value) (x1_lineCount, x1_goodsCount, x1_workCount, x1_years, x1_lines, x1_goods, x1_works, x1_change, x1_coin, x1_knownFree, x1_isKnown)) (fun r => (0 ≤ r.1 ∧ r.1 ≤ 1) ∧ (0 ≤ r.2.1 ∧ r.2.1 ≤ 250) ∧ (0 ≤ r.2.2.1 ∧ r.2.2.1 ≤ 250) ∧ (0 ≤ r.2.2.2.2.2.1 ∧ r.2.2.2.2.2.1 ≤ 8) ∧ (GdOk r.2.2.2.2.2.2.1)) := by
  unfold fX3_readGoods
  dsimp only [u11, u6]
  refine Sf.bind (sX3_next hn h_x0_size h_x0_start h_x0_end) ?_
  rintro ⟨g1, g2, g3, g4⟩ hr1
  obtain ⟨h_g1, h_g2⟩ : (0 ≤ g1 ∧ g1 ≤ 250) ∧ (0 ≤ g2 ∧ g2 ≤ 250) := hr1
  dsimp only [u4]
  refine Sf.bind (sX3_number hn h_x0_size h_g1 h_g2) ?_
  rintro ⟨v6, g7, g8, g9, g10⟩ hr2
  obtain ⟨h_g7, h_g8, hx_v6⟩ : (0 ≤ g7 ∧ g7 ≤ 250) ∧ (0 ≤ g8 ∧ g8 ≤ 250) ∧ (v6 = (-1) ∨ (0 ≤ v6 ∧ v6 ≤ 11)) := hr2
  dsimp only [u5]
  refine Sf.ite (fun hc3 => ?_) (fun hc3 => ?_)
  · unfold fX3_readGoods_j28
    refine Sf.ite (fun hc4 => ?_) (fun hc4 => absurd (by decide) hc4)
    unfold fX3_readGoods_j45
    refine Sf.ite (fun hc5 => ?_) (fun hc5 => absurd (by decide) hc5)
    exact Sf.ok (show (0 ≤ 0 ∧ 0 ≤ 1) ∧ (0 ≤ g7 ∧ g7 ≤ 250) ∧ (0 ≤ g8 ∧ g8 ≤ 250) ∧ (0 ≤ x1_goodsCount ∧ x1_goodsCount ≤ 8) ∧ (GdOk x1_goods) from ⟨(by decide), h_g7, h_g8, h_x1_goodsCount, h_x1_goods⟩)
  · refine Sf.bind (sX3_numberUnlike hn h_x0_size h_g7 h_g8) ?_
    rintro ⟨v32, g33, g34, g35, g36⟩ hr6
    obtain ⟨h_g33, h_g34, hx_v32⟩ : (0 ≤ g33 ∧ g33 ≤ 250) ∧ (0 ≤ g34 ∧ g34 ≤ 250) ∧ (v32 = (-1) ∨ (0 ≤ v32 ∧ v32 ≤ 11)) := hr6
    dsimp only [u5]
    unfold fX3_readGoods_j28
    refine Sf.ite (fun hc7 => ?_) (fun hc7 => ?_)
    · unfold fX3_readGoods_j45
      refine Sf.ite (fun hc8 => ?_) (fun hc8 => absurd (by decide) hc8)
      exact Sf.ok (show (0 ≤ 0 ∧ 0 ≤ 1) ∧ (0 ≤ g33 ∧ g33 ≤ 250) ∧ (0 ≤ g34 ∧ g34 ≤ 250) ∧ (0 ≤ x1_goodsCount ∧ x1_goodsCount ≤ 8) ∧ (GdOk x1_goods) from ⟨(by decide), h_g33, h_g34, h_x1_goodsCount, h_x1_goods⟩)
    · refine Sf.bind (sX3_number hn h_x0_size h_g33 h_g34) ?_
      rintro ⟨v26, g27, g28, g29, g30⟩ hr9
      obtain ⟨h_g27, h_g28, hx_v26⟩ : (0 ≤ g27 ∧ g27 ≤ 250) ∧ (0 ≤ g28 ∧ g28 ≤ 250) ∧ (v26 = (-1) ∨ (1 ≤ v26 ∧ v26 ≤ 99)) := hr9
      dsimp only [u5]
      unfold fX3_readGoods_j45
      refine Sf.ite (fun hc10 => ?_) (fun hc10 => ?_)
      · exact Sf.ok (show (0 ≤ 0 ∧ 0 ≤ 1) ∧ (0 ≤ g27 ∧ g27 ≤ 250) ∧ (0 ≤ g28 ∧ g28 ≤ 250) ∧ (0 ≤ x1_goodsCount ∧ x1_goodsCount ≤ 8) ∧ (GdOk x1_goods) from ⟨(by decide), h_g27, h_g28, h_x1_goodsCount, h_x1_goods⟩)
      · refine Sf.bind (sX1_addGoods h_x1_goodsCount h_x1_goods (by grind) (by grind) (by grind)) ?_
        rintro ⟨g22, g23, g24⟩ hr11
        obtain ⟨h_g22, h_g23⟩ : (0 ≤ g22 ∧ g22 ≤ 8) ∧ (GdOk g23) := hr11
        dsimp only [u3]
        exact Sf.ok (show (0 ≤ 1 ∧ 1 ≤ 1) ∧ (0 ≤ g27 ∧ g27 ≤ 250) ∧ (0 ≤ g28 ∧ g28 ≤ 250) ∧ (0 ≤ g22 ∧ g22 ≤ 8) ∧ (GdOk g23) from ⟨(by decide), h_g27, h_g28, h_g22, h_g23⟩)
set_option maxHeartbeats 1000000 in
theorem sX3_readWork {n : Nat} {x0_bytes : (Nat → Int32)} {x0_size x0_start x0_end x0_token x0_value x1_lineCount x1_goodsCount x1_workCount x1_years : Int32} {x1_lines x1_goods x1_works x1_change x1_coin x1_knownFree : (Nat → Int32)} {x1_isKnown : Int32} (hn : 1000000000000 ≤ n) (h_x0_size : (0 ≤ x0_size ∧ x0_size ≤ 250)) (h_x0_start : (0 ≤ x0_start ∧ x0_start ≤ 250)) (h_x0_end : (0 ≤ x0_end ∧ x0_end ≤ 250)) (h_x1_lineCount : (0 ≤ x1_lineCount ∧ x1_lineCount ≤ 20)) (h_x1_goodsCount : (0 ≤ x1_goodsCount ∧ x1_goodsCount ≤ 8)) (h_x1_workCount : (0 ≤ x1_workCount ∧ x1_workCount ≤ 7)) (h_x1_years : (1 ≤ x1_years ∧ x1_years ≤ 30)) (h_x1_lines : (LnOk x1_lines)) (h_x1_goods : (GdOk x1_goods)) (h_x1_works : (WkOk x1_works)) (h_x1_change : (AI 0 99 x1_change)) (h_x1_coin : (AI 0 9 x1_coin)) : Sf (fX3_readWork n (x0_bytes, x0_size, x0_start, x0_end, x0_token, x0_value) (x1_lineCount, x1_goodsCount, x1_workCount, x1_years, x1_lines, x1_goods, x1_works, x1_change, x1_coin, x1_knownFree, x1_isKnown)) (fun r => (0 ≤ r.1 ∧ r.1 ≤ 1) ∧ (0 ≤ r.2.1 ∧ r.2.1 ≤ 250) ∧ (0 ≤ r.2.2.1 ∧ r.2.2.1 ≤ 250) ∧ (0 ≤ r.2.2.2.2.2.1 ∧ r.2.2.2.2.2.1 ≤ 7) ∧ (WkOk r.2.2.2.2.2.2.1)) := by
  unfold fX3_readWork
  dsimp only [u11, u6]
  refine Sf.bind (sX3_next hn h_x0_size h_x0_start h_x0_end) ?_
  rintro ⟨g1, g2, g3, g4⟩ hr1
  obtain ⟨h_g1, h_g2⟩ : (0 ≤ g1 ∧ g1 ≤ 250) ∧ (0 ≤ g2 ∧ g2 ≤ 250) := hr1
  dsimp only [u4]
  refine Sf.bind (sX3_number hn h_x0_size h_g1 h_g2) ?_
  rintro ⟨v6, g7, g8, g9, g10⟩ hr2
  obtain ⟨h_g7, h_g8, hx_v6⟩ : (0 ≤ g7 ∧ g7 ≤ 250) ∧ (0 ≤ g8 ∧ g8 ≤ 250) ∧ (v6 = (-1) ∨ (1 ≤ v6 ∧ v6 ≤ 5)) := hr2
  dsimp only [u5]
  refine Sf.ite (fun hc3 => ?_) (fun hc3 => ?_)
  · unfold fX3_readWork_j30
    refine Sf.ite (fun hc4 => ?_) (fun hc4 => absurd (by decide) hc4)
    exact Sf.ok (show (0 ≤ 0 ∧ 0 ≤ 1) ∧ (0 ≤ g7 ∧ g7 ≤ 250) ∧ (0 ≤ g8 ∧ g8 ≤ 250) ∧ (0 ≤ x1_workCount ∧ x1_workCount ≤ 7) ∧ (WkOk x1_works) from ⟨(by decide), h_g7, h_g8, h_x1_workCount, h_x1_works⟩)
  · refine Sf.bind (sX1_greatestA h_x1_lineCount h_x1_goodsCount h_x1_workCount h_x1_years h_x1_lines h_x1_goods h_x1_works h_x1_change h_x1_coin) ?_
    intro v53 hr5
    have hx_v53 : (v53 ≤ 19 ∧ ((v6 = 1 ∨ v6 = 2) ∨ v53 ≤ 11)) := hr5
    refine Sf.bind (sX3_number hn h_x0_size h_g7 h_g8) ?_
    rintro ⟨v55, g56, g57, g58, g59⟩ hr6
    obtain ⟨h_g56, h_g57, hx_v55⟩ : (0 ≤ g56 ∧ g56 ≤ 250) ∧ (0 ≤ g57 ∧ g57 ≤ 250) ∧ (v55 = (-1) ∨ (0 ≤ v55 ∧ v55 ≤ v53)) := hr6
    dsimp only [u5]
    unfold fX3_readWork_j30
    refine Sf.ite (fun hc7 => ?_) (fun hc7 => ?_)
    · exact Sf.ok (show (0 ≤ 0 ∧ 0 ≤ 1) ∧ (0 ≤ g56 ∧ g56 ≤ 250) ∧ (0 ≤ g57 ∧ g57 ≤ 250) ∧ (0 ≤ x1_workCount ∧ x1_workCount ≤ 7) ∧ (WkOk x1_works) from ⟨(by decide), h_g56, h_g57, h_x1_workCount, h_x1_works⟩)
    · refine Sf.bind (sX1_greatestB ) ?_
      intro v17 hr8
      have hx_v17 : (v17 ≤ 99 ∧ (v6 = 1 ∨ v6 = 2 → v17 ≤ 2) ∧ (v6 = 1 ∨ v6 = 2 ∨ v6 = 3 ∨ v17 ≤ 11)) := hr8
      refine Sf.bind (sX6_isUnder hn ) ?_
      intro v19 hr9
      refine Sf.ite (fun hc10 => ?_) (fun hc10 => ?_)
      · refine Sf.bind (sX3_number hn h_x0_size h_g56 h_g57) ?_
        rintro ⟨v41, g42, g43, g44, g45⟩ hr11
        obtain ⟨h_g42, h_g43, hx_v41⟩ : (0 ≤ g42 ∧ g42 ≤ 250) ∧ (0 ≤ g43 ∧ g43 ≤ 250) ∧ (v41 = (-1) ∨ (0 ≤ v41 ∧ v41 ≤ v17)) := hr11
        dsimp only [u5]
        unfold fX3_readWork_j70
        refine Sf.ite (fun hc12 => ?_) (fun hc12 => ?_)
        · unfold fX3_readWork_j90
          refine Sf.ite (fun hc13 => ?_) (fun hc13 => absurd (by decide) hc13)
          exact Sf.ok (show (0 ≤ 0 ∧ 0 ≤ 1) ∧ (0 ≤ g42 ∧ g42 ≤ 250) ∧ (0 ≤ g43 ∧ g43 ≤ 250) ∧ (0 ≤ x1_workCount ∧ x1_workCount ≤ 7) ∧ (WkOk x1_works) from ⟨(by decide), h_g42, h_g43, h_x1_workCount, h_x1_works⟩)
        · refine Sf.bind (sX3_number hn h_x0_size h_g42 h_g43) ?_
          rintro ⟨v35, g36, g37, g38, g39⟩ hr14
          obtain ⟨h_g36, h_g37, hx_v35⟩ : (0 ≤ g36 ∧ g36 ≤ 250) ∧ (0 ≤ g37 ∧ g37 ≤ 250) ∧ (v35 = (-1) ∨ (0 ≤ v35 ∧ v35 ≤ 999)) := hr14
          dsimp only [u5]
          unfold fX3_readWork_j90
          refine Sf.ite (fun hc15 => ?_) (fun hc15 => ?_)
          · exact Sf.ok (show (0 ≤ 0 ∧ 0 ≤ 1) ∧ (0 ≤ g36 ∧ g36 ≤ 250) ∧ (0 ≤ g37 ∧ g37 ≤ 250) ∧ (0 ≤ x1_workCount ∧ x1_workCount ≤ 7) ∧ (WkOk x1_works) from ⟨(by decide), h_g36, h_g37, h_x1_workCount, h_x1_works⟩)
          · refine Sf.bind (sX1_addWork h_x1_workCount h_x1_works (by grind) (by grind) (by grind) (by grind) (by first | grind | (unfold WkR; grind))) ?_
            rintro ⟨g31, g32, g33⟩ hr16
            obtain ⟨h_g31, h_g32⟩ : (0 ≤ g31 ∧ g31 ≤ 7) ∧ (WkOk g32) := hr16
            dsimp only [u3]
            exact Sf.ok (show (0 ≤ 1 ∧ 1 ≤ 1) ∧ (0 ≤ g36 ∧ g36 ≤ 250) ∧ (0 ≤ g37 ∧ g37 ≤ 250) ∧ (0 ≤ g31 ∧ g31 ≤ 7) ∧ (WkOk g32) from ⟨(by decide), h_g36, h_g37, h_g31, h_g32⟩)
      · refine Sf.bind (sX3_numberUnlike hn h_x0_size h_g56 h_g57) ?_
        rintro ⟨v47, g48, g49, g50, g51⟩ hr17
        obtain ⟨h_g48, h_g49, hx_v47⟩ : (0 ≤ g48 ∧ g48 ≤ 250) ∧ (0 ≤ g49 ∧ g49 ≤ 250) ∧ (v47 = (-1) ∨ (0 ≤ v47 ∧ v47 ≤ v17)) := hr17
        dsimp only [u5]
        unfold fX3_readWork_j70
        refine Sf.ite (fun hc18 => ?_) (fun hc18 => ?_)
        · unfold fX3_readWork_j90
          refine Sf.ite (fun hc19 => ?_) (fun hc19 => absurd (by decide) hc19)
          exact Sf.ok (show (0 ≤ 0 ∧ 0 ≤ 1) ∧ (0 ≤ g48 ∧ g48 ≤ 250) ∧ (0 ≤ g49 ∧ g49 ≤ 250) ∧ (0 ≤ x1_workCount ∧ x1_workCount ≤ 7) ∧ (WkOk x1_works) from ⟨(by decide), h_g48, h_g49, h_x1_workCount, h_x1_works⟩)
        · refine Sf.bind (sX3_number hn h_x0_size h_g48 h_g49) ?_
          rintro ⟨v35, g36, g37, g38, g39⟩ hr20
          obtain ⟨h_g36, h_g37, hx_v35⟩ : (0 ≤ g36 ∧ g36 ≤ 250) ∧ (0 ≤ g37 ∧ g37 ≤ 250) ∧ (v35 = (-1) ∨ (0 ≤ v35 ∧ v35 ≤ 999)) := hr20
          dsimp only [u5]
          unfold fX3_readWork_j90
          refine Sf.ite (fun hc21 => ?_) (fun hc21 => ?_)
          · exact Sf.ok (show (0 ≤ 0 ∧ 0 ≤ 1) ∧ (0 ≤ g36 ∧ g36 ≤ 250) ∧ (0 ≤ g37 ∧ g37 ≤ 250) ∧ (0 ≤ x1_workCount ∧ x1_workCount ≤ 7) ∧ (WkOk x1_works) from ⟨(by decide), h_g36, h_g37, h_x1_workCount, h_x1_works⟩)
          · refine Sf.bind (sX1_addWork h_x1_workCount h_x1_works (by grind) (by grind) (by grind) (by grind) (by first | grind | (unfold WkR; grind))) ?_
            rintro ⟨g31, g32, g33⟩ hr22
            obtain ⟨h_g31, h_g32⟩ : (0 ≤ g31 ∧ g31 ≤ 7) ∧ (WkOk g32) := hr22
            dsimp only [u3]
            exact Sf.ok (show (0 ≤ 1 ∧ 1 ≤ 1) ∧ (0 ≤ g36 ∧ g36 ≤ 250) ∧ (0 ≤ g37 ∧ g37 ≤ 250) ∧ (0 ≤ g31 ∧ g31 ≤ 7) ∧ (WkOk g32) from ⟨(by decide), h_g36, h_g37, h_g31, h_g32⟩)
set_option maxHeartbeats 1000000 in
theorem sX3_readChange {n : Nat} {x0_bytes : (Nat → Int32)} {x0_size x0_start x0_end x0_token x0_value x1_lineCount x1_goodsCount x1_workCount x1_years : Int32} {x1_lines x1_goods x1_works x1_change x1_coin x1_knownFree : (Nat → Int32)} {x1_isKnown : Int32} (hn : 1000000000000 ≤ n) (h_x0_size : (0 ≤ x0_size ∧ x0_size ≤ 250)) (h_x0_start : (0 ≤ x0_start ∧ x0_start ≤ 250)) (h_x0_end : (0 ≤ x0_end ∧ x0_end ≤ 250)) (h_x1_lineCount : (0 ≤ x1_lineCount ∧ x1_lineCount ≤ 20)) (h_x1_goodsCount : (0 ≤ x1_goodsCount ∧ x1_goodsCount ≤ 8)) (h_x1_workCount : (0 ≤ x1_workCount ∧ x1_workCount ≤ 7)) (h_x1_years : (1 ≤ x1_years ∧ x1_years ≤ 30)) (h_x1_lines : (LnOk x1_lines)) (h_x1_goods : (GdOk x1_goods)) (h_x1_works : (WkOk x1_works)) (h_x1_change : (AI 0 99 x1_change)) (h_x1_coin : (AI 0 9 x1_coin)) : Sf (fX3_readChange n (x0_bytes, x0_size, x0_start, x0_end, x0_token, x0_value) (x1_lineCount, x1_goodsCount, x1_workCount, x1_years, x1_lines, x1_goods, x1_works, x1_change, x1_coin, x1_knownFree, x1_isKnown)) (fun r => (0 ≤ r.1 ∧ r.1 ≤ 1) ∧ (0 ≤ r.2.1 ∧ r.2.1 ≤ 250) ∧ (0 ≤ r.2.2.1 ∧ r.2.2.1 ≤ 250) ∧ (AI 0 99 r.2.2.2.2.2.1)) := by
  unfold fX3_readChange
  dsimp only [u11, u6]
  refine Sf.bind (sX3_next hn h_x0_size h_x0_start h_x0_end) ?_
  rintro ⟨g1, g2, g3, g4⟩ hr1
  obtain ⟨h_g1, h_g2⟩ : (0 ≤ g1 ∧ g1 ≤ 250) ∧ (0 ≤ g2 ∧ g2 ≤ 250) := hr1
  dsimp only [u4]
  refine Sf.bind (sX3_number hn h_x0_size h_g1 h_g2) ?_
  rintro ⟨v6, g7, g8, g9, g10⟩ hr2
  obtain ⟨h_g7, h_g8, hx_v6⟩ : (0 ≤ g7 ∧ g7 ≤ 250) ∧ (0 ≤ g8 ∧ g8 ≤ 250) ∧ (v6 = (-1) ∨ (0 ≤ v6 ∧ v6 ≤ 11)) := hr2
  dsimp only [u5]
  refine Sf.ite (fun hc3 => ?_) (fun hc3 => ?_)
  · unfold fX3_readChange_j28
    refine Sf.ite (fun hc4 => ?_) (fun hc4 => absurd (by decide) hc4)
    exact Sf.ok (show (0 ≤ 0 ∧ 0 ≤ 1) ∧ (0 ≤ g7 ∧ g7 ≤ 250) ∧ (0 ≤ g8 ∧ g8 ≤ 250) ∧ (AI 0 99 x1_change) from ⟨(by decide), h_g7, h_g8, h_x1_change⟩)
  · refine Sf.bind (sX3_number hn h_x0_size h_g7 h_g8) ?_
    rintro ⟨v20, g21, g22, g23, g24⟩ hr5
    obtain ⟨h_g21, h_g22, hx_v20⟩ : (0 ≤ g21 ∧ g21 ≤ 250) ∧ (0 ≤ g22 ∧ g22 ≤ 250) ∧ (v20 = (-1) ∨ (0 ≤ v20 ∧ v20 ≤ 99)) := hr5
    dsimp only [u5]
    unfold fX3_readChange_j28
    refine Sf.ite (fun hc6 => ?_) (fun hc6 => ?_)
    · exact Sf.ok (show (0 ≤ 0 ∧ 0 ≤ 1) ∧ (0 ≤ g21 ∧ g21 ≤ 250) ∧ (0 ≤ g22 ∧ g22 ≤ 250) ∧ (AI 0 99 x1_change) from ⟨(by decide), h_g21, h_g22, h_x1_change⟩)
    · refine Sf.bind (sX1_putChange h_x1_lineCount h_x1_goodsCount h_x1_workCount h_x1_years h_x1_lines h_x1_goods h_x1_works h_x1_change h_x1_coin (by grind)) ?_
      rintro ⟨g17, g18⟩ hr7
      have h_g17 : (AI 0 99 g17) := hr7
      dsimp only [u2]
      exact Sf.ok (show (0 ≤ 1 ∧ 1 ≤ 1) ∧ (0 ≤ g21 ∧ g21 ≤ 250) ∧ (0 ≤ g22 ∧ g22 ≤ 250) ∧ (AI 0 99 g17) from ⟨(by decide), h_g21, h_g22, h_g17⟩)
set_option maxHeartbeats 1000000 in
theorem sX3_readCoin {n : Nat} {x0_bytes : (Nat → Int32)} {x0_size x0_start x0_end x0_token x0_value x1_lineCount x1_goodsCount x1_workCount x1_years : Int32} {x1_lines x1_goods x1_works x1_change x1_coin x1_knownFree : (Nat → Int32)} {x1_isKnown : Int32} (hn : 1000000000000 ≤ n) (h_x0_size : (0 ≤ x0_size ∧ x0_size ≤ 250)) (h_x0_start : (0 ≤ x0_start ∧ x0_start ≤ 250)) (h_x0_end : (0 ≤ x0_end ∧ x0_end ≤ 250)) (h_x1_lineCount : (0 ≤ x1_lineCount ∧ x1_lineCount ≤ 20)) (h_x1_goodsCount : (0 ≤ x1_goodsCount ∧ x1_goodsCount ≤ 8)) (h_x1_workCount : (0 ≤ x1_workCount ∧ x1_workCount ≤ 7)) (h_x1_years : (1 ≤ x1_years ∧ x1_years ≤ 30)) (h_x1_lines : (LnOk x1_lines)) (h_x1_goods : (GdOk x1_goods)) (h_x1_works : (WkOk x1_works)) (h_x1_change : (AI 0 99 x1_change)) (h_x1_coin : (AI 0 9 x1_coin)) : Sf (fX3_readCoin n (x0_bytes, x0_size, x0_start, x0_end, x0_token, x0_value) (x1_lineCount, x1_goodsCount, x1_workCount, x1_years, x1_lines, x1_goods, x1_works, x1_change, x1_coin, x1_knownFree, x1_isKnown)) (fun r => (0 ≤ r.1 ∧ r.1 ≤ 1) ∧ (0 ≤ r.2.1 ∧ r.2.1 ≤ 250) ∧ (0 ≤ r.2.2.1 ∧ r.2.2.1 ≤ 250) ∧ (AI 0 9 r.2.2.2.2.2.1)) := by
  unfold fX3_readCoin
  dsimp only [u11, u6]
  refine Sf.bind (sX3_next hn h_x0_size h_x0_start h_x0_end) ?_
  rintro ⟨g1, g2, g3, g4⟩ hr1
  obtain ⟨h_g1, h_g2⟩ : (0 ≤ g1 ∧ g1 ≤ 250) ∧ (0 ≤ g2 ∧ g2 ≤ 250) := hr1
  dsimp only [u4]
  refine Sf.bind (sX3_number hn h_x0_size h_g1 h_g2) ?_
  rintro ⟨v6, g7, g8, g9, g10⟩ hr2
  obtain ⟨h_g7, h_g8, hx_v6⟩ : (0 ≤ g7 ∧ g7 ≤ 250) ∧ (0 ≤ g8 ∧ g8 ≤ 250) ∧ (v6 = (-1) ∨ (0 ≤ v6 ∧ v6 ≤ 2)) := hr2
  dsimp only [u5]
  refine Sf.ite (fun hc3 => ?_) (fun hc3 => ?_)
  · unfold fX3_readCoin_j27
    refine Sf.ite (fun hc4 => ?_) (fun hc4 => absurd (by decide) hc4)
    exact Sf.ok (show (0 ≤ 0 ∧ 0 ≤ 1) ∧ (0 ≤ g7 ∧ g7 ≤ 250) ∧ (0 ≤ g8 ∧ g8 ≤ 250) ∧ (AI 0 9 x1_coin) from ⟨(by decide), h_g7, h_g8, h_x1_coin⟩)
  · refine Sf.bind (sX3_number hn h_x0_size h_g7 h_g8) ?_
    rintro ⟨v20, g21, g22, g23, g24⟩ hr5
    obtain ⟨h_g21, h_g22, hx_v20⟩ : (0 ≤ g21 ∧ g21 ≤ 250) ∧ (0 ≤ g22 ∧ g22 ≤ 250) ∧ (v20 = (-1) ∨ (0 ≤ v20 ∧ v20 ≤ 9)) := hr5
    dsimp only [u5]
    unfold fX3_readCoin_j27
    refine Sf.ite (fun hc6 => ?_) (fun hc6 => ?_)
    · exact Sf.ok (show (0 ≤ 0 ∧ 0 ≤ 1) ∧ (0 ≤ g21 ∧ g21 ≤ 250) ∧ (0 ≤ g22 ∧ g22 ≤ 250) ∧ (AI 0 9 x1_coin) from ⟨(by decide), h_g21, h_g22, h_x1_coin⟩)
    · refine Sf.bind (sX1_putCoin h_x1_lineCount h_x1_goodsCount h_x1_workCount h_x1_years h_x1_lines h_x1_goods h_x1_works h_x1_change h_x1_coin (by grind)) ?_
      rintro ⟨g17, g18⟩ hr7
      have h_g17 : (AI 0 9 g17) := hr7
      dsimp only [u2]
      exact Sf.ok (show (0 ≤ 1 ∧ 1 ≤ 1) ∧ (0 ≤ g21 ∧ g21 ≤ 250) ∧ (0 ≤ g22 ∧ g22 ≤ 250) ∧ (AI 0 9 g17) from ⟨(by decide), h_g21, h_g22, h_g17⟩)
set_option maxHeartbeats 1000000 in
theorem sX3_readYears {n : Nat} {x0_bytes : (Nat → Int32)} {x0_size x0_start x0_end x0_token x0_value x1_lineCount x1_goodsCount x1_workCount x1_years : Int32} {x1_lines x1_goods x1_works x1_change x1_coin x1_knownFree : (Nat → Int32)} {x1_isKnown : Int32} (hn : 1000000000000 ≤ n) (h_x0_size : (0 ≤ x0_size ∧ x0_size ≤ 250)) (h_x0_start : (0 ≤ x0_start ∧ x0_start ≤ 250)) (h_x0_end : (0 ≤ x0_end ∧ x0_end ≤ 250)) (h_x1_lineCount : (0 ≤ x1_lineCount ∧ x1_lineCount ≤ 20)) (h_x1_goodsCount : (0 ≤ x1_goodsCount ∧ x1_goodsCount ≤ 8)) (h_x1_workCount : (0 ≤ x1_workCount ∧ x1_workCount ≤ 7)) (h_x1_years : (1 ≤ x1_years ∧ x1_years ≤ 30)) (h_x1_lines : (LnOk x1_lines)) (h_x1_goods : (GdOk x1_goods)) (h_x1_works : (WkOk x1_works)) (h_x1_change : (AI 0 99 x1_change)) (h_x1_coin : (AI 0 9 x1_coin)) : Sf (fX3_readYears n (x0_bytes, x0_size, x0_start, x0_end, x0_token, x0_value) (x1_lineCount, x1_goodsCount, x1_workCount, x1_years, x1_lines, x1_goods, x1_works, x1_change, x1_coin, x1_knownFree, x1_isKnown)) (fun r => (0 ≤ r.1 ∧ r.1 ≤ 1) ∧ (0 ≤ r.2.1 ∧ r.2.1 ≤ 250) ∧ (0 ≤ r.2.2.1 ∧ r.2.2.1 ≤ 250) ∧ (1 ≤ r.2.2.2.2.2 ∧ r.2.2.2.2.2 ≤ 30)) := by
  unfold fX3_readYears
  dsimp only [u11, u6]
  refine Sf.bind (sX3_next hn h_x0_size h_x0_start h_x0_end) ?_
  rintro ⟨g1, g2, g3, g4⟩ hr1
  obtain ⟨h_g1, h_g2⟩ : (0 ≤ g1 ∧ g1 ≤ 250) ∧ (0 ≤ g2 ∧ g2 ≤ 250) := hr1
  dsimp only [u4]
  refine Sf.bind (sX3_number hn h_x0_size h_g1 h_g2) ?_
  rintro ⟨v6, g7, g8, g9, g10⟩ hr2
  obtain ⟨h_g7, h_g8, hx_v6⟩ : (0 ≤ g7 ∧ g7 ≤ 250) ∧ (0 ≤ g8 ∧ g8 ≤ 250) ∧ (v6 = (-1) ∨ (1 ≤ v6 ∧ v6 ≤ 30)) := hr2
  dsimp only [u5]
  refine Sf.ite (fun hc3 => ?_) (fun hc3 => ?_)
  · exact Sf.ok (show (0 ≤ 0 ∧ 0 ≤ 1) ∧ (0 ≤ g7 ∧ g7 ≤ 250) ∧ (0 ≤ g8 ∧ g8 ≤ 250) ∧ (1 ≤ x1_years ∧ x1_years ≤ 30) from ⟨(by decide), h_g7, h_g8, h_x1_years⟩)
  · exact Sf.ok (show (0 ≤ 1 ∧ 1 ≤ 1) ∧ (0 ≤ g7 ∧ g7 ≤ 250) ∧ (0 ≤ g8 ∧ g8 ≤ 250) ∧ (1 ≤ v6 ∧ v6 ≤ 30) from ⟨(by decide), h_g7, h_g8, (by grind)⟩)
set_option maxHeartbeats 1000000 in
theorem sX3_readStatement {n : Nat} {x0_bytes : (Nat → Int32)} {x0_size x0_start x0_end x0_token x0_value x1_lineCount x1_goodsCount x1_workCount x1_years : Int32} {x1_lines x1_goods x1_works x1_change x1_coin x1_knownFree : (Nat → Int32)} {x1_isKnown : Int32} (hn : 1000000000000 ≤ n) (h_x0_size : (0 ≤ x0_size ∧ x0_size ≤ 250)) (h_x0_start : (0 ≤ x0_start ∧ x0_start ≤ 250)) (h_x0_end : (0 ≤ x0_end ∧ x0_end ≤ 250)) (h_x1_lineCount : (0 ≤ x1_lineCount ∧ x1_lineCount ≤ 20)) (h_x1_goodsCount : (0 ≤ x1_goodsCount ∧ x1_goodsCount ≤ 8)) (h_x1_workCount : (0 ≤ x1_workCount ∧ x1_workCount ≤ 7)) (h_x1_years : (1 ≤ x1_years ∧ x1_years ≤ 30)) (h_x1_lines : (LnOk x1_lines)) (h_x1_goods : (GdOk x1_goods)) (h_x1_works : (WkOk x1_works)) (h_x1_change : (AI 0 99 x1_change)) (h_x1_coin : (AI 0 9 x1_coin)) : Sf (fX3_readStatement n (x0_bytes, x0_size, x0_start, x0_end, x0_token, x0_value) (x1_lineCount, x1_goodsCount, x1_workCount, x1_years, x1_lines, x1_goods, x1_works, x1_change, x1_coin, x1_knownFree, x1_isKnown)) (fun r => (0 ≤ r.1 ∧ r.1 ≤ 1) ∧ (0 ≤ r.2.1 ∧ r.2.1 ≤ 250) ∧ (0 ≤ r.2.2.1 ∧ r.2.2.1 ≤ 250) ∧ (0 ≤ r.2.2.2.2.2.1 ∧ r.2.2.2.2.2.1 ≤ 20) ∧ (0 ≤ r.2.2.2.2.2.2.1 ∧ r.2.2.2.2.2.2.1 ≤ 8) ∧ (0 ≤ r.2.2.2.2.2.2.2.1 ∧ r.2.2.2.2.2.2.2.1 ≤ 7) ∧ (1 ≤ r.2.2.2.2.2.2.2.2.1 ∧ r.2.2.2.2.2.2.2.2.1 ≤ 30) ∧ (LnOk r.2.2.2.2.2.2.2.2.2.1) ∧ (GdOk r.2.2.2.2.2.2.2.2.2.2.1) ∧ (WkOk r.2.2.2.2.2.2.2.2.2.2.2.1) ∧ (AI 0 99 r.2.2.2.2.2.2.2.2.2.2.2.2.1) ∧ (AI 0 9 r.2.2.2.2.2.2.2.2.2.2.2.2.2.1)) := by
  unfold fX3_readStatement
  dsimp only [u11, u6]
  refine Sf.bind (sX3_isWord hn h_x0_start h_x0_end (by first | assumption | decide)) ?_
  intro v1 hr1
  have h_v1 : (0 ≤ v1 ∧ v1 ≤ 1) := hr1
  refine Sf.ite (fun hc2 => ?_) (fun hc2 => ?_)
  · refine Sf.bind (sX3_isWord hn h_x0_start h_x0_end (by first | assumption | decide)) ?_
    intro v3 hr3
    have h_v3 : (0 ≤ v3 ∧ v3 ≤ 1) := hr3
    refine Sf.ite (fun hc4 => ?_) (fun hc4 => ?_)
    · refine Sf.bind (sX3_isWord hn h_x0_start h_x0_end (by first | assumption | decide)) ?_
      intro v5 hr5
      have h_v5 : (0 ≤ v5 ∧ v5 ≤ 1) := hr5
      refine Sf.ite (fun hc6 => ?_) (fun hc6 => ?_)
      · refine Sf.bind (sX3_isWord hn h_x0_start h_x0_end (by first | assumption | decide)) ?_
        intro v7 hr7
        have h_v7 : (0 ≤ v7 ∧ v7 ≤ 1) := hr7
        refine Sf.ite (fun hc8 => ?_) (fun hc8 => ?_)
        · refine Sf.bind (sX3_isWord hn h_x0_start h_x0_end (by first | assumption | decide)) ?_
          intro v9 hr9
          have h_v9 : (0 ≤ v9 ∧ v9 ≤ 1) := hr9
          refine Sf.ite (fun hc10 => ?_) (fun hc10 => ?_)
          · refine Sf.bind (sX3_isWord hn h_x0_start h_x0_end (by first | assumption | decide)) ?_
            intro v11 hr11
            have h_v11 : (0 ≤ v11 ∧ v11 ≤ 1) := hr11
            refine Sf.ite (fun hc12 => ?_) (fun hc12 => ?_)
            · exact Sf.ok (show (0 ≤ 0 ∧ 0 ≤ 1) ∧ (0 ≤ x0_start ∧ x0_start ≤ 250) ∧ (0 ≤ x0_end ∧ x0_end ≤ 250) ∧ (0 ≤ x1_lineCount ∧ x1_lineCount ≤ 20) ∧ (0 ≤ x1_goodsCount ∧ x1_goodsCount ≤ 8) ∧ (0 ≤ x1_workCount ∧ x1_workCount ≤ 7) ∧ (1 ≤ x1_years ∧ x1_years ≤ 30) ∧ (LnOk x1_lines) ∧ (GdOk x1_goods) ∧ (WkOk x1_works) ∧ (AI 0 99 x1_change) ∧ (AI 0 9 x1_coin) from ⟨(by decide), h_x0_start, h_x0_end, h_x1_lineCount, h_x1_goodsCount, h_x1_workCount, h_x1_years, h_x1_lines, h_x1_goods, h_x1_works, h_x1_change, h_x1_coin⟩)
            · refine Sf.bind (sX3_readYears hn h_x0_size h_x0_start h_x0_end h_x1_lineCount h_x1_goodsCount h_x1_workCount h_x1_years h_x1_lines h_x1_goods h_x1_works h_x1_change h_x1_coin) ?_
              rintro ⟨v13, g14, g15, g16, g17, g18⟩ hr13
              obtain ⟨h_v13, h_g14, h_g15, h_g18⟩ : (0 ≤ v13 ∧ v13 ≤ 1) ∧ (0 ≤ g14 ∧ g14 ≤ 250) ∧ (0 ≤ g15 ∧ g15 ≤ 250) ∧ (1 ≤ g18 ∧ g18 ≤ 30) := hr13
              dsimp only [u6]
              refine Sf.ite (fun hc14 => ?_) (fun hc14 => ?_)
              · exact Sf.ok (show (0 ≤ 0 ∧ 0 ≤ 1) ∧ (0 ≤ g14 ∧ g14 ≤ 250) ∧ (0 ≤ g15 ∧ g15 ≤ 250) ∧ (0 ≤ x1_lineCount ∧ x1_lineCount ≤ 20) ∧ (0 ≤ x1_goodsCount ∧ x1_goodsCount ≤ 8) ∧ (0 ≤ x1_workCount ∧ x1_workCount ≤ 7) ∧ (1 ≤ g18 ∧ g18 ≤ 30) ∧ (LnOk x1_lines) ∧ (GdOk x1_goods) ∧ (WkOk x1_works) ∧ (AI 0 99 x1_change) ∧ (AI 0 9 x1_coin) from ⟨(by decide), h_g14, h_g15, h_x1_lineCount, h_x1_goodsCount, h_x1_workCount, h_g18, h_x1_lines, h_x1_goods, h_x1_works, h_x1_change, h_x1_coin⟩)
              · exact Sf.ok (show (0 ≤ 1 ∧ 1 ≤ 1) ∧ (0 ≤ g14 ∧ g14 ≤ 250) ∧ (0 ≤ g15 ∧ g15 ≤ 250) ∧ (0 ≤ x1_lineCount ∧ x1_lineCount ≤ 20) ∧ (0 ≤ x1_goodsCount ∧ x1_goodsCount ≤ 8) ∧ (0 ≤ x1_workCount ∧ x1_workCount ≤ 7) ∧ (1 ≤ g18 ∧ g18 ≤ 30) ∧ (LnOk x1_lines) ∧ (GdOk x1_goods) ∧ (WkOk x1_works) ∧ (AI 0 99 x1_change) ∧ (AI 0 9 x1_coin) from ⟨(by decide), h_g14, h_g15, h_x1_lineCount, h_x1_goodsCount, h_x1_workCount, h_g18, h_x1_lines, h_x1_goods, h_x1_works, h_x1_change, h_x1_coin⟩)
          · refine Sf.bind (sX3_readCoin hn h_x0_size h_x0_start h_x0_end h_x1_lineCount h_x1_goodsCount h_x1_workCount h_x1_years h_x1_lines h_x1_goods h_x1_works h_x1_change h_x1_coin) ?_
            rintro ⟨v20, g21, g22, g23, g24, g25, g26⟩ hr15
            obtain ⟨h_v20, h_g21, h_g22, h_g25⟩ : (0 ≤ v20 ∧ v20 ≤ 1) ∧ (0 ≤ g21 ∧ g21 ≤ 250) ∧ (0 ≤ g22 ∧ g22 ≤ 250) ∧ (AI 0 9 g25) := hr15
            dsimp only [u7]
            refine Sf.zbb (by grind) (fun v28 e_v28 => ?_)
            exact Sf.ok (show (0 ≤ v28 ∧ v28 ≤ 1) ∧ (0 ≤ g21 ∧ g21 ≤ 250) ∧ (0 ≤ g22 ∧ g22 ≤ 250) ∧ (0 ≤ x1_lineCount ∧ x1_lineCount ≤ 20) ∧ (0 ≤ x1_goodsCount ∧ x1_goodsCount ≤ 8) ∧ (0 ≤ x1_workCount ∧ x1_workCount ≤ 7) ∧ (1 ≤ x1_years ∧ x1_years ≤ 30) ∧ (LnOk x1_lines) ∧ (GdOk x1_goods) ∧ (WkOk x1_works) ∧ (AI 0 99 x1_change) ∧ (AI 0 9 g25) from ⟨(by grind), h_g21, h_g22, h_x1_lineCount, h_x1_goodsCount, h_x1_workCount, h_x1_years, h_x1_lines, h_x1_goods, h_x1_works, h_x1_change, h_g25⟩)
        · refine Sf.bind (sX3_readChange hn h_x0_size h_x0_start h_x0_end h_x1_lineCount h_x1_goodsCount h_x1_workCount h_x1_years h_x1_lines h_x1_goods h_x1_works h_x1_change h_x1_coin) ?_
          rintro ⟨v29, g30, g31, g32, g33, g34, g35⟩ hr16
          obtain ⟨h_v29, h_g30, h_g31, h_g34⟩ : (0 ≤ v29 ∧ v29 ≤ 1) ∧ (0 ≤ g30 ∧ g30 ≤ 250) ∧ (0 ≤ g31 ∧ g31 ≤ 250) ∧ (AI 0 99 g34) := hr16
          dsimp only [u7]
          refine Sf.zbb (by grind) (fun v37 e_v37 => ?_)
          exact Sf.ok (show (0 ≤ v37 ∧ v37 ≤ 1) ∧ (0 ≤ g30 ∧ g30 ≤ 250) ∧ (0 ≤ g31 ∧ g31 ≤ 250) ∧ (0 ≤ x1_lineCount ∧ x1_lineCount ≤ 20) ∧ (0 ≤ x1_goodsCount ∧ x1_goodsCount ≤ 8) ∧ (0 ≤ x1_workCount ∧ x1_workCount ≤ 7) ∧ (1 ≤ x1_years ∧ x1_years ≤ 30) ∧ (LnOk x1_lines) ∧ (GdOk x1_goods) ∧ (WkOk x1_works) ∧ (AI 0 99 g34) ∧ (AI 0 9 x1_coin) from ⟨(by grind), h_g30, h_g31, h_x1_lineCount, h_x1_goodsCount, h_x1_workCount, h_x1_years, h_x1_lines, h_x1_goods, h_x1_works, h_g34, h_x1_coin⟩)
      · refine Sf.ite (fun hc17 => ?_) (fun hc17 => ?_)
        · exact Sf.ok (show (0 ≤ 0 ∧ 0 ≤ 1) ∧ (0 ≤ x0_start ∧ x0_start ≤ 250) ∧ (0 ≤ x0_end ∧ x0_end ≤ 250) ∧ (0 ≤ x1_lineCount ∧ x1_lineCount ≤ 20) ∧ (0 ≤ x1_goodsCount ∧ x1_goodsCount ≤ 8) ∧ (0 ≤ x1_workCount ∧ x1_workCount ≤ 7) ∧ (1 ≤ x1_years ∧ x1_years ≤ 30) ∧ (LnOk x1_lines) ∧ (GdOk x1_goods) ∧ (WkOk x1_works) ∧ (AI 0 99 x1_change) ∧ (AI 0 9 x1_coin) from ⟨(by decide), h_x0_start, h_x0_end, h_x1_lineCount, h_x1_goodsCount, h_x1_workCount, h_x1_years, h_x1_lines, h_x1_goods, h_x1_works, h_x1_change, h_x1_coin⟩)
        · refine Sf.bind (sX3_readWork hn h_x0_size h_x0_start h_x0_end h_x1_lineCount h_x1_goodsCount h_x1_workCount h_x1_years h_x1_lines h_x1_goods h_x1_works h_x1_change h_x1_coin) ?_
          rintro ⟨v38, g39, g40, g41, g42, g43, g44, g45⟩ hr18
          obtain ⟨h_v38, h_g39, h_g40, h_g43, h_g44⟩ : (0 ≤ v38 ∧ v38 ≤ 1) ∧ (0 ≤ g39 ∧ g39 ≤ 250) ∧ (0 ≤ g40 ∧ g40 ≤ 250) ∧ (0 ≤ g43 ∧ g43 ≤ 7) ∧ (WkOk g44) := hr18
          dsimp only [u8]
          refine Sf.ite (fun hc19 => ?_) (fun hc19 => ?_)
          · exact Sf.ok (show (0 ≤ 0 ∧ 0 ≤ 1) ∧ (0 ≤ g39 ∧ g39 ≤ 250) ∧ (0 ≤ g40 ∧ g40 ≤ 250) ∧ (0 ≤ x1_lineCount ∧ x1_lineCount ≤ 20) ∧ (0 ≤ x1_goodsCount ∧ x1_goodsCount ≤ 8) ∧ (0 ≤ g43 ∧ g43 ≤ 7) ∧ (1 ≤ x1_years ∧ x1_years ≤ 30) ∧ (LnOk x1_lines) ∧ (GdOk x1_goods) ∧ (WkOk g44) ∧ (AI 0 99 x1_change) ∧ (AI 0 9 x1_coin) from ⟨(by decide), h_g39, h_g40, h_x1_lineCount, h_x1_goodsCount, h_g43, h_x1_years, h_x1_lines, h_x1_goods, h_g44, h_x1_change, h_x1_coin⟩)
          · exact Sf.ok (show (0 ≤ 1 ∧ 1 ≤ 1) ∧ (0 ≤ g39 ∧ g39 ≤ 250) ∧ (0 ≤ g40 ∧ g40 ≤ 250) ∧ (0 ≤ x1_lineCount ∧ x1_lineCount ≤ 20) ∧ (0 ≤ x1_goodsCount ∧ x1_goodsCount ≤ 8) ∧ (0 ≤ g43 ∧ g43 ≤ 7) ∧ (1 ≤ x1_years ∧ x1_years ≤ 30) ∧ (LnOk x1_lines) ∧ (GdOk x1_goods) ∧ (WkOk g44) ∧ (AI 0 99 x1_change) ∧ (AI 0 9 x1_coin) from ⟨(by decide), h_g39, h_g40, h_x1_lineCount, h_x1_goodsCount, h_g43, h_x1_years, h_x1_lines, h_x1_goods, h_g44, h_x1_change, h_x1_coin⟩)
    · refine Sf.ite (fun hc20 => ?_) (fun hc20 => ?_)
      · exact Sf.ok (show (0 ≤ 0 ∧ 0 ≤ 1) ∧ (0 ≤ x0_start ∧ x0_start ≤ 250) ∧ (0 ≤ x0_end ∧ x0_end ≤ 250) ∧ (0 ≤ x1_lineCount ∧ x1_lineCount ≤ 20) ∧ (0 ≤ x1_goodsCount ∧ x1_goodsCount ≤ 8) ∧ (0 ≤ x1_workCount ∧ x1_workCount ≤ 7) ∧ (1 ≤ x1_years ∧ x1_years ≤ 30) ∧ (LnOk x1_lines) ∧ (GdOk x1_goods) ∧ (WkOk x1_works) ∧ (AI 0 99 x1_change) ∧ (AI 0 9 x1_coin) from ⟨(by decide), h_x0_start, h_x0_end, h_x1_lineCount, h_x1_goodsCount, h_x1_workCount, h_x1_years, h_x1_lines, h_x1_goods, h_x1_works, h_x1_change, h_x1_coin⟩)
      · refine Sf.bind (sX3_readGoods hn h_x0_size h_x0_start h_x0_end h_x1_lineCount h_x1_goodsCount h_x1_workCount h_x1_years h_x1_lines h_x1_goods h_x1_works h_x1_change h_x1_coin) ?_
        rintro ⟨v47, g48, g49, g50, g51, g52, g53, g54⟩ hr21
        obtain ⟨h_v47, h_g48, h_g49, h_g52, h_g53⟩ : (0 ≤ v47 ∧ v47 ≤ 1) ∧ (0 ≤ g48 ∧ g48 ≤ 250) ∧ (0 ≤ g49 ∧ g49 ≤ 250) ∧ (0 ≤ g52 ∧ g52 ≤ 8) ∧ (GdOk g53) := hr21
        dsimp only [u8]
        refine Sf.ite (fun hc22 => ?_) (fun hc22 => ?_)
        · exact Sf.ok (show (0 ≤ 0 ∧ 0 ≤ 1) ∧ (0 ≤ g48 ∧ g48 ≤ 250) ∧ (0 ≤ g49 ∧ g49 ≤ 250) ∧ (0 ≤ x1_lineCount ∧ x1_lineCount ≤ 20) ∧ (0 ≤ g52 ∧ g52 ≤ 8) ∧ (0 ≤ x1_workCount ∧ x1_workCount ≤ 7) ∧ (1 ≤ x1_years ∧ x1_years ≤ 30) ∧ (LnOk x1_lines) ∧ (GdOk g53) ∧ (WkOk x1_works) ∧ (AI 0 99 x1_change) ∧ (AI 0 9 x1_coin) from ⟨(by decide), h_g48, h_g49, h_x1_lineCount, h_g52, h_x1_workCount, h_x1_years, h_x1_lines, h_g53, h_x1_works, h_x1_change, h_x1_coin⟩)
        · exact Sf.ok (show (0 ≤ 1 ∧ 1 ≤ 1) ∧ (0 ≤ g48 ∧ g48 ≤ 250) ∧ (0 ≤ g49 ∧ g49 ≤ 250) ∧ (0 ≤ x1_lineCount ∧ x1_lineCount ≤ 20) ∧ (0 ≤ g52 ∧ g52 ≤ 8) ∧ (0 ≤ x1_workCount ∧ x1_workCount ≤ 7) ∧ (1 ≤ x1_years ∧ x1_years ≤ 30) ∧ (LnOk x1_lines) ∧ (GdOk g53) ∧ (WkOk x1_works) ∧ (AI 0 99 x1_change) ∧ (AI 0 9 x1_coin) from ⟨(by decide), h_g48, h_g49, h_x1_lineCount, h_g52, h_x1_workCount, h_x1_years, h_x1_lines, h_g53, h_x1_works, h_x1_change, h_x1_coin⟩)
  · refine Sf.ite (fun hc23 => ?_) (fun hc23 => ?_)
    · exact Sf.ok (show (0 ≤ 0 ∧ 0 ≤ 1) ∧ (0 ≤ x0_start ∧ x0_start ≤ 250) ∧ (0 ≤ x0_end ∧ x0_end ≤ 250) ∧ (0 ≤ x1_lineCount ∧ x1_lineCount ≤ 20) ∧ (0 ≤ x1_goodsCount ∧ x1_goodsCount ≤ 8) ∧ (0 ≤ x1_workCount ∧ x1_workCount ≤ 7) ∧ (1 ≤ x1_years ∧ x1_years ≤ 30) ∧ (LnOk x1_lines) ∧ (GdOk x1_goods) ∧ (WkOk x1_works) ∧ (AI 0 99 x1_change) ∧ (AI 0 9 x1_coin) from ⟨(by decide), h_x0_start, h_x0_end, h_x1_lineCount, h_x1_goodsCount, h_x1_workCount, h_x1_years, h_x1_lines, h_x1_goods, h_x1_works, h_x1_change, h_x1_coin⟩)
    · refine Sf.bind (sX3_readLine hn h_x0_size h_x0_start h_x0_end h_x1_lineCount h_x1_goodsCount h_x1_workCount h_x1_years h_x1_lines h_x1_goods h_x1_works h_x1_change h_x1_coin) ?_
      rintro ⟨v56, g57, g58, g59, g60, g61, g62, g63⟩ hr24
      obtain ⟨h_v56, h_g57, h_g58, h_g61, h_g62⟩ : (0 ≤ v56 ∧ v56 ≤ 1) ∧ (0 ≤ g57 ∧ g57 ≤ 250) ∧ (0 ≤ g58 ∧ g58 ≤ 250) ∧ (0 ≤ g61 ∧ g61 ≤ 20) ∧ (LnOk g62) := hr24
      dsimp only [u8]
      refine Sf.ite (fun hc25 => ?_) (fun hc25 => ?_)
      · exact Sf.ok (show (0 ≤ 0 ∧ 0 ≤ 1) ∧ (0 ≤ g57 ∧ g57 ≤ 250) ∧ (0 ≤ g58 ∧ g58 ≤ 250) ∧ (0 ≤ g61 ∧ g61 ≤ 20) ∧ (0 ≤ x1_goodsCount ∧ x1_goodsCount ≤ 8) ∧ (0 ≤ x1_workCount ∧ x1_workCount ≤ 7) ∧ (1 ≤ x1_years ∧ x1_years ≤ 30) ∧ (LnOk g62) ∧ (GdOk x1_goods) ∧ (WkOk x1_works) ∧ (AI 0 99 x1_change) ∧ (AI 0 9 x1_coin) from ⟨(by decide), h_g57, h_g58, h_g61, h_x1_goodsCount, h_x1_workCount, h_x1_years, h_g62, h_x1_goods, h_x1_works, h_x1_change, h_x1_coin⟩)
      · exact Sf.ok (show (0 ≤ 1 ∧ 1 ≤ 1) ∧ (0 ≤ g57 ∧ g57 ≤ 250) ∧ (0 ≤ g58 ∧ g58 ≤ 250) ∧ (0 ≤ g61 ∧ g61 ≤ 20) ∧ (0 ≤ x1_goodsCount ∧ x1_goodsCount ≤ 8) ∧ (0 ≤ x1_workCount ∧ x1_workCount ≤ 7) ∧ (1 ≤ x1_years ∧ x1_years ≤ 30) ∧ (LnOk g62) ∧ (GdOk x1_goods) ∧ (WkOk x1_works) ∧ (AI 0 99 x1_change) ∧ (AI 0 9 x1_coin) from ⟨(by decide), h_g57, h_g58, h_g61, h_x1_goodsCount, h_x1_workCount, h_x1_years, h_g62, h_x1_goods, h_x1_works, h_x1_change, h_x1_coin⟩)
theorem TX3_readInto_s11 {n : Nat} {x0_bytes : (Nat → Int32)} {x0_size : Int32} {x1_knownFree : (Nat → Int32)} {z7 z8 z9 z10 z11 z12 z13 z14 z15 : Int32} {z16 z17 z18 z19 z20 : (Nat → Int32)} {z21 : Int32} (hn : 1000000000000 ≤ n) (h_x0_size : (0 ≤ x0_size ∧ x0_size ≤ 250)) (h_z7 : (0 ≤ z7)) (h_z8 : (0 ≤ z8 ∧ z8 ≤ 250)) (h_z9 : (0 ≤ z9 ∧ z9 ≤ 250)) (h_z12 : (0 ≤ z12 ∧ z12 ≤ 20)) (h_z13 : (0 ≤ z13 ∧ z13 ≤ 8)) (h_z14 : (0 ≤ z14 ∧ z14 ≤ 7)) (h_z15 : (1 ≤ z15 ∧ z15 ≤ 30)) (h_z16 : (LnOk z16)) (h_z17 : (GdOk z17)) (h_z18 : (WkOk z18)) (h_z19 : (AI 0 99 z19)) (h_z20 : (AI 0 9 z20)) : Sf (fX3_readInto_s11 n x0_bytes x0_size x1_knownFree z7 z8 z9 z10 z11 z12 z13 z14 z15 z16 z17 z18 z19 z20 z21) (LQ (u15 (fun z7 z8 z9 z10 z11 z12 z13 z14 z15 z16 z17 z18 z19 z20 z21 => (0 ≤ z7) ∧ (0 ≤ z8 ∧ z8 ≤ 250) ∧ (0 ≤ z9 ∧ z9 ≤ 250) ∧ (0 ≤ z12 ∧ z12 ≤ 20) ∧ (0 ≤ z13 ∧ z13 ≤ 8) ∧ (0 ≤ z14 ∧ z14 ≤ 7) ∧ (1 ≤ z15 ∧ z15 ≤ 30) ∧ (LnOk z16) ∧ (GdOk z17) ∧ (WkOk z18) ∧ (AI 0 99 z19) ∧ (AI 0 9 z20))) (u15 (fun z7 z8 z9 z10 z11 z12 z13 z14 z15 z16 z17 z18 z19 z20 z21 => muUp z7)) (muUp z7) ((Sum.elim (fun a => (0 ≤ a.1 ∧ a.1 ≤ 250) ∧ (0 ≤ a.2.1 ∧ a.2.1 ≤ 250) ∧ (0 ≤ a.2.2.2.2.1 ∧ a.2.2.2.2.1 ≤ 20) ∧ (0 ≤ a.2.2.2.2.2.1 ∧ a.2.2.2.2.2.1 ≤ 8) ∧ (0 ≤ a.2.2.2.2.2.2.1 ∧ a.2.2.2.2.2.2.1 ≤ 7) ∧ (1 ≤ a.2.2.2.2.2.2.2.1 ∧ a.2.2.2.2.2.2.2.1 ≤ 30) ∧ (LnOk a.2.2.2.2.2.2.2.2.1) ∧ (GdOk a.2.2.2.2.2.2.2.2.2.1) ∧ (WkOk a.2.2.2.2.2.2.2.2.2.2.1) ∧ (AI 0 99 a.2.2.2.2.2.2.2.2.2.2.2.1) ∧ (AI 0 9 a.2.2.2.2.2.2.2.2.2.2.2.2.1)) (Sum.elim (fun a => (0 ≤ a.1) ∧ (0 ≤ a.2.1 ∧ a.2.1 ≤ 250) ∧ (0 ≤ a.2.2.1 ∧ a.2.2.1 ≤ 250) ∧ (0 ≤ a.2.2.2.2.2.1 ∧ a.2.2.2.2.2.1 ≤ 20) ∧ (0 ≤ a.2.2.2.2.2.2.1 ∧ a.2.2.2.2.2.2.1 ≤ 8) ∧ (0 ≤ a.2.2.2.2.2.2.2.1 ∧ a.2.2.2.2.2.2.2.1 ≤ 7) ∧ (1 ≤ a.2.2.2.2.2.2.2.2.1 ∧ a.2.2.2.2.2.2.2.2.1 ≤ 30) ∧ (LnOk a.2.2.2.2.2.2.2.2.2.1) ∧ (GdOk a.2.2.2.2.2.2.2.2.2.2.1) ∧ (WkOk a.2.2.2.2.2.2.2.2.2.2.2.1) ∧ (AI 0 99 a.2.2.2.2.2.2.2.2.2.2.2.2.1) ∧ (AI 0 9 a.2.2.2.2.2.2.2.2.2.2.2.2.2.1)) (Sum.elim (fun a => (0 ≤ a.1 ∧ a.1 ≤ 250) ∧ (0 ≤ a.2.1 ∧ a.2.1 ≤ 250) ∧ (0 ≤ a.2.2.2.2.1 ∧ a.2.2.2.2.1 ≤ 20) ∧ (0 ≤ a.2.2.2.2.2.1 ∧ a.2.2.2.2.2.1 ≤ 8) ∧ (0 ≤ a.2.2.2.2.2.2.1 ∧ a.2.2.2.2.2.2.1 ≤ 7) ∧ (1 ≤ a.2.2.2.2.2.2.2.1 ∧ a.2.2.2.2.2.2.2.1 ≤ 30) ∧ (LnOk a.2.2.2.2.2.2.2.2.1) ∧ (GdOk a.2.2.2.2.2.2.2.2.2.1) ∧ (WkOk a.2.2.2.2.2.2.2.2.2.2.1) ∧ (AI 0 99 a.2.2.2.2.2.2.2.2.2.2.2.1) ∧ (AI 0 9 a.2.2.2.2.2.2.2.2.2.2.2.2.1)) (fun a => (0 ≤ a.1 ∧ a.1 ≤ 250) ∧ (0 ≤ a.2.1 ∧ a.2.1 ≤ 250) ∧ (0 ≤ a.2.2.2.2.1 ∧ a.2.2.2.2.1 ≤ 20) ∧ (0 ≤ a.2.2.2.2.2.1 ∧ a.2.2.2.2.2.1 ≤ 8) ∧ (0 ≤ a.2.2.2.2.2.2.1 ∧ a.2.2.2.2.2.2.1 ≤ 7) ∧ (1 ≤ a.2.2.2.2.2.2.2.1 ∧ a.2.2.2.2.2.2.2.1 ≤ 30) ∧ (LnOk a.2.2.2.2.2.2.2.2.1) ∧ (GdOk a.2.2.2.2.2.2.2.2.2.1) ∧ (WkOk a.2.2.2.2.2.2.2.2.2.2.1) ∧ (AI 0 99 a.2.2.2.2.2.2.2.2.2.2.2.1) ∧ (AI 0 9 a.2.2.2.2.2.2.2.2.2.2.2.2.1))))))) := by
  unfold fX3_readInto_s11
  refine Sf.ite (fun hc1 => ?_) (fun hc1 => ?_)
  · exact Sf.inr (show (0 ≤ z8 ∧ z8 ≤ 250) ∧ (0 ≤ z9 ∧ z9 ≤ 250) ∧ (0 ≤ z12 ∧ z12 ≤ 20) ∧ (0 ≤ z13 ∧ z13 ≤ 8) ∧ (0 ≤ z14 ∧ z14 ≤ 7) ∧ (1 ≤ z15 ∧ z15 ≤ 30) ∧ (LnOk z16) ∧ (GdOk z17) ∧ (WkOk z18) ∧ (AI 0 99 z19) ∧ (AI 0 9 z20) from ⟨h_z8, h_z9, h_z12, h_z13, h_z14, h_z15, h_z16, h_z17, h_z18, h_z19, h_z20⟩)
  · refine Sf.bind (sX3_readStatement hn h_x0_size h_z8 h_z9 h_z12 h_z13 h_z14 h_z15 h_z16 h_z17 h_z18 h_z19 h_z20) ?_
    rintro ⟨v80, g81, g82, g83, g84, ⟨g86, g87, g88, g89, g90, g91, g92, g93, g94, g95⟩⟩ hr2
    obtain ⟨h_v80, h_g81, h_g82, h_g86, h_g87, h_g88, h_g89, h_g90, h_g91, h_g92, h_g93, h_g94⟩ : (0 ≤ v80 ∧ v80 ≤ 1) ∧ (0 ≤ g81 ∧ g81 ≤ 250) ∧ (0 ≤ g82 ∧ g82 ≤ 250) ∧ (0 ≤ g86 ∧ g86 ≤ 20) ∧ (0 ≤ g87 ∧ g87 ≤ 8) ∧ (0 ≤ g88 ∧ g88 ≤ 7) ∧ (1 ≤ g89 ∧ g89 ≤ 30) ∧ (LnOk g90) ∧ (GdOk g91) ∧ (WkOk g92) ∧ (AI 0 99 g93) ∧ (AI 0 9 g94) := hr2
    dsimp only [u10, u6]
    refine Sf.ite (fun hc3 => ?_) (fun hc3 => ?_)
    · exact Sf.inr (show (0 ≤ g81 ∧ g81 ≤ 250) ∧ (0 ≤ g82 ∧ g82 ≤ 250) ∧ (0 ≤ g86 ∧ g86 ≤ 20) ∧ (0 ≤ g87 ∧ g87 ≤ 8) ∧ (0 ≤ g88 ∧ g88 ≤ 7) ∧ (1 ≤ g89 ∧ g89 ≤ 30) ∧ (LnOk g90) ∧ (GdOk g91) ∧ (WkOk g92) ∧ (AI 0 99 g93) ∧ (AI 0 9 g94) from ⟨h_g81, h_g82, h_g86, h_g87, h_g88, h_g89, h_g90, h_g91, h_g92, h_g93, h_g94⟩)
    · refine Sf.ite (fun hc4 => ?_) (fun hc4 => ?_)
      · exact Sf.inr (show (0 ≤ z7) ∧ (0 ≤ g81 ∧ g81 ≤ 250) ∧ (0 ≤ g82 ∧ g82 ≤ 250) ∧ (0 ≤ g86 ∧ g86 ≤ 20) ∧ (0 ≤ g87 ∧ g87 ≤ 8) ∧ (0 ≤ g88 ∧ g88 ≤ 7) ∧ (1 ≤ g89 ∧ g89 ≤ 30) ∧ (LnOk g90) ∧ (GdOk g91) ∧ (WkOk g92) ∧ (AI 0 99 g93) ∧ (AI 0 9 g94) from ⟨h_z7, h_g81, h_g82, h_g86, h_g87, h_g88, h_g89, h_g90, h_g91, h_g92, h_g93, h_g94⟩)
      · refine Sf.ite (fun hc5 => ?_) (fun hc5 => ?_)
        · refine Sf.bind (sX3_next hn h_x0_size h_g81 h_g82) ?_
          rintro ⟨g97, g98, g99, g100⟩ hr6
          obtain ⟨h_g97, h_g98⟩ : (0 ≤ g97 ∧ g97 ≤ 250) ∧ (0 ≤ g98 ∧ g98 ≤ 250) := hr6
          dsimp only [u4]
          exact Sf.inl (show (0 ≤ (z7 + 1)) ∧ (0 ≤ g97 ∧ g97 ≤ 250) ∧ (0 ≤ g98 ∧ g98 ≤ 250) ∧ (0 ≤ g86 ∧ g86 ≤ 20) ∧ (0 ≤ g87 ∧ g87 ≤ 8) ∧ (0 ≤ g88 ∧ g88 ≤ 7) ∧ (1 ≤ g89 ∧ g89 ≤ 30) ∧ (LnOk g90) ∧ (GdOk g91) ∧ (WkOk g92) ∧ (AI 0 99 g93) ∧ (AI 0 9 g94) from ⟨(by grind), h_g97, h_g98, h_g86, h_g87, h_g88, h_g89, h_g90, h_g91, h_g92, h_g93, h_g94⟩) (muUp_lt' (B := 2147483647) (by grind))
        · exact Sf.inr (show (0 ≤ g81 ∧ g81 ≤ 250) ∧ (0 ≤ g82 ∧ g82 ≤ 250) ∧ (0 ≤ g86 ∧ g86 ≤ 20) ∧ (0 ≤ g87 ∧ g87 ≤ 8) ∧ (0 ≤ g88 ∧ g88 ≤ 7) ∧ (1 ≤ g89 ∧ g89 ≤ 30) ∧ (LnOk g90) ∧ (GdOk g91) ∧ (WkOk g92) ∧ (AI 0 99 g93) ∧ (AI 0 9 g94) from ⟨h_g81, h_g82, h_g86, h_g87, h_g88, h_g89, h_g90, h_g91, h_g92, h_g93, h_g94⟩)
theorem LX3_readInto_s11 {n : Nat} {x0_bytes : (Nat → Int32)} {x0_size : Int32} {x1_knownFree : (Nat → Int32)} {z7 z8 z9 z10 z11 z12 z13 z14 z15 : Int32} {z16 z17 z18 z19 z20 : (Nat → Int32)} {z21 : Int32} (hn : 1000000000000 ≤ n) (h_x0_size : (0 ≤ x0_size ∧ x0_size ≤ 250)) (h_z7 : (0 ≤ z7)) (h_z8 : (0 ≤ z8 ∧ z8 ≤ 250)) (h_z9 : (0 ≤ z9 ∧ z9 ≤ 250)) (h_z12 : (0 ≤ z12 ∧ z12 ≤ 20)) (h_z13 : (0 ≤ z13 ∧ z13 ≤ 8)) (h_z14 : (0 ≤ z14 ∧ z14 ≤ 7)) (h_z15 : (1 ≤ z15 ∧ z15 ≤ 30)) (h_z16 : (LnOk z16)) (h_z17 : (GdOk z17)) (h_z18 : (WkOk z18)) (h_z19 : (AI 0 99 z19)) (h_z20 : (AI 0 9 z20)) : Sf (lp (u15 (fX3_readInto_s11 n x0_bytes x0_size x1_knownFree)) n (z7, z8, z9, z10, z11, z12, z13, z14, z15, z16, z17, z18, z19, z20, z21)) ((Sum.elim (fun a => (0 ≤ a.1 ∧ a.1 ≤ 250) ∧ (0 ≤ a.2.1 ∧ a.2.1 ≤ 250) ∧ (0 ≤ a.2.2.2.2.1 ∧ a.2.2.2.2.1 ≤ 20) ∧ (0 ≤ a.2.2.2.2.2.1 ∧ a.2.2.2.2.2.1 ≤ 8) ∧ (0 ≤ a.2.2.2.2.2.2.1 ∧ a.2.2.2.2.2.2.1 ≤ 7) ∧ (1 ≤ a.2.2.2.2.2.2.2.1 ∧ a.2.2.2.2.2.2.2.1 ≤ 30) ∧ (LnOk a.2.2.2.2.2.2.2.2.1) ∧ (GdOk a.2.2.2.2.2.2.2.2.2.1) ∧ (WkOk a.2.2.2.2.2.2.2.2.2.2.1) ∧ (AI 0 99 a.2.2.2.2.2.2.2.2.2.2.2.1) ∧ (AI 0 9 a.2.2.2.2.2.2.2.2.2.2.2.2.1)) (Sum.elim (fun a => (0 ≤ a.1) ∧ (0 ≤ a.2.1 ∧ a.2.1 ≤ 250) ∧ (0 ≤ a.2.2.1 ∧ a.2.2.1 ≤ 250) ∧ (0 ≤ a.2.2.2.2.2.1 ∧ a.2.2.2.2.2.1 ≤ 20) ∧ (0 ≤ a.2.2.2.2.2.2.1 ∧ a.2.2.2.2.2.2.1 ≤ 8) ∧ (0 ≤ a.2.2.2.2.2.2.2.1 ∧ a.2.2.2.2.2.2.2.1 ≤ 7) ∧ (1 ≤ a.2.2.2.2.2.2.2.2.1 ∧ a.2.2.2.2.2.2.2.2.1 ≤ 30) ∧ (LnOk a.2.2.2.2.2.2.2.2.2.1) ∧ (GdOk a.2.2.2.2.2.2.2.2.2.2.1) ∧ (WkOk a.2.2.2.2.2.2.2.2.2.2.2.1) ∧ (AI 0 99 a.2.2.2.2.2.2.2.2.2.2.2.2.1) ∧ (AI 0 9 a.2.2.2.2.2.2.2.2.2.2.2.2.2.1)) (Sum.elim (fun a => (0 ≤ a.1 ∧ a.1 ≤ 250) ∧ (0 ≤ a.2.1 ∧ a.2.1 ≤ 250) ∧ (0 ≤ a.2.2.2.2.1 ∧ a.2.2.2.2.1 ≤ 20) ∧ (0 ≤ a.2.2.2.2.2.1 ∧ a.2.2.2.2.2.1 ≤ 8) ∧ (0 ≤ a.2.2.2.2.2.2.1 ∧ a.2.2.2.2.2.2.1 ≤ 7) ∧ (1 ≤ a.2.2.2.2.2.2.2.1 ∧ a.2.2.2.2.2.2.2.1 ≤ 30) ∧ (LnOk a.2.2.2.2.2.2.2.2.1) ∧ (GdOk a.2.2.2.2.2.2.2.2.2.1) ∧ (WkOk a.2.2.2.2.2.2.2.2.2.2.1) ∧ (AI 0 99 a.2.2.2.2.2.2.2.2.2.2.2.1) ∧ (AI 0 9 a.2.2.2.2.2.2.2.2.2.2.2.2.1)) (fun a => (0 ≤ a.1 ∧ a.1 ≤ 250) ∧ (0 ≤ a.2.1 ∧ a.2.1 ≤ 250) ∧ (0 ≤ a.2.2.2.2.1 ∧ a.2.2.2.2.1 ≤ 20) ∧ (0 ≤ a.2.2.2.2.2.1 ∧ a.2.2.2.2.2.1 ≤ 8) ∧ (0 ≤ a.2.2.2.2.2.2.1 ∧ a.2.2.2.2.2.2.1 ≤ 7) ∧ (1 ≤ a.2.2.2.2.2.2.2.1 ∧ a.2.2.2.2.2.2.2.1 ≤ 30) ∧ (LnOk a.2.2.2.2.2.2.2.2.1) ∧ (GdOk a.2.2.2.2.2.2.2.2.2.1) ∧ (WkOk a.2.2.2.2.2.2.2.2.2.2.1) ∧ (AI 0 99 a.2.2.2.2.2.2.2.2.2.2.2.1) ∧ (AI 0 9 a.2.2.2.2.2.2.2.2.2.2.2.2.1)))))) :=
  Sf.loop15 (fun z7 z8 z9 z10 z11 z12 z13 z14 z15 z16 z17 z18 z19 z20 z21 => (0 ≤ z7) ∧ (0 ≤ z8 ∧ z8 ≤ 250) ∧ (0 ≤ z9 ∧ z9 ≤ 250) ∧ (0 ≤ z12 ∧ z12 ≤ 20) ∧ (0 ≤ z13 ∧ z13 ≤ 8) ∧ (0 ≤ z14 ∧ z14 ≤ 7) ∧ (1 ≤ z15 ∧ z15 ≤ 30) ∧ (LnOk z16) ∧ (GdOk z17) ∧ (WkOk z18) ∧ (AI 0 99 z19) ∧ (AI 0 9 z20)) (fun z7 z8 z9 z10 z11 z12 z13 z14 z15 z16 z17 z18 z19 z20 z21 => muUp z7) (fun z7 z8 z9 z10 z11 z12 z13 z14 z15 z16 z17 z18 z19 z20 z21 h => TX3_readInto_s11 hn h_x0_size h.1 h.2.1 h.2.2.1 h.2.2.2.1 h.2.2.2.2.1 h.2.2.2.2.2.1 h.2.2.2.2.2.2.1 h.2.2.2.2.2.2.2.1 h.2.2.2.2.2.2.2.2.1 h.2.2.2.2.2.2.2.2.2.1 h.2.2.2.2.2.2.2.2.2.2.1 h.2.2.2.2.2.2.2.2.2.2.2) (show (0 ≤ z7) ∧ (0 ≤ z8 ∧ z8 ≤ 250) ∧ (0 ≤ z9 ∧ z9 ≤ 250) ∧ (0 ≤ z12 ∧ z12 ≤ 20) ∧ (0 ≤ z13 ∧ z13 ≤ 8) ∧ (0 ≤ z14 ∧ z14 ≤ 7) ∧ (1 ≤ z15 ∧ z15 ≤ 30) ∧ (LnOk z16) ∧ (GdOk z17) ∧ (WkOk z18) ∧ (AI 0 99 z19) ∧ (AI 0 9 z20) from ⟨h_z7, h_z8, h_z9, h_z12, h_z13, h_z14, h_z15, h_z16, h_z17, h_z18, h_z19, h_z20⟩) (muUp_n hn)
set_option maxHeartbeats 1000000 in
theorem sX3_readInto {n : Nat} {x0_bytes : (Nat → Int32)} {x0_size x0_start x0_end x0_token x0_value x1_lineCount x1_goodsCount x1_workCount x1_years : Int32} {x1_lines x1_goods x1_works x1_change x1_coin x1_knownFree : (Nat → Int32)} {x1_isKnown : Int32} (hn : 1000000000000 ≤ n) (h_x0_size : (0 ≤ x0_size ∧ x0_size ≤ 250)) (h_x0_start : (0 ≤ x0_start ∧ x0_start ≤ 250)) (h_x0_end : (0 ≤ x0_end ∧ x0_end ≤ 250)) (h_x1_lineCount : (0 ≤ x1_lineCount ∧ x1_lineCount ≤ 20)) (h_x1_goodsCount : (0 ≤ x1_goodsCount ∧ x1_goodsCount ≤ 8)) (h_x1_workCount : (0 ≤ x1_workCount ∧ x1_workCount ≤ 7)) (h_x1_years : (1 ≤ x1_years ∧ x1_years ≤ 30)) (h_x1_lines : (LnOk x1_lines)) (h_x1_goods : (GdOk x1_goods)) (h_x1_works : (WkOk x1_works)) (h_x1_change : (AI 0 99 x1_change)) (h_x1_coin : (AI 0 9 x1_coin)) : Sf (fX3_readInto n (x0_bytes, x0_size, x0_start, x0_end, x0_token, x0_value) (x1_lineCount, x1_goodsCount, x1_workCount, x1_years, x1_lines, x1_goods, x1_works, x1_change, x1_coin, x1_knownFree, x1_isKnown)) (fun r => (0 ≤ r.2.1 ∧ r.2.1 ≤ 250) ∧ (0 ≤ r.2.2.1 ∧ r.2.2.1 ≤ 250) ∧ (0 ≤ r.2.2.2.2.2.1 ∧ r.2.2.2.2.2.1 ≤ 20) ∧ (0 ≤ r.2.2.2.2.2.2.1 ∧ r.2.2.2.2.2.2.1 ≤ 8) ∧ (0 ≤ r.2.2.2.2.2.2.2.1 ∧ r.2.2.2.2.2.2.2.1 ≤ 7) ∧ (1 ≤ r.2.2.2.2.2.2.2.2.1 ∧ r.2.2.2.2.2.2.2.2.1 ≤ 30) ∧ (LnOk r.2.2.2.2.2.2.2.2.2.1) ∧ (GdOk r.2.2.2.2.2.2.2.2.2.2.1) ∧ (WkOk r.2.2.2.2.2.2.2.2.2.2.2.1) ∧ (AI 0 99 r.2.2.2.2.2.2.2.2.2.2.2.2.1) ∧ (AI 0 9 r.2.2.2.2.2.2.2.2.2.2.2.2.2.1)) := by
  unfold fX3_readInto
  dsimp only [u11, u6]
  refine Sf.bind (sX3_next hn h_x0_size h_x0_start (by decide)) ?_
  rintro ⟨g1, g2, g3, g4⟩ hr1
  obtain ⟨h_g1, h_g2⟩ : (0 ≤ g1 ∧ g1 ≤ 250) ∧ (0 ≤ g2 ∧ g2 ≤ 250) := hr1
  dsimp only [u4]
  refine Sf.bindS (LX3_readInto_s11 hn h_x0_size (by decide) h_g1 h_g2 h_x1_lineCount h_x1_goodsCount h_x1_workCount h_x1_years h_x1_lines h_x1_goods h_x1_works h_x1_change h_x1_coin) ?_ ?_
  · rintro ⟨w23, w24, w25, w26, w27, w28, w29, w30, w31, w32, w33, w34, w35, w36⟩ hr2
    obtain ⟨h_w23, h_w24, h_w27, h_w28, h_w29, h_w30, h_w31, h_w32, h_w33, h_w34, h_w35⟩ : (0 ≤ w23 ∧ w23 ≤ 250) ∧ (0 ≤ w24 ∧ w24 ≤ 250) ∧ (0 ≤ w27 ∧ w27 ≤ 20) ∧ (0 ≤ w28 ∧ w28 ≤ 8) ∧ (0 ≤ w29 ∧ w29 ≤ 7) ∧ (1 ≤ w30 ∧ w30 ≤ 30) ∧ (LnOk w31) ∧ (GdOk w32) ∧ (WkOk w33) ∧ (AI 0 99 w34) ∧ (AI 0 9 w35) := hr2
    dsimp only [u14]
    exact Sf.ok (show (0 ≤ w23 ∧ w23 ≤ 250) ∧ (0 ≤ w24 ∧ w24 ≤ 250) ∧ (0 ≤ w27 ∧ w27 ≤ 20) ∧ (0 ≤ w28 ∧ w28 ≤ 8) ∧ (0 ≤ w29 ∧ w29 ≤ 7) ∧ (1 ≤ w30 ∧ w30 ≤ 30) ∧ (LnOk w31) ∧ (GdOk w32) ∧ (WkOk w33) ∧ (AI 0 99 w34) ∧ (AI 0 9 w35) from ⟨h_w23, h_w24, h_w27, h_w28, h_w29, h_w30, h_w31, h_w32, h_w33, h_w34, h_w35⟩)
  · refine Sf.elimS ?_ ?_
    · rintro ⟨w37, w38, w39, w40, w41, w42, w43, w44, w45, w46, w47, w48, w49, w50, w51⟩ hr3
      obtain ⟨h_w37, h_w38, h_w39, h_w42, h_w43, h_w44, h_w45, h_w46, h_w47, h_w48, h_w49, h_w50⟩ : (0 ≤ w37) ∧ (0 ≤ w38 ∧ w38 ≤ 250) ∧ (0 ≤ w39 ∧ w39 ≤ 250) ∧ (0 ≤ w42 ∧ w42 ≤ 20) ∧ (0 ≤ w43 ∧ w43 ≤ 8) ∧ (0 ≤ w44 ∧ w44 ≤ 7) ∧ (1 ≤ w45 ∧ w45 ≤ 30) ∧ (LnOk w46) ∧ (GdOk w47) ∧ (WkOk w48) ∧ (AI 0 99 w49) ∧ (AI 0 9 w50) := hr3
      dsimp only [u15]
      exact Sf.ok (show (0 ≤ w38 ∧ w38 ≤ 250) ∧ (0 ≤ w39 ∧ w39 ≤ 250) ∧ (0 ≤ w42 ∧ w42 ≤ 20) ∧ (0 ≤ w43 ∧ w43 ≤ 8) ∧ (0 ≤ w44 ∧ w44 ≤ 7) ∧ (1 ≤ w45 ∧ w45 ≤ 30) ∧ (LnOk w46) ∧ (GdOk w47) ∧ (WkOk w48) ∧ (AI 0 99 w49) ∧ (AI 0 9 w50) from ⟨h_w38, h_w39, h_w42, h_w43, h_w44, h_w45, h_w46, h_w47, h_w48, h_w49, h_w50⟩)
    · refine Sf.elimS ?_ ?_
      · rintro ⟨w52, w53, w54, w55, w56, w57, w58, w59, w60, w61, w62, w63, w64, w65⟩ hr4
        obtain ⟨h_w52, h_w53, h_w56, h_w57, h_w58, h_w59, h_w60, h_w61, h_w62, h_w63, h_w64⟩ : (0 ≤ w52 ∧ w52 ≤ 250) ∧ (0 ≤ w53 ∧ w53 ≤ 250) ∧ (0 ≤ w56 ∧ w56 ≤ 20) ∧ (0 ≤ w57 ∧ w57 ≤ 8) ∧ (0 ≤ w58 ∧ w58 ≤ 7) ∧ (1 ≤ w59 ∧ w59 ≤ 30) ∧ (LnOk w60) ∧ (GdOk w61) ∧ (WkOk w62) ∧ (AI 0 99 w63) ∧ (AI 0 9 w64) := hr4
        dsimp only [u14]
        exact Sf.ok (show (0 ≤ w52 ∧ w52 ≤ 250) ∧ (0 ≤ w53 ∧ w53 ≤ 250) ∧ (0 ≤ w56 ∧ w56 ≤ 20) ∧ (0 ≤ w57 ∧ w57 ≤ 8) ∧ (0 ≤ w58 ∧ w58 ≤ 7) ∧ (1 ≤ w59 ∧ w59 ≤ 30) ∧ (LnOk w60) ∧ (GdOk w61) ∧ (WkOk w62) ∧ (AI 0 99 w63) ∧ (AI 0 9 w64) from ⟨h_w52, h_w53, h_w56, h_w57, h_w58, h_w59, h_w60, h_w61, h_w62, h_w63, h_w64⟩)
      · rintro ⟨w66, w67, w68, w69, w70, w71, w72, w73, w74, w75, w76, w77, w78, w79⟩ hr5
        obtain ⟨h_w66, h_w67, h_w70, h_w71, h_w72, h_w73, h_w74, h_w75, h_w76, h_w77, h_w78⟩ : (0 ≤ w66 ∧ w66 ≤ 250) ∧ (0 ≤ w67 ∧ w67 ≤ 250) ∧ (0 ≤ w70 ∧ w70 ≤ 20) ∧ (0 ≤ w71 ∧ w71 ≤ 8) ∧ (0 ≤ w72 ∧ w72 ≤ 7) ∧ (1 ≤ w73 ∧ w73 ≤ 30) ∧ (LnOk w74) ∧ (GdOk w75) ∧ (WkOk w76) ∧ (AI 0 99 w77) ∧ (AI 0 9 w78) := hr5
        dsimp only [u14]
        exact Sf.ok (show (0 ≤ w66 ∧ w66 ≤ 250) ∧ (0 ≤ w67 ∧ w67 ≤ 250) ∧ (0 ≤ w70 ∧ w70 ≤ 20) ∧ (0 ≤ w71 ∧ w71 ≤ 8) ∧ (0 ≤ w72 ∧ w72 ≤ 7) ∧ (1 ≤ w73 ∧ w73 ≤ 30) ∧ (LnOk w74) ∧ (GdOk w75) ∧ (WkOk w76) ∧ (AI 0 99 w77) ∧ (AI 0 9 w78) from ⟨h_w66, h_w67, h_w70, h_w71, h_w72, h_w73, h_w74, h_w75, h_w76, h_w77, h_w78⟩)
end
section
set_option maxHeartbeats 1000000 in
theorem sX4_costBetween {n : Nat} {x0_left x0_earned : (Nat → Int32)} {x0_turnCost x0_turnWayless : Int32} {x1_edgeA x1_edgeB x1_edgeCost x1_edgeLine x1_change x1_away x1_steps x1_nodes : (Nat → Int32)} {x1_stepCount : Int32} {x1_open : (Nat → Int32)} {x1_openCount : Int32} {x1_seen : Int64} {x1_edgeCount x1_aim x2_lineCount x2_goodsCount x2_workCount x2_years : Int32} {x2_lines x2_goods x2_works x2_change x2_coin x2_knownFree : (Nat → Int32)} {x2_isKnown p2 p3 : Int32} (hn : 1000000000000 ≤ n) (h_x1_edgeA : (AI 0 35 x1_edgeA)) (h_x1_edgeB : (AI 0 35 x1_edgeB)) (h_x1_edgeLine : (AI 0 19 x1_edgeLine)) (h_x1_steps : (AI 0 22 x1_steps)) (h_x1_nodes : (AI 0 35 x1_nodes)) (h_x1_stepCount : (0 ≤ x1_stepCount ∧ x1_stepCount ≤ 36)) (h_x1_open : (AI 0 35 x1_open)) (h_x1_openCount : (0 ≤ x1_openCount ∧ x1_openCount ≤ 36)) (h_x1_edgeCount : (0 ≤ x1_edgeCount ∧ x1_edgeCount ≤ 60)) (h_x2_lineCount : (0 ≤ x2_lineCount ∧ x2_lineCount ≤ 20)) (h_x2_goodsCount : (0 ≤ x2_goodsCount ∧ x2_goodsCount ≤ 8)) (h_x2_workCount : (0 ≤ x2_workCount ∧ x2_workCount ≤ 7)) (h_x2_years : (1 ≤ x2_years ∧ x2_years ≤ 30)) (h_x2_lines : (LnOk x2_lines)) (h_x2_goods : (GdOk x2_goods)) (h_x2_works : (WkOk x2_works)) (h_x2_change : (AI 0 99 x2_change)) (h_x2_coin : (AI 0 9 x2_coin)) (h_p2 : (0 ≤ p2 ∧ p2 ≤ 11)) (h_p3 : (0 ≤ p3 ∧ p3 ≤ 11)) : Sf (fX4_costBetween n (x0_left, x0_earned, x0_turnCost, x0_turnWayless) (x1_edgeA, x1_edgeB, x1_edgeCost, x1_edgeLine, x1_change, x1_away, x1_steps, x1_nodes, x1_stepCount, x1_open, x1_openCount, x1_seen, x1_edgeCount, x1_aim) (x2_lineCount, x2_goodsCount, x2_workCount, x2_years, x2_lines, x2_goods, x2_works, x2_change, x2_coin, x2_knownFree, x2_isKnown) p2 p3) (fun r => (AI 0 35 r.2.1) ∧ (AI 0 35 r.2.2.1) ∧ (AI 0 19 r.2.2.2.2.1) ∧ (0 ≤ r.2.2.2.2.2.2.2.1 ∧ r.2.2.2.2.2.2.2.1 ≤ 60)) := by
  unfold fX4_costBetween
  dsimp only [u11, u14, u4]
  refine Sf.bind (sX1_linesThere hn h_x2_lineCount h_x2_goodsCount h_x2_workCount h_x2_years h_x2_lines h_x2_goods h_x2_works h_x2_change h_x2_coin) ?_
  intro v1 hr1
  refine Sf.bind (sX5_prepare hn h_x1_edgeA h_x1_edgeB h_x1_edgeLine h_x1_steps h_x1_nodes h_x1_stepCount h_x1_open h_x1_openCount h_x1_edgeCount h_x2_lineCount h_x2_goodsCount h_x2_workCount h_x2_years h_x2_lines h_x2_goods h_x2_works h_x2_change h_x2_coin) ?_
  rintro ⟨g4, g5, g6, g7, g8, g9, g10⟩ hr2
  obtain ⟨h_g4, h_g5, h_g7, h_g9⟩ : (AI 0 35 g4) ∧ (AI 0 35 g5) ∧ (AI 0 19 g7) ∧ (0 ≤ g9 ∧ g9 ≤ 60) := hr2
  dsimp only [u7]
  refine Sf.bind (sX5_aimAt hn h_g4 h_g5 h_g7 h_x1_steps h_x1_nodes h_x1_stepCount h_x1_open h_x1_openCount h_g9 h_p3) ?_
  rintro ⟨g12, g13⟩ hr3
  dsimp only [u2]
  refine Sf.bind (sX5_costFrom hn h_g4 h_g5 h_g7 h_x1_steps h_x1_nodes h_x1_stepCount h_x1_open h_x1_openCount h_g9 h_p2) ?_
  intro v15 hr4
  exact Sf.ok (show (AI 0 35 g4) ∧ (AI 0 35 g5) ∧ (AI 0 19 g7) ∧ (0 ≤ g9 ∧ g9 ≤ 60) from ⟨h_g4, h_g5, h_g7, h_g9⟩)
theorem TX4_linesBearing_s8 {p2 : Int32} {x0_left : (Nat → Int32)} {x1_lineCount z4 z5 : Int32}  (h_x1_lineCount : (0 ≤ x1_lineCount ∧ x1_lineCount ≤ 20)) (h_z5 : (0 ≤ z5)) : Sf (fX4_linesBearing_s8 p2 x0_left x1_lineCount z4 z5) (LQ (u2 (fun z4 z5 => (0 ≤ z5))) (u2 (fun z4 z5 => muUp z5)) (muUp z5) (fun e => True)) := by
  unfold fX4_linesBearing_s8
  refine Sf.ite (fun hc1 => ?_) (fun hc1 => ?_)
  · exact Sf.inr trivial
  · refine Sf.rdb 20 rfl (by grind) (fun v8 e_v8 => ?_)
    clear e_v8
    refine Sf.ite (fun hc2 => ?_) (fun hc2 => ?_)
    · exact Sf.inl (show (0 ≤ (z5 + 1)) from (by grind)) (muUp_lt hc1)
    · refine Sf.someb (fun t9 e_t9 => ?_)
      exact Sf.inl (show (0 ≤ (z5 + 1)) from (by grind)) (muUp_lt hc1)
theorem LX4_linesBearing_s8 {n : Nat} {p2 : Int32} {x0_left : (Nat → Int32)} {x1_lineCount z4 z5 : Int32} (hn : 1000000000000 ≤ n) (h_x1_lineCount : (0 ≤ x1_lineCount ∧ x1_lineCount ≤ 20)) (h_z5 : (0 ≤ z5)) : Sf (lp (u2 (fX4_linesBearing_s8 p2 x0_left x1_lineCount)) n (z4, z5)) (fun e => True) :=
  Sf.loop2 (fun z4 z5 => (0 ≤ z5)) (fun z4 z5 => muUp z5) (fun z4 z5 h => TX4_linesBearing_s8 h_x1_lineCount h) h_z5 (muUp_n hn)
set_option maxHeartbeats 1000000 in
theorem sX4_linesBearing {n : Nat} {x0_left x0_earned : (Nat → Int32)} {x0_turnCost x0_turnWayless x1_lineCount x1_goodsCount x1_workCount x1_years : Int32} {x1_lines x1_goods x1_works x1_change x1_coin x1_knownFree : (Nat → Int32)} {x1_isKnown p2 : Int32} (hn : 1000000000000 ≤ n) (h_x1_lineCount : (0 ≤ x1_lineCount ∧ x1_lineCount ≤ 20)) (h_x1_goodsCount : (0 ≤ x1_goodsCount ∧ x1_goodsCount ≤ 8)) (h_x1_workCount : (0 ≤ x1_workCount ∧ x1_workCount ≤ 7)) (h_x1_years : (1 ≤ x1_years ∧ x1_years ≤ 30)) (h_x1_lines : (LnOk x1_lines)) (h_x1_goods : (GdOk x1_goods)) (h_x1_works : (WkOk x1_works)) (h_x1_change : (AI 0 99 x1_change)) (h_x1_coin : (AI 0 9 x1_coin)) : Sf (fX4_linesBearing n (x0_left, x0_earned, x0_turnCost, x0_turnWayless) (x1_lineCount, x1_goodsCount, x1_workCount, x1_years, x1_lines, x1_goods, x1_works, x1_change, x1_coin, x1_knownFree, x1_isKnown) p2) (fun r => True) := by
  unfold fX4_linesBearing
  dsimp only [u11, u4]
  refine Sf.bind (sX1_linesThere hn h_x1_lineCount h_x1_goodsCount h_x1_workCount h_x1_years h_x1_lines h_x1_goods h_x1_works h_x1_change h_x1_coin) ?_
  intro v1 hr1
  refine Sf.bind (LX4_linesBearing_s8 hn h_x1_lineCount (by decide)) ?_
  intro w7 hr2
  exact Sf.ok trivial
theorem TX4_load_s2 {p1 : Int32} {x1_edgeA x1_edgeB x1_edgeCost x1_edgeLine x1_change x1_away x1_steps x1_nodes : (Nat → Int32)} {x1_stepCount : Int32} {x1_open : (Nat → Int32)} {x1_openCount : Int32} {x1_seen : Int64} {x1_edgeCount x1_aim z2 : Int32} {z3 : (Nat → Int32)}  (h_x1_edgeA : (AI 0 35 x1_edgeA)) (h_x1_edgeB : (AI 0 35 x1_edgeB)) (h_x1_edgeLine : (AI 0 19 x1_edgeLine)) (h_x1_steps : (AI 0 22 x1_steps)) (h_x1_nodes : (AI 0 35 x1_nodes)) (h_x1_stepCount : (0 ≤ x1_stepCount ∧ x1_stepCount ≤ 36)) (h_x1_open : (AI 0 35 x1_open)) (h_x1_openCount : (0 ≤ x1_openCount ∧ x1_openCount ≤ 36)) (h_x1_edgeCount : (0 ≤ x1_edgeCount ∧ x1_edgeCount ≤ 60)) (h_z2 : (0 ≤ z2)) : Sf (fX4_load_s2 p1 x1_edgeA x1_edgeB x1_edgeCost x1_edgeLine x1_change x1_away x1_steps x1_nodes x1_stepCount x1_open x1_openCount x1_seen x1_edgeCount x1_aim z2 z3) (LQ (u2 (fun z2 z3 => (0 ≤ z2))) (u2 (fun z2 z3 => muUp z2)) (muUp z2) (fun e => True)) := by
  unfold fX4_load_s2
  refine Sf.ite (fun hc1 => ?_) (fun hc1 => ?_)
  · exact Sf.inr trivial
  · refine Sf.bind (sX5_lineOn h_x1_edgeA h_x1_edgeB h_x1_edgeLine h_x1_steps h_x1_nodes h_x1_stepCount h_x1_open h_x1_openCount h_x1_edgeCount) ?_
    intro v6 hr2
    have h_v6 : ((-1) ≤ v6 ∧ v6 ≤ 19) := hr2
    refine Sf.ite (fun hc3 => ?_) (fun hc3 => ?_)
    · exact Sf.inl (show (0 ≤ (z2 + 1)) from (by grind)) (muUp_lt hc1)
    · refine Sf.rdb 20 rfl (by grind) (fun v8 e_v8 => ?_)
      clear e_v8
      refine Sf.wrb 20 rfl (by grind) (fun f9 e_f9 => ?_)
      clear e_f9
      exact Sf.inl (show (0 ≤ (z2 + 1)) from (by grind)) (muUp_lt hc1)
theorem LX4_load_s2 {n : Nat} {p1 : Int32} {x1_edgeA x1_edgeB x1_edgeCost x1_edgeLine x1_change x1_away x1_steps x1_nodes : (Nat → Int32)} {x1_stepCount : Int32} {x1_open : (Nat → Int32)} {x1_openCount : Int32} {x1_seen : Int64} {x1_edgeCount x1_aim z2 : Int32} {z3 : (Nat → Int32)} (hn : 1000000000000 ≤ n) (h_x1_edgeA : (AI 0 35 x1_edgeA)) (h_x1_edgeB : (AI 0 35 x1_edgeB)) (h_x1_edgeLine : (AI 0 19 x1_edgeLine)) (h_x1_steps : (AI 0 22 x1_steps)) (h_x1_nodes : (AI 0 35 x1_nodes)) (h_x1_stepCount : (0 ≤ x1_stepCount ∧ x1_stepCount ≤ 36)) (h_x1_open : (AI 0 35 x1_open)) (h_x1_openCount : (0 ≤ x1_openCount ∧ x1_openCount ≤ 36)) (h_x1_edgeCount : (0 ≤ x1_edgeCount ∧ x1_edgeCount ≤ 60)) (h_z2 : (0 ≤ z2)) : Sf (lp (u2 (fX4_load_s2 p1 x1_edgeA x1_edgeB x1_edgeCost x1_edgeLine x1_change x1_away x1_steps x1_nodes x1_stepCount x1_open x1_openCount x1_seen x1_edgeCount x1_aim)) n (z2, z3)) (fun e => True) :=
  Sf.loop2 (fun z2 z3 => (0 ≤ z2)) (fun z2 z3 => muUp z2) (fun z2 z3 h => TX4_load_s2 h_x1_edgeA h_x1_edgeB h_x1_edgeLine h_x1_steps h_x1_nodes h_x1_stepCount h_x1_open h_x1_openCount h_x1_edgeCount h) h_z2 (muUp_n hn)
set_option maxHeartbeats 1000000 in
theorem sX4_load {n : Nat} {x0_left x0_earned : (Nat → Int32)} {x0_turnCost x0_turnWayless : Int32} {x1_edgeA x1_edgeB x1_edgeCost x1_edgeLine x1_change x1_away x1_steps x1_nodes : (Nat → Int32)} {x1_stepCount : Int32} {x1_open : (Nat → Int32)} {x1_openCount : Int32} {x1_seen : Int64} {x1_edgeCount x1_aim p1 : Int32} (hn : 1000000000000 ≤ n) (h_x1_edgeA : (AI 0 35 x1_edgeA)) (h_x1_edgeB : (AI 0 35 x1_edgeB)) (h_x1_edgeLine : (AI 0 19 x1_edgeLine)) (h_x1_steps : (AI 0 22 x1_steps)) (h_x1_nodes : (AI 0 35 x1_nodes)) (h_x1_stepCount : (0 ≤ x1_stepCount ∧ x1_stepCount ≤ 36)) (h_x1_open : (AI 0 35 x1_open)) (h_x1_openCount : (0 ≤ x1_openCount ∧ x1_openCount ≤ 36)) (h_x1_edgeCount : (0 ≤ x1_edgeCount ∧ x1_edgeCount ≤ 60)) : Sf (fX4_load n (x0_left, x0_earned, x0_turnCost, x0_turnWayless) (x1_edgeA, x1_edgeB, x1_edgeCost, x1_edgeLine, x1_change, x1_away, x1_steps, x1_nodes, x1_stepCount, x1_open, x1_openCount, x1_seen, x1_edgeCount, x1_aim) p1) (fun r => True) := by
  unfold fX4_load
  dsimp only [u14, u4]
  refine Sf.bind (LX4_load_s2 hn h_x1_edgeA h_x1_edgeB h_x1_edgeLine h_x1_steps h_x1_nodes h_x1_stepCount h_x1_open h_x1_openCount h_x1_edgeCount (by decide)) ?_
  intro w5 hr1
  exact Sf.ok trivial
theorem TX4_sendInTurn_s12 {x2_lineCount x2_goodsCount x2_workCount x2_years : Int32} {x2_lines x2_goods x2_works x2_change x2_coin x2_knownFree : (Nat → Int32)} {x2_isKnown z2 : Int32} {z3 : (Nat → Int32)}  (h_x2_lineCount : (0 ≤ x2_lineCount ∧ x2_lineCount ≤ 20)) (h_x2_goodsCount : (0 ≤ x2_goodsCount ∧ x2_goodsCount ≤ 8)) (h_x2_workCount : (0 ≤ x2_workCount ∧ x2_workCount ≤ 7)) (h_x2_years : (1 ≤ x2_years ∧ x2_years ≤ 30)) (h_x2_lines : (LnOk x2_lines)) (h_x2_goods : (GdOk x2_goods)) (h_x2_works : (WkOk x2_works)) (h_x2_change : (AI 0 99 x2_change)) (h_x2_coin : (AI 0 9 x2_coin)) (h_z2 : (0 ≤ z2)) : Sf (fX4_sendInTurn_s12 x2_lineCount x2_goodsCount x2_workCount x2_years x2_lines x2_goods x2_works x2_change x2_coin x2_knownFree x2_isKnown z2 z3) (LQ (u2 (fun z2 z3 => (0 ≤ z2))) (u2 (fun z2 z3 => muUp z2)) (muUp z2) (fun e => True)) := by
  unfold fX4_sendInTurn_s12
  refine Sf.ite (fun hc1 => ?_) (fun hc1 => ?_)
  · exact Sf.inr trivial
  · refine Sf.bind (s_ofLine h_x2_lines (by grind) (by decide)) ?_
    intro v75 hr2
    obtain ⟨h_v75, e_v75⟩ : (0 ≤ v75 ∧ v75 ≤ 999) ∧ v75 = x2_lines (z2.toNatClampNeg * 7 + 4) := hr2
    clear e_v75
    refine Sf.wrb 20 rfl (by grind) (fun f77 e_f77 => ?_)
    clear e_f77
    exact Sf.inl (show (0 ≤ (z2 + 1)) from (by grind)) (muUp_lt hc1)
theorem LX4_sendInTurn_s12 {n : Nat} {x2_lineCount x2_goodsCount x2_workCount x2_years : Int32} {x2_lines x2_goods x2_works x2_change x2_coin x2_knownFree : (Nat → Int32)} {x2_isKnown z2 : Int32} {z3 : (Nat → Int32)} (hn : 1000000000000 ≤ n) (h_x2_lineCount : (0 ≤ x2_lineCount ∧ x2_lineCount ≤ 20)) (h_x2_goodsCount : (0 ≤ x2_goodsCount ∧ x2_goodsCount ≤ 8)) (h_x2_workCount : (0 ≤ x2_workCount ∧ x2_workCount ≤ 7)) (h_x2_years : (1 ≤ x2_years ∧ x2_years ≤ 30)) (h_x2_lines : (LnOk x2_lines)) (h_x2_goods : (GdOk x2_goods)) (h_x2_works : (WkOk x2_works)) (h_x2_change : (AI 0 99 x2_change)) (h_x2_coin : (AI 0 9 x2_coin)) (h_z2 : (0 ≤ z2)) : Sf (lp (u2 (fX4_sendInTurn_s12 x2_lineCount x2_goodsCount x2_workCount x2_years x2_lines x2_goods x2_works x2_change x2_coin x2_knownFree x2_isKnown)) n (z2, z3)) (fun e => True) :=
  Sf.loop2 (fun z2 z3 => (0 ≤ z2)) (fun z2 z3 => muUp z2) (fun z2 z3 h => TX4_sendInTurn_s12 h_x2_lineCount h_x2_goodsCount h_x2_workCount h_x2_years h_x2_lines h_x2_goods h_x2_works h_x2_change h_x2_coin h) h_z2 (muUp_n hn)
theorem TX4_sendInTurn_s40 {n : Nat} {x0_earned : (Nat → Int32)} {x2_lineCount x2_goodsCount x2_workCount x2_years : Int32} {x2_lines x2_goods x2_works x2_change x2_coin x2_knownFree : (Nat → Int32)} {x2_isKnown z7 : Int32} {z8 : (Nat → Int32)} {z9 z10 : Int32} {z11 z12 z13 z14 z15 z16 z17 z18 : (Nat → Int32)} {z19 : Int32} {z20 : (Nat → Int32)} {z21 : Int32} {z22 : Int64} {z23 z24 : Int32} (hn : 1000000000000 ≤ n) (h_x2_lineCount : (0 ≤ x2_lineCount ∧ x2_lineCount ≤ 20)) (h_x2_goodsCount : (0 ≤ x2_goodsCount ∧ x2_goodsCount ≤ 8)) (h_x2_workCount : (0 ≤ x2_workCount ∧ x2_workCount ≤ 7)) (h_x2_years : (1 ≤ x2_years ∧ x2_years ≤ 30)) (h_x2_lines : (LnOk x2_lines)) (h_x2_goods : (GdOk x2_goods)) (h_x2_works : (WkOk x2_works)) (h_x2_change : (AI 0 99 x2_change)) (h_x2_coin : (AI 0 9 x2_coin)) (h_z7 : (0 ≤ z7)) (h_z11 : (AI 0 35 z11)) (h_z12 : (AI 0 35 z12)) (h_z14 : (AI 0 19 z14)) (h_z17 : (AI 0 22 z17)) (h_z18 : (AI 0 35 z18)) (h_z19 : (0 ≤ z19 ∧ z19 ≤ 36)) (h_z20 : (AI 0 35 z20)) (h_z21 : (0 ≤ z21 ∧ z21 ≤ 36)) (h_z23 : (0 ≤ z23 ∧ z23 ≤ 60)) : Sf (fX4_sendInTurn_s40 n x0_earned x2_lineCount x2_goodsCount x2_workCount x2_years x2_lines x2_goods x2_works x2_change x2_coin x2_knownFree x2_isKnown z7 z8 z9 z10 z11 z12 z13 z14 z15 z16 z17 z18 z19 z20 z21 z22 z23 z24) (LQ (u18 (fun z7 z8 z9 z10 z11 z12 z13 z14 z15 z16 z17 z18 z19 z20 z21 z22 z23 z24 => (0 ≤ z7) ∧ (AI 0 35 z11) ∧ (AI 0 35 z12) ∧ (AI 0 19 z14) ∧ (AI 0 22 z17) ∧ (AI 0 35 z18) ∧ (0 ≤ z19 ∧ z19 ≤ 36) ∧ (AI 0 35 z20) ∧ (0 ≤ z21 ∧ z21 ≤ 36) ∧ (0 ≤ z23 ∧ z23 ≤ 60))) (u18 (fun z7 z8 z9 z10 z11 z12 z13 z14 z15 z16 z17 z18 z19 z20 z21 z22 z23 z24 => muUp z7)) (muUp z7) (fun e => (AI 0 35 e.2.2.2.1) ∧ (AI 0 35 e.2.2.2.2.1) ∧ (AI 0 19 e.2.2.2.2.2.2.1) ∧ (AI 0 22 e.2.2.2.2.2.2.2.2.2.1) ∧ (AI 0 35 e.2.2.2.2.2.2.2.2.2.2.1) ∧ (0 ≤ e.2.2.2.2.2.2.2.2.2.2.2.1 ∧ e.2.2.2.2.2.2.2.2.2.2.2.1 ≤ 36) ∧ (AI 0 35 e.2.2.2.2.2.2.2.2.2.2.2.2.1) ∧ (0 ≤ e.2.2.2.2.2.2.2.2.2.2.2.2.2.1 ∧ e.2.2.2.2.2.2.2.2.2.2.2.2.2.1 ≤ 36) ∧ (0 ≤ e.2.2.2.2.2.2.2.2.2.2.2.2.2.2.2.1 ∧ e.2.2.2.2.2.2.2.2.2.2.2.2.2.2.2.1 ≤ 60))) := by
  unfold fX4_sendInTurn_s40
  refine Sf.ite (fun hc1 => ?_) (fun hc1 => ?_)
  · exact Sf.inr (show (AI 0 35 z11) ∧ (AI 0 35 z12) ∧ (AI 0 19 z14) ∧ (AI 0 22 z17) ∧ (AI 0 35 z18) ∧ (0 ≤ z19 ∧ z19 ≤ 36) ∧ (AI 0 35 z20) ∧ (0 ≤ z21 ∧ z21 ≤ 36) ∧ (0 ≤ z23 ∧ z23 ≤ 60) from ⟨h_z11, h_z12, h_z14, h_z17, h_z18, h_z19, h_z20, h_z21, h_z23⟩)
  · refine Sf.bind (s_ofGoods h_x2_goods (by grind) (by decide)) ?_
    intro v43 hr2
    obtain ⟨h_v43, e_v43⟩ : (0 ≤ v43 ∧ v43 ≤ 99) ∧ v43 = x2_goods (z7.toNatClampNeg * 3 + 2) := hr2
    clear e_v43
    refine Sf.bind (s_ofGoods h_x2_goods (by grind) (by decide)) ?_
    intro v45 hr3
    obtain ⟨h_v45, e_v45⟩ : (0 ≤ v45 ∧ v45 ≤ 11) ∧ v45 = x2_goods (z7.toNatClampNeg * 3 + 0) := hr3
    clear e_v45
    refine Sf.bind (s_ofGoods h_x2_goods (by grind) (by decide)) ?_
    intro v47 hr4
    obtain ⟨h_v47, e_v47⟩ : (0 ≤ v47 ∧ v47 ≤ 11) ∧ v47 = x2_goods (z7.toNatClampNeg * 3 + 1) := hr4
    clear e_v47
    refine Sf.bind (sX4_linesBearing hn h_x2_lineCount h_x2_goodsCount h_x2_workCount h_x2_years h_x2_lines h_x2_goods h_x2_works h_x2_change h_x2_coin) ?_
    intro v49 hr5
    refine Sf.bind (sX5_prepare hn h_z11 h_z12 h_z14 h_z17 h_z18 h_z19 h_z20 h_z21 h_z23 h_x2_lineCount h_x2_goodsCount h_x2_workCount h_x2_years h_x2_lines h_x2_goods h_x2_works h_x2_change h_x2_coin) ?_
    rintro ⟨g52, g53, g54, g55, g56, g57, g58⟩ hr6
    obtain ⟨h_g52, h_g53, h_g55, h_g57⟩ : (AI 0 35 g52) ∧ (AI 0 35 g53) ∧ (AI 0 19 g55) ∧ (0 ≤ g57 ∧ g57 ≤ 60) := hr6
    dsimp only [u7]
    refine Sf.bind (sX5_trace hn h_g52 h_g53 h_g55 h_z17 h_z18 h_z19 h_z20 h_z21 h_g57 h_v45 h_v47) ?_
    rintro ⟨v60, ⟨g62, g63, g64, g65, g66, g67, g68, g69⟩⟩ hr7
    obtain ⟨h_g63, h_g64, h_g65, h_g66, h_g67⟩ : (AI 0 22 g63) ∧ (AI 0 35 g64) ∧ (0 ≤ g65 ∧ g65 ≤ 36) ∧ (AI 0 35 g66) ∧ (0 ≤ g67 ∧ g67 ≤ 36) := hr7
    dsimp only [u2, u8]
    refine Sf.ite (fun hc8 => ?_) (fun hc8 => ?_)
    · exact Sf.inl (show (0 ≤ (z7 + 1)) ∧ (AI 0 35 g52) ∧ (AI 0 35 g53) ∧ (AI 0 19 g55) ∧ (AI 0 22 g63) ∧ (AI 0 35 g64) ∧ (0 ≤ g65 ∧ g65 ≤ 36) ∧ (AI 0 35 g66) ∧ (0 ≤ g67 ∧ g67 ≤ 36) ∧ (0 ≤ g57 ∧ g57 ≤ 60) from ⟨(by grind), h_g52, h_g53, h_g55, h_g63, h_g64, h_g65, h_g66, h_g67, h_g57⟩) (muUp_lt hc1)
    · refine Sf.bind (sX5_costFrom hn h_g52 h_g53 h_g55 h_g63 h_g64 h_g65 h_g66 h_g67 h_g57 h_v45) ?_
      intro v71 hr9
      refine Sf.bind (sX4_load hn h_g52 h_g53 h_g55 h_g63 h_g64 h_g65 h_g66 h_g67 h_g57) ?_
      intro g73 hr10
      exact Sf.inl (show (0 ≤ (z7 + 1)) ∧ (AI 0 35 g52) ∧ (AI 0 35 g53) ∧ (AI 0 19 g55) ∧ (AI 0 22 g63) ∧ (AI 0 35 g64) ∧ (0 ≤ g65 ∧ g65 ≤ 36) ∧ (AI 0 35 g66) ∧ (0 ≤ g67 ∧ g67 ≤ 36) ∧ (0 ≤ g57 ∧ g57 ≤ 60) from ⟨(by grind), h_g52, h_g53, h_g55, h_g63, h_g64, h_g65, h_g66, h_g67, h_g57⟩) (muUp_lt hc1)
theorem LX4_sendInTurn_s40 {n : Nat} {x0_earned : (Nat → Int32)} {x2_lineCount x2_goodsCount x2_workCount x2_years : Int32} {x2_lines x2_goods x2_works x2_change x2_coin x2_knownFree : (Nat → Int32)} {x2_isKnown z7 : Int32} {z8 : (Nat → Int32)} {z9 z10 : Int32} {z11 z12 z13 z14 z15 z16 z17 z18 : (Nat → Int32)} {z19 : Int32} {z20 : (Nat → Int32)} {z21 : Int32} {z22 : Int64} {z23 z24 : Int32} (hn : 1000000000000 ≤ n) (h_x2_lineCount : (0 ≤ x2_lineCount ∧ x2_lineCount ≤ 20)) (h_x2_goodsCount : (0 ≤ x2_goodsCount ∧ x2_goodsCount ≤ 8)) (h_x2_workCount : (0 ≤ x2_workCount ∧ x2_workCount ≤ 7)) (h_x2_years : (1 ≤ x2_years ∧ x2_years ≤ 30)) (h_x2_lines : (LnOk x2_lines)) (h_x2_goods : (GdOk x2_goods)) (h_x2_works : (WkOk x2_works)) (h_x2_change : (AI 0 99 x2_change)) (h_x2_coin : (AI 0 9 x2_coin)) (h_z7 : (0 ≤ z7)) (h_z11 : (AI 0 35 z11)) (h_z12 : (AI 0 35 z12)) (h_z14 : (AI 0 19 z14)) (h_z17 : (AI 0 22 z17)) (h_z18 : (AI 0 35 z18)) (h_z19 : (0 ≤ z19 ∧ z19 ≤ 36)) (h_z20 : (AI 0 35 z20)) (h_z21 : (0 ≤ z21 ∧ z21 ≤ 36)) (h_z23 : (0 ≤ z23 ∧ z23 ≤ 60)) : Sf (lp (u18 (fX4_sendInTurn_s40 n x0_earned x2_lineCount x2_goodsCount x2_workCount x2_years x2_lines x2_goods x2_works x2_change x2_coin x2_knownFree x2_isKnown)) n (z7, z8, z9, z10, z11, z12, z13, z14, z15, z16, z17, z18, z19, z20, z21, z22, z23, z24)) (fun e => (AI 0 35 e.2.2.2.1) ∧ (AI 0 35 e.2.2.2.2.1) ∧ (AI 0 19 e.2.2.2.2.2.2.1) ∧ (AI 0 22 e.2.2.2.2.2.2.2.2.2.1) ∧ (AI 0 35 e.2.2.2.2.2.2.2.2.2.2.1) ∧ (0 ≤ e.2.2.2.2.2.2.2.2.2.2.2.1 ∧ e.2.2.2.2.2.2.2.2.2.2.2.1 ≤ 36) ∧ (AI 0 35 e.2.2.2.2.2.2.2.2.2.2.2.2.1) ∧ (0 ≤ e.2.2.2.2.2.2.2.2.2.2.2.2.2.1 ∧ e.2.2.2.2.2.2.2.2.2.2.2.2.2.1 ≤ 36) ∧ (0 ≤ e.2.2.2.2.2.2.2.2.2.2.2.2.2.2.2.1 ∧ e.2.2.2.2.2.2.2.2.2.2.2.2.2.2.2.1 ≤ 60)) :=
  Sf.loop18 (fun z7 z8 z9 z10 z11 z12 z13 z14 z15 z16 z17 z18 z19 z20 z21 z22 z23 z24 => (0 ≤ z7) ∧ (AI 0 35 z11) ∧ (AI 0 35 z12) ∧ (AI 0 19 z14) ∧ (AI 0 22 z17) ∧ (AI 0 35 z18) ∧ (0 ≤ z19 ∧ z19 ≤ 36) ∧ (AI 0 35 z20) ∧ (0 ≤ z21 ∧ z21 ≤ 36) ∧ (0 ≤ z23 ∧ z23 ≤ 60)) (fun z7 z8 z9 z10 z11 z12 z13 z14 z15 z16 z17 z18 z19 z20 z21 z22 z23 z24 => muUp z7) (fun z7 z8 z9 z10 z11 z12 z13 z14 z15 z16 z17 z18 z19 z20 z21 z22 z23 z24 h => TX4_sendInTurn_s40 hn h_x2_lineCount h_x2_goodsCount h_x2_workCount h_x2_years h_x2_lines h_x2_goods h_x2_works h_x2_change h_x2_coin h.1 h.2.1 h.2.2.1 h.2.2.2.1 h.2.2.2.2.1 h.2.2.2.2.2.1 h.2.2.2.2.2.2.1 h.2.2.2.2.2.2.2.1 h.2.2.2.2.2.2.2.2.1 h.2.2.2.2.2.2.2.2.2) (show (0 ≤ z7) ∧ (AI 0 35 z11) ∧ (AI 0 35 z12) ∧ (AI 0 19 z14) ∧ (AI 0 22 z17) ∧ (AI 0 35 z18) ∧ (0 ≤ z19 ∧ z19 ≤ 36) ∧ (AI 0 35 z20) ∧ (0 ≤ z21 ∧ z21 ≤ 36) ∧ (0 ≤ z23 ∧ z23 ≤ 60) from ⟨h_z7, h_z11, h_z12, h_z14, h_z17, h_z18, h_z19, h_z20, h_z21, h_z23⟩) (muUp_n hn)
set_option maxHeartbeats 1000000 in
theorem sX4_sendInTurn {n : Nat} {x0_left x0_earned : (Nat → Int32)} {x0_turnCost x0_turnWayless : Int32} {x1_edgeA x1_edgeB x1_edgeCost x1_edgeLine x1_change x1_away x1_steps x1_nodes : (Nat → Int32)} {x1_stepCount : Int32} {x1_open : (Nat → Int32)} {x1_openCount : Int32} {x1_seen : Int64} {x1_edgeCount x1_aim x2_lineCount x2_goodsCount x2_workCount x2_years : Int32} {x2_lines x2_goods x2_works x2_change x2_coin x2_knownFree : (Nat → Int32)} {x2_isKnown : Int32} (hn : 1000000000000 ≤ n) (h_x1_edgeA : (AI 0 35 x1_edgeA)) (h_x1_edgeB : (AI 0 35 x1_edgeB)) (h_x1_edgeLine : (AI 0 19 x1_edgeLine)) (h_x1_steps : (AI 0 22 x1_steps)) (h_x1_nodes : (AI 0 35 x1_nodes)) (h_x1_stepCount : (0 ≤ x1_stepCount ∧ x1_stepCount ≤ 36)) (h_x1_open : (AI 0 35 x1_open)) (h_x1_openCount : (0 ≤ x1_openCount ∧ x1_openCount ≤ 36)) (h_x1_edgeCount : (0 ≤ x1_edgeCount ∧ x1_edgeCount ≤ 60)) (h_x2_lineCount : (0 ≤ x2_lineCount ∧ x2_lineCount ≤ 20)) (h_x2_goodsCount : (0 ≤ x2_goodsCount ∧ x2_goodsCount ≤ 8)) (h_x2_workCount : (0 ≤ x2_workCount ∧ x2_workCount ≤ 7)) (h_x2_years : (1 ≤ x2_years ∧ x2_years ≤ 30)) (h_x2_lines : (LnOk x2_lines)) (h_x2_goods : (GdOk x2_goods)) (h_x2_works : (WkOk x2_works)) (h_x2_change : (AI 0 99 x2_change)) (h_x2_coin : (AI 0 9 x2_coin)) : Sf (fX4_sendInTurn n (x0_left, x0_earned, x0_turnCost, x0_turnWayless) (x1_edgeA, x1_edgeB, x1_edgeCost, x1_edgeLine, x1_change, x1_away, x1_steps, x1_nodes, x1_stepCount, x1_open, x1_openCount, x1_seen, x1_edgeCount, x1_aim) (x2_lineCount, x2_goodsCount, x2_workCount, x2_years, x2_lines, x2_goods, x2_works, x2_change, x2_coin, x2_knownFree, x2_isKnown)) (fun r => (AI 0 35 r.2.2.2.1) ∧ (AI 0 35 r.2.2.2.2.1) ∧ (AI 0 19 r.2.2.2.2.2.2.1) ∧ (AI 0 22 r.2.2.2.2.2.2.2.2.2.1) ∧ (AI 0 35 r.2.2.2.2.2.2.2.2.2.2.1) ∧ (0 ≤ r.2.2.2.2.2.2.2.2.2.2.2.1 ∧ r.2.2.2.2.2.2.2.2.2.2.2.1 ≤ 36) ∧ (AI 0 35 r.2.2.2.2.2.2.2.2.2.2.2.2.1) ∧ (0 ≤ r.2.2.2.2.2.2.2.2.2.2.2.2.2.1 ∧ r.2.2.2.2.2.2.2.2.2.2.2.2.2.1 ≤ 36) ∧ (0 ≤ r.2.2.2.2.2.2.2.2.2.2.2.2.2.2.2.1 ∧ r.2.2.2.2.2.2.2.2.2.2.2.2.2.2.2.1 ≤ 60)) := by
  unfold fX4_sendInTurn
  dsimp only [u11, u14, u4]
  refine Sf.bind (LX4_sendInTurn_s12 hn h_x2_lineCount h_x2_goodsCount h_x2_workCount h_x2_years h_x2_lines h_x2_goods h_x2_works h_x2_change h_x2_coin (by decide)) ?_
  intro w5 hr1
  refine Sf.bind (LX4_sendInTurn_s40 hn h_x2_lineCount h_x2_goodsCount h_x2_workCount h_x2_years h_x2_lines h_x2_goods h_x2_works h_x2_change h_x2_coin (by decide) h_x1_edgeA h_x1_edgeB h_x1_edgeLine h_x1_steps h_x1_nodes h_x1_stepCount h_x1_open h_x1_openCount h_x1_edgeCount) ?_
  rintro ⟨w26, w27, w28, w29, w30, w31, w32, w33, w34, w35, w36, w37, w38, w39, w40, w41, w42⟩ hr2
  obtain ⟨h_w29, h_w30, h_w32, h_w35, h_w36, h_w37, h_w38, h_w39, h_w41⟩ : (AI 0 35 w29) ∧ (AI 0 35 w30) ∧ (AI 0 19 w32) ∧ (AI 0 22 w35) ∧ (AI 0 35 w36) ∧ (0 ≤ w37 ∧ w37 ≤ 36) ∧ (AI 0 35 w38) ∧ (0 ≤ w39 ∧ w39 ≤ 36) ∧ (0 ≤ w41 ∧ w41 ≤ 60) := hr2
  dsimp only [u17]
  exact Sf.ok (show (AI 0 35 w29) ∧ (AI 0 35 w30) ∧ (AI 0 19 w32) ∧ (AI 0 22 w35) ∧ (AI 0 35 w36) ∧ (0 ≤ w37 ∧ w37 ≤ 36) ∧ (AI 0 35 w38) ∧ (0 ≤ w39 ∧ w39 ≤ 36) ∧ (0 ≤ w41 ∧ w41 ≤ 60) from ⟨h_w29, h_w30, h_w32, h_w35, h_w36, h_w37, h_w38, h_w39, h_w41⟩)
set_option maxHeartbeats 1000000 in
theorem sX5_isChange {x0_edgeA x0_edgeB x0_edgeCost x0_edgeLine x0_change x0_away x0_steps x0_nodes : (Nat → Int32)} {x0_stepCount : Int32} {x0_open : (Nat → Int32)} {x0_openCount : Int32} {x0_seen : Int64} {x0_edgeCount x0_aim p1 : Int32}  (h_x0_edgeA : (AI 0 35 x0_edgeA)) (h_x0_edgeB : (AI 0 35 x0_edgeB)) (h_x0_edgeLine : (AI 0 19 x0_edgeLine)) (h_x0_steps : (AI 0 22 x0_steps)) (h_x0_nodes : (AI 0 35 x0_nodes)) (h_x0_stepCount : (0 ≤ x0_stepCount ∧ x0_stepCount ≤ 36)) (h_x0_open : (AI 0 35 x0_open)) (h_x0_openCount : (0 ≤ x0_openCount ∧ x0_openCount ≤ 36)) (h_x0_edgeCount : (0 ≤ x0_edgeCount ∧ x0_edgeCount ≤ 60)) : Sf (fX5_isChange (x0_edgeA, x0_edgeB, x0_edgeCost, x0_edgeLine, x0_change, x0_away, x0_steps, x0_nodes, x0_stepCount, x0_open, x0_openCount, x0_seen, x0_edgeCount, x0_aim) p1) (fun r => True) := by
  unfold fX5_isChange
  dsimp only [u14]
  refine Sf.bind (sX6_within ) ?_
  intro v1 hr1
  have hx_v1 : ((v1 = 1 ∧ 1 ≤ p1 ∧ p1 ≤ (x0_stepCount - 1)) ∨ (v1 = 0 ∧ (p1 < 1 ∨ (x0_stepCount - 1) < p1))) := hr1
  refine Sf.ite (fun hc2 => ?_) (fun hc2 => ?_)
  · exact Sf.ok trivial
  · refine Sf.rdI 36 rfl h_x0_steps (by grind) (fun v3 h_v3 e_v3 => ?_)
    clear e_v3
    refine Sf.ite (fun hc3 => ?_) (fun hc3 => ?_)
    · exact Sf.ok trivial
    · exact Sf.ok trivial
set_option maxHeartbeats 1000000 in
theorem sX5_placeAfter {x0_edgeA x0_edgeB x0_edgeCost x0_edgeLine x0_change x0_away x0_steps x0_nodes : (Nat → Int32)} {x0_stepCount : Int32} {x0_open : (Nat → Int32)} {x0_openCount : Int32} {x0_seen : Int64} {x0_edgeCount x0_aim p1 : Int32}  (h_x0_edgeA : (AI 0 35 x0_edgeA)) (h_x0_edgeB : (AI 0 35 x0_edgeB)) (h_x0_edgeLine : (AI 0 19 x0_edgeLine)) (h_x0_steps : (AI 0 22 x0_steps)) (h_x0_nodes : (AI 0 35 x0_nodes)) (h_x0_stepCount : (0 ≤ x0_stepCount ∧ x0_stepCount ≤ 36)) (h_x0_open : (AI 0 35 x0_open)) (h_x0_openCount : (0 ≤ x0_openCount ∧ x0_openCount ≤ 36)) (h_x0_edgeCount : (0 ≤ x0_edgeCount ∧ x0_edgeCount ≤ 60)) : Sf (fX5_placeAfter (x0_edgeA, x0_edgeB, x0_edgeCost, x0_edgeLine, x0_change, x0_away, x0_steps, x0_nodes, x0_stepCount, x0_open, x0_openCount, x0_seen, x0_edgeCount, x0_aim) p1) (fun r => True) := by
  unfold fX5_placeAfter
  dsimp only [u14]
  refine Sf.bind (sX6_within ) ?_
  intro v1 hr1
  have hx_v1 : ((v1 = 1 ∧ 0 ≤ p1 ∧ p1 ≤ (x0_stepCount - 1)) ∨ (v1 = 0 ∧ (p1 < 0 ∨ (x0_stepCount - 1) < p1))) := hr1
  refine Sf.ite (fun hc2 => ?_) (fun hc2 => ?_)
  · exact Sf.ok trivial
  · refine Sf.rdI 36 rfl h_x0_nodes (by grind) (fun v3 h_v3 e_v3 => ?_)
    clear e_v3
    exact Sf.ok trivial
theorem TX4_changesAt_s4 {p1 : Int32} {x1_edgeA x1_edgeB x1_edgeCost x1_edgeLine x1_change x1_away x1_steps x1_nodes : (Nat → Int32)} {x1_stepCount : Int32} {x1_open : (Nat → Int32)} {x1_openCount : Int32} {x1_seen : Int64} {x1_edgeCount x1_aim z2 z3 : Int32}  (h_x1_edgeA : (AI 0 35 x1_edgeA)) (h_x1_edgeB : (AI 0 35 x1_edgeB)) (h_x1_edgeLine : (AI 0 19 x1_edgeLine)) (h_x1_steps : (AI 0 22 x1_steps)) (h_x1_nodes : (AI 0 35 x1_nodes)) (h_x1_stepCount : (0 ≤ x1_stepCount ∧ x1_stepCount ≤ 36)) (h_x1_open : (AI 0 35 x1_open)) (h_x1_openCount : (0 ≤ x1_openCount ∧ x1_openCount ≤ 36)) (h_x1_edgeCount : (0 ≤ x1_edgeCount ∧ x1_edgeCount ≤ 60)) (h_z3 : (0 ≤ z3)) : Sf (fX4_changesAt_s4 p1 x1_edgeA x1_edgeB x1_edgeCost x1_edgeLine x1_change x1_away x1_steps x1_nodes x1_stepCount x1_open x1_openCount x1_seen x1_edgeCount x1_aim z2 z3) (LQ (u2 (fun z2 z3 => (0 ≤ z3))) (u2 (fun z2 z3 => muUp z3)) (muUp z3) (fun e => True)) := by
  unfold fX4_changesAt_s4
  refine Sf.ite (fun hc1 => ?_) (fun hc1 => ?_)
  · exact Sf.inr trivial
  · refine Sf.bind (sX5_isChange h_x1_edgeA h_x1_edgeB h_x1_edgeLine h_x1_steps h_x1_nodes h_x1_stepCount h_x1_open h_x1_openCount h_x1_edgeCount) ?_
    intro v6 hr2
    refine Sf.ite (fun hc3 => ?_) (fun hc3 => ?_)
    · exact Sf.inl (show (0 ≤ (z3 + 1)) from (by grind)) (muUp_lt hc1)
    · refine Sf.bind (sX5_placeAfter h_x1_edgeA h_x1_edgeB h_x1_edgeLine h_x1_steps h_x1_nodes h_x1_stepCount h_x1_open h_x1_openCount h_x1_edgeCount) ?_
      intro v8 hr4
      refine Sf.ite (fun hc5 => ?_) (fun hc5 => ?_)
      · exact Sf.inl (show (0 ≤ (z3 + 1)) from (by grind)) (muUp_lt hc1)
      · exact Sf.inl (show (0 ≤ (z3 + 1)) from (by grind)) (muUp_lt hc1)
theorem LX4_changesAt_s4 {n : Nat} {p1 : Int32} {x1_edgeA x1_edgeB x1_edgeCost x1_edgeLine x1_change x1_away x1_steps x1_nodes : (Nat → Int32)} {x1_stepCount : Int32} {x1_open : (Nat → Int32)} {x1_openCount : Int32} {x1_seen : Int64} {x1_edgeCount x1_aim z2 z3 : Int32} (hn : 1000000000000 ≤ n) (h_x1_edgeA : (AI 0 35 x1_edgeA)) (h_x1_edgeB : (AI 0 35 x1_edgeB)) (h_x1_edgeLine : (AI 0 19 x1_edgeLine)) (h_x1_steps : (AI 0 22 x1_steps)) (h_x1_nodes : (AI 0 35 x1_nodes)) (h_x1_stepCount : (0 ≤ x1_stepCount ∧ x1_stepCount ≤ 36)) (h_x1_open : (AI 0 35 x1_open)) (h_x1_openCount : (0 ≤ x1_openCount ∧ x1_openCount ≤ 36)) (h_x1_edgeCount : (0 ≤ x1_edgeCount ∧ x1_edgeCount ≤ 60)) (h_z3 : (0 ≤ z3)) : Sf (lp (u2 (fX4_changesAt_s4 p1 x1_edgeA x1_edgeB x1_edgeCost x1_edgeLine x1_change x1_away x1_steps x1_nodes x1_stepCount x1_open x1_openCount x1_seen x1_edgeCount x1_aim)) n (z2, z3)) (fun e => True) :=
  Sf.loop2 (fun z2 z3 => (0 ≤ z3)) (fun z2 z3 => muUp z3) (fun z2 z3 h => TX4_changesAt_s4 h_x1_edgeA h_x1_edgeB h_x1_edgeLine h_x1_steps h_x1_nodes h_x1_stepCount h_x1_open h_x1_openCount h_x1_edgeCount h) h_z3 (muUp_n hn)
set_option maxHeartbeats 1000000 in
theorem sX4_changesAt {n : Nat} {x0_left x0_earned : (Nat → Int32)} {x0_turnCost x0_turnWayless : Int32} {x1_edgeA x1_edgeB x1_edgeCost x1_edgeLine x1_change x1_away x1_steps x1_nodes : (Nat → Int32)} {x1_stepCount : Int32} {x1_open : (Nat → Int32)} {x1_openCount : Int32} {x1_seen : Int64} {x1_edgeCount x1_aim p1 : Int32} (hn : 1000000000000 ≤ n) (h_x1_edgeA : (AI 0 35 x1_edgeA)) (h_x1_edgeB : (AI 0 35 x1_edgeB)) (h_x1_edgeLine : (AI 0 19 x1_edgeLine)) (h_x1_steps : (AI 0 22 x1_steps)) (h_x1_nodes : (AI 0 35 x1_nodes)) (h_x1_stepCount : (0 ≤ x1_stepCount ∧ x1_stepCount ≤ 36)) (h_x1_open : (AI 0 35 x1_open)) (h_x1_openCount : (0 ≤ x1_openCount ∧ x1_openCount ≤ 36)) (h_x1_edgeCount : (0 ≤ x1_edgeCount ∧ x1_edgeCount ≤ 60)) : Sf (fX4_changesAt n (x0_left, x0_earned, x0_turnCost, x0_turnWayless) (x1_edgeA, x1_edgeB, x1_edgeCost, x1_edgeLine, x1_change, x1_away, x1_steps, x1_nodes, x1_stepCount, x1_open, x1_openCount, x1_seen, x1_edgeCount, x1_aim) p1) (fun r => True) := by
  unfold fX4_changesAt
  dsimp only [u14, u4]
  refine Sf.bind (LX4_changesAt_s4 hn h_x1_edgeA h_x1_edgeB h_x1_edgeLine h_x1_steps h_x1_nodes h_x1_stepCount h_x1_open h_x1_openCount h_x1_edgeCount (by decide)) ?_
  intro w5 hr1
  exact Sf.ok trivial
theorem TX4_stepsTo_s4 {p1 : Int32} {x1_edgeA x1_edgeB x1_edgeCost x1_edgeLine x1_change x1_away x1_steps x1_nodes : (Nat → Int32)} {x1_stepCount : Int32} {x1_open : (Nat → Int32)} {x1_openCount : Int32} {x1_seen : Int64} {x1_edgeCount x1_aim z2 z3 : Int32}  (h_x1_edgeA : (AI 0 35 x1_edgeA)) (h_x1_edgeB : (AI 0 35 x1_edgeB)) (h_x1_edgeLine : (AI 0 19 x1_edgeLine)) (h_x1_steps : (AI 0 22 x1_steps)) (h_x1_nodes : (AI 0 35 x1_nodes)) (h_x1_stepCount : (0 ≤ x1_stepCount ∧ x1_stepCount ≤ 36)) (h_x1_open : (AI 0 35 x1_open)) (h_x1_openCount : (0 ≤ x1_openCount ∧ x1_openCount ≤ 36)) (h_x1_edgeCount : (0 ≤ x1_edgeCount ∧ x1_edgeCount ≤ 60)) (h_z3 : (0 ≤ z3)) : Sf (fX4_stepsTo_s4 p1 x1_edgeA x1_edgeB x1_edgeCost x1_edgeLine x1_change x1_away x1_steps x1_nodes x1_stepCount x1_open x1_openCount x1_seen x1_edgeCount x1_aim z2 z3) (LQ (u2 (fun z2 z3 => (0 ≤ z3))) (u2 (fun z2 z3 => muUp z3)) (muUp z3) (fun e => True)) := by
  unfold fX4_stepsTo_s4
  refine Sf.ite (fun hc1 => ?_) (fun hc1 => ?_)
  · exact Sf.inr trivial
  · refine Sf.bind (sX5_placeAfter h_x1_edgeA h_x1_edgeB h_x1_edgeLine h_x1_steps h_x1_nodes h_x1_stepCount h_x1_open h_x1_openCount h_x1_edgeCount) ?_
    intro v6 hr2
    refine Sf.ite (fun hc3 => ?_) (fun hc3 => ?_)
    · exact Sf.inl (show (0 ≤ (z3 + 1)) from (by grind)) (muUp_lt hc1)
    · exact Sf.inl (show (0 ≤ (z3 + 1)) from (by grind)) (muUp_lt hc1)
theorem LX4_stepsTo_s4 {n : Nat} {p1 : Int32} {x1_edgeA x1_edgeB x1_edgeCost x1_edgeLine x1_change x1_away x1_steps x1_nodes : (Nat → Int32)} {x1_stepCount : Int32} {x1_open : (Nat → Int32)} {x1_openCount : Int32} {x1_seen : Int64} {x1_edgeCount x1_aim z2 z3 : Int32} (hn : 1000000000000 ≤ n) (h_x1_edgeA : (AI 0 35 x1_edgeA)) (h_x1_edgeB : (AI 0 35 x1_edgeB)) (h_x1_edgeLine : (AI 0 19 x1_edgeLine)) (h_x1_steps : (AI 0 22 x1_steps)) (h_x1_nodes : (AI 0 35 x1_nodes)) (h_x1_stepCount : (0 ≤ x1_stepCount ∧ x1_stepCount ≤ 36)) (h_x1_open : (AI 0 35 x1_open)) (h_x1_openCount : (0 ≤ x1_openCount ∧ x1_openCount ≤ 36)) (h_x1_edgeCount : (0 ≤ x1_edgeCount ∧ x1_edgeCount ≤ 60)) (h_z3 : (0 ≤ z3)) : Sf (lp (u2 (fX4_stepsTo_s4 p1 x1_edgeA x1_edgeB x1_edgeCost x1_edgeLine x1_change x1_away x1_steps x1_nodes x1_stepCount x1_open x1_openCount x1_seen x1_edgeCount x1_aim)) n (z2, z3)) (fun e => True) :=
  Sf.loop2 (fun z2 z3 => (0 ≤ z3)) (fun z2 z3 => muUp z3) (fun z2 z3 h => TX4_stepsTo_s4 h_x1_edgeA h_x1_edgeB h_x1_edgeLine h_x1_steps h_x1_nodes h_x1_stepCount h_x1_open h_x1_openCount h_x1_edgeCount h) h_z3 (muUp_n hn)
set_option maxHeartbeats 1000000 in
theorem sX4_stepsTo {n : Nat} {x0_left x0_earned : (Nat → Int32)} {x0_turnCost x0_turnWayless : Int32} {x1_edgeA x1_edgeB x1_edgeCost x1_edgeLine x1_change x1_away x1_steps x1_nodes : (Nat → Int32)} {x1_stepCount : Int32} {x1_open : (Nat → Int32)} {x1_openCount : Int32} {x1_seen : Int64} {x1_edgeCount x1_aim p1 : Int32} (hn : 1000000000000 ≤ n) (h_x1_edgeA : (AI 0 35 x1_edgeA)) (h_x1_edgeB : (AI 0 35 x1_edgeB)) (h_x1_edgeLine : (AI 0 19 x1_edgeLine)) (h_x1_steps : (AI 0 22 x1_steps)) (h_x1_nodes : (AI 0 35 x1_nodes)) (h_x1_stepCount : (0 ≤ x1_stepCount ∧ x1_stepCount ≤ 36)) (h_x1_open : (AI 0 35 x1_open)) (h_x1_openCount : (0 ≤ x1_openCount ∧ x1_openCount ≤ 36)) (h_x1_edgeCount : (0 ≤ x1_edgeCount ∧ x1_edgeCount ≤ 60)) : Sf (fX4_stepsTo n (x0_left, x0_earned, x0_turnCost, x0_turnWayless) (x1_edgeA, x1_edgeB, x1_edgeCost, x1_edgeLine, x1_change, x1_away, x1_steps, x1_nodes, x1_stepCount, x1_open, x1_openCount, x1_seen, x1_edgeCount, x1_aim) p1) (fun r => True) := by
  unfold fX4_stepsTo
  dsimp only [u14, u4]
  refine Sf.bind (LX4_stepsTo_s4 hn h_x1_edgeA h_x1_edgeB h_x1_edgeLine h_x1_steps h_x1_nodes h_x1_stepCount h_x1_open h_x1_openCount h_x1_edgeCount (by decide)) ?_
  intro w5 hr1
  exact Sf.ok trivial
theorem TX4_tonsAt_s18 {n : Nat} {p2 p3 : Int32} {x0_left x0_earned : (Nat → Int32)} {x0_turnCost x0_turnWayless x2_lineCount x2_goodsCount x2_workCount x2_years : Int32} {x2_lines x2_goods x2_works x2_change x2_coin x2_knownFree : (Nat → Int32)} {x2_isKnown : Int32} {g4 g5 g6 g7 g8 : (Nat → Int32)} {g9 z13 z14 : Int32} {z15 z16 z17 : (Nat → Int32)} {z18 : Int32} {z19 : (Nat → Int32)} {z20 : Int32} {z21 : Int64} {z22 : Int32} (hn : 1000000000000 ≤ n) (h_x2_lineCount : (0 ≤ x2_lineCount ∧ x2_lineCount ≤ 20)) (h_x2_goodsCount : (0 ≤ x2_goodsCount ∧ x2_goodsCount ≤ 8)) (h_x2_workCount : (0 ≤ x2_workCount ∧ x2_workCount ≤ 7)) (h_x2_years : (1 ≤ x2_years ∧ x2_years ≤ 30)) (h_x2_lines : (LnOk x2_lines)) (h_x2_goods : (GdOk x2_goods)) (h_x2_works : (WkOk x2_works)) (h_x2_change : (AI 0 99 x2_change)) (h_x2_coin : (AI 0 9 x2_coin)) (h_g4 : (AI 0 35 g4)) (h_g5 : (AI 0 35 g5)) (h_g7 : (AI 0 19 g7)) (h_g9 : (0 ≤ g9 ∧ g9 ≤ 60)) (h_z14 : (0 ≤ z14)) (h_z16 : (AI 0 22 z16)) (h_z17 : (AI 0 35 z17)) (h_z18 : (0 ≤ z18 ∧ z18 ≤ 36)) (h_z19 : (AI 0 35 z19)) (h_z20 : (0 ≤ z20 ∧ z20 ≤ 36)) : Sf (fX4_tonsAt_s18 n p2 p3 x0_left x0_earned x0_turnCost x0_turnWayless x2_lineCount x2_goodsCount x2_workCount x2_years x2_lines x2_goods x2_works x2_change x2_coin x2_knownFree x2_isKnown g4 g5 g6 g7 g8 g9 z13 z14 z15 z16 z17 z18 z19 z20 z21 z22) (LQ (u10 (fun z13 z14 z15 z16 z17 z18 z19 z20 z21 z22 => (0 ≤ z14) ∧ (AI 0 22 z16) ∧ (AI 0 35 z17) ∧ (0 ≤ z18 ∧ z18 ≤ 36) ∧ (AI 0 35 z19) ∧ (0 ≤ z20 ∧ z20 ≤ 36))) (u10 (fun z13 z14 z15 z16 z17 z18 z19 z20 z21 z22 => muUp z14)) (muUp z14) (fun e => (AI 0 22 e.2.2.1) ∧ (AI 0 35 e.2.2.2.1) ∧ (0 ≤ e.2.2.2.2.1 ∧ e.2.2.2.2.1 ≤ 36) ∧ (AI 0 35 e.2.2.2.2.2.1) ∧ (0 ≤ e.2.2.2.2.2.2.1 ∧ e.2.2.2.2.2.2.1 ≤ 36))) := by
  unfold fX4_tonsAt_s18
  refine Sf.ite (fun hc1 => ?_) (fun hc1 => ?_)
  · exact Sf.inr (show (AI 0 22 z16) ∧ (AI 0 35 z17) ∧ (0 ≤ z18 ∧ z18 ≤ 36) ∧ (AI 0 35 z19) ∧ (0 ≤ z20 ∧ z20 ≤ 36) from ⟨h_z16, h_z17, h_z18, h_z19, h_z20⟩)
  · refine Sf.bind (s_ofGoods h_x2_goods (by grind) (by decide)) ?_
    intro v33 hr2
    obtain ⟨h_v33, e_v33⟩ : (0 ≤ v33 ∧ v33 ≤ 11) ∧ v33 = x2_goods (z14.toNatClampNeg * 3 + 0) := hr2
    clear e_v33
    refine Sf.bind (s_ofGoods h_x2_goods (by grind) (by decide)) ?_
    intro v35 hr3
    obtain ⟨h_v35, e_v35⟩ : (0 ≤ v35 ∧ v35 ≤ 11) ∧ v35 = x2_goods (z14.toNatClampNeg * 3 + 1) := hr3
    clear e_v35
    refine Sf.bind (sX5_trace hn h_g4 h_g5 h_g7 h_z16 h_z17 h_z18 h_z19 h_z20 h_g9 h_v33 h_v35) ?_
    rintro ⟨v37, ⟨g39, g40, g41, g42, g43, g44, g45, g46⟩⟩ hr4
    obtain ⟨h_g40, h_g41, h_g42, h_g43, h_g44⟩ : (AI 0 22 g40) ∧ (AI 0 35 g41) ∧ (0 ≤ g42 ∧ g42 ≤ 36) ∧ (AI 0 35 g43) ∧ (0 ≤ g44 ∧ g44 ≤ 36) := hr4
    dsimp only [u2, u8]
    refine Sf.ite (fun hc5 => ?_) (fun hc5 => ?_)
    · exact Sf.inl (show (0 ≤ (z14 + 1)) ∧ (AI 0 22 g40) ∧ (AI 0 35 g41) ∧ (0 ≤ g42 ∧ g42 ≤ 36) ∧ (AI 0 35 g43) ∧ (0 ≤ g44 ∧ g44 ≤ 36) from ⟨(by grind), h_g40, h_g41, h_g42, h_g43, h_g44⟩) (muUp_lt hc1)
    · refine Sf.ite (fun hc6 => ?_) (fun hc6 => ?_)
      · refine Sf.bind (sX4_stepsTo hn h_g4 h_g5 h_g7 h_g40 h_g41 h_g42 h_g43 h_g44 h_g9) ?_
        intro v51 hr7
        unfold fX4_tonsAt_j72
        refine Sf.bind (s_ofGoods h_x2_goods (by grind) (by decide)) ?_
        intro v49 hr8
        obtain ⟨h_v49, e_v49⟩ : (0 ≤ v49 ∧ v49 ≤ 99) ∧ v49 = x2_goods (z14.toNatClampNeg * 3 + 2) := hr8
        clear e_v49
        exact Sf.inl (show (0 ≤ (z14 + 1)) ∧ (AI 0 22 g40) ∧ (AI 0 35 g41) ∧ (0 ≤ g42 ∧ g42 ≤ 36) ∧ (AI 0 35 g43) ∧ (0 ≤ g44 ∧ g44 ≤ 36) from ⟨(by grind), h_g40, h_g41, h_g42, h_g43, h_g44⟩) (muUp_lt hc1)
      · refine Sf.bind (sX4_changesAt hn h_g4 h_g5 h_g7 h_g40 h_g41 h_g42 h_g43 h_g44 h_g9) ?_
        intro v53 hr9
        unfold fX4_tonsAt_j72
        refine Sf.bind (s_ofGoods h_x2_goods (by grind) (by decide)) ?_
        intro v49 hr10
        obtain ⟨h_v49, e_v49⟩ : (0 ≤ v49 ∧ v49 ≤ 99) ∧ v49 = x2_goods (z14.toNatClampNeg * 3 + 2) := hr10
        clear e_v49
        exact Sf.inl (show (0 ≤ (z14 + 1)) ∧ (AI 0 22 g40) ∧ (AI 0 35 g41) ∧ (0 ≤ g42 ∧ g42 ≤ 36) ∧ (AI 0 35 g43) ∧ (0 ≤ g44 ∧ g44 ≤ 36) from ⟨(by grind), h_g40, h_g41, h_g42, h_g43, h_g44⟩) (muUp_lt hc1)
theorem LX4_tonsAt_s18 {n : Nat} {p2 p3 : Int32} {x0_left x0_earned : (Nat → Int32)} {x0_turnCost x0_turnWayless x2_lineCount x2_goodsCount x2_workCount x2_years : Int32} {x2_lines x2_goods x2_works x2_change x2_coin x2_knownFree : (Nat → Int32)} {x2_isKnown : Int32} {g4 g5 g6 g7 g8 : (Nat → Int32)} {g9 z13 z14 : Int32} {z15 z16 z17 : (Nat → Int32)} {z18 : Int32} {z19 : (Nat → Int32)} {z20 : Int32} {z21 : Int64} {z22 : Int32} (hn : 1000000000000 ≤ n) (h_x2_lineCount : (0 ≤ x2_lineCount ∧ x2_lineCount ≤ 20)) (h_x2_goodsCount : (0 ≤ x2_goodsCount ∧ x2_goodsCount ≤ 8)) (h_x2_workCount : (0 ≤ x2_workCount ∧ x2_workCount ≤ 7)) (h_x2_years : (1 ≤ x2_years ∧ x2_years ≤ 30)) (h_x2_lines : (LnOk x2_lines)) (h_x2_goods : (GdOk x2_goods)) (h_x2_works : (WkOk x2_works)) (h_x2_change : (AI 0 99 x2_change)) (h_x2_coin : (AI 0 9 x2_coin)) (h_g4 : (AI 0 35 g4)) (h_g5 : (AI 0 35 g5)) (h_g7 : (AI 0 19 g7)) (h_g9 : (0 ≤ g9 ∧ g9 ≤ 60)) (h_z14 : (0 ≤ z14)) (h_z16 : (AI 0 22 z16)) (h_z17 : (AI 0 35 z17)) (h_z18 : (0 ≤ z18 ∧ z18 ≤ 36)) (h_z19 : (AI 0 35 z19)) (h_z20 : (0 ≤ z20 ∧ z20 ≤ 36)) : Sf (lp (u10 (fX4_tonsAt_s18 n p2 p3 x0_left x0_earned x0_turnCost x0_turnWayless x2_lineCount x2_goodsCount x2_workCount x2_years x2_lines x2_goods x2_works x2_change x2_coin x2_knownFree x2_isKnown g4 g5 g6 g7 g8 g9)) n (z13, z14, z15, z16, z17, z18, z19, z20, z21, z22)) (fun e => (AI 0 22 e.2.2.1) ∧ (AI 0 35 e.2.2.2.1) ∧ (0 ≤ e.2.2.2.2.1 ∧ e.2.2.2.2.1 ≤ 36) ∧ (AI 0 35 e.2.2.2.2.2.1) ∧ (0 ≤ e.2.2.2.2.2.2.1 ∧ e.2.2.2.2.2.2.1 ≤ 36)) :=
  Sf.loop10 (fun z13 z14 z15 z16 z17 z18 z19 z20 z21 z22 => (0 ≤ z14) ∧ (AI 0 22 z16) ∧ (AI 0 35 z17) ∧ (0 ≤ z18 ∧ z18 ≤ 36) ∧ (AI 0 35 z19) ∧ (0 ≤ z20 ∧ z20 ≤ 36)) (fun z13 z14 z15 z16 z17 z18 z19 z20 z21 z22 => muUp z14) (fun z13 z14 z15 z16 z17 z18 z19 z20 z21 z22 h => TX4_tonsAt_s18 hn h_x2_lineCount h_x2_goodsCount h_x2_workCount h_x2_years h_x2_lines h_x2_goods h_x2_works h_x2_change h_x2_coin h_g4 h_g5 h_g7 h_g9 h.1 h.2.1 h.2.2.1 h.2.2.2.1 h.2.2.2.2.1 h.2.2.2.2.2) (show (0 ≤ z14) ∧ (AI 0 22 z16) ∧ (AI 0 35 z17) ∧ (0 ≤ z18 ∧ z18 ≤ 36) ∧ (AI 0 35 z19) ∧ (0 ≤ z20 ∧ z20 ≤ 36) from ⟨h_z14, h_z16, h_z17, h_z18, h_z19, h_z20⟩) (muUp_n hn)
set_option maxHeartbeats 1000000 in
theorem sX4_tonsAt {n : Nat} {x0_left x0_earned : (Nat → Int32)} {x0_turnCost x0_turnWayless : Int32} {x1_edgeA x1_edgeB x1_edgeCost x1_edgeLine x1_change x1_away x1_steps x1_nodes : (Nat → Int32)} {x1_stepCount : Int32} {x1_open : (Nat → Int32)} {x1_openCount : Int32} {x1_seen : Int64} {x1_edgeCount x1_aim x2_lineCount x2_goodsCount x2_workCount x2_years : Int32} {x2_lines x2_goods x2_works x2_change x2_coin x2_knownFree : (Nat → Int32)} {x2_isKnown p2 p3 : Int32} (hn : 1000000000000 ≤ n) (h_x1_edgeA : (AI 0 35 x1_edgeA)) (h_x1_edgeB : (AI 0 35 x1_edgeB)) (h_x1_edgeLine : (AI 0 19 x1_edgeLine)) (h_x1_steps : (AI 0 22 x1_steps)) (h_x1_nodes : (AI 0 35 x1_nodes)) (h_x1_stepCount : (0 ≤ x1_stepCount ∧ x1_stepCount ≤ 36)) (h_x1_open : (AI 0 35 x1_open)) (h_x1_openCount : (0 ≤ x1_openCount ∧ x1_openCount ≤ 36)) (h_x1_edgeCount : (0 ≤ x1_edgeCount ∧ x1_edgeCount ≤ 60)) (h_x2_lineCount : (0 ≤ x2_lineCount ∧ x2_lineCount ≤ 20)) (h_x2_goodsCount : (0 ≤ x2_goodsCount ∧ x2_goodsCount ≤ 8)) (h_x2_workCount : (0 ≤ x2_workCount ∧ x2_workCount ≤ 7)) (h_x2_years : (1 ≤ x2_years ∧ x2_years ≤ 30)) (h_x2_lines : (LnOk x2_lines)) (h_x2_goods : (GdOk x2_goods)) (h_x2_works : (WkOk x2_works)) (h_x2_change : (AI 0 99 x2_change)) (h_x2_coin : (AI 0 9 x2_coin)) : Sf (fX4_tonsAt n (x0_left, x0_earned, x0_turnCost, x0_turnWayless) (x1_edgeA, x1_edgeB, x1_edgeCost, x1_edgeLine, x1_change, x1_away, x1_steps, x1_nodes, x1_stepCount, x1_open, x1_openCount, x1_seen, x1_edgeCount, x1_aim) (x2_lineCount, x2_goodsCount, x2_workCount, x2_years, x2_lines, x2_goods, x2_works, x2_change, x2_coin, x2_knownFree, x2_isKnown) p2 p3) (fun r => (AI 0 35 r.2.1) ∧ (AI 0 35 r.2.2.1) ∧ (AI 0 19 r.2.2.2.2.1) ∧ (AI 0 22 r.2.2.2.2.2.2.2.1) ∧ (AI 0 35 r.2.2.2.2.2.2.2.2.1) ∧ (0 ≤ r.2.2.2.2.2.2.2.2.2.1 ∧ r.2.2.2.2.2.2.2.2.2.1 ≤ 36) ∧ (AI 0 35 r.2.2.2.2.2.2.2.2.2.2.1) ∧ (0 ≤ r.2.2.2.2.2.2.2.2.2.2.2.1 ∧ r.2.2.2.2.2.2.2.2.2.2.2.1 ≤ 36) ∧ (0 ≤ r.2.2.2.2.2.2.2.2.2.2.2.2.2.1 ∧ r.2.2.2.2.2.2.2.2.2.2.2.2.2.1 ≤ 60)) := by
  unfold fX4_tonsAt
  dsimp only [u11, u14, u4]
  refine Sf.bind (sX1_linesThere hn h_x2_lineCount h_x2_goodsCount h_x2_workCount h_x2_years h_x2_lines h_x2_goods h_x2_works h_x2_change h_x2_coin) ?_
  intro v1 hr1
  refine Sf.bind (sX5_prepare hn h_x1_edgeA h_x1_edgeB h_x1_edgeLine h_x1_steps h_x1_nodes h_x1_stepCount h_x1_open h_x1_openCount h_x1_edgeCount h_x2_lineCount h_x2_goodsCount h_x2_workCount h_x2_years h_x2_lines h_x2_goods h_x2_works h_x2_change h_x2_coin) ?_
  rintro ⟨g4, g5, g6, g7, g8, g9, g10⟩ hr2
  obtain ⟨h_g4, h_g5, h_g7, h_g9⟩ : (AI 0 35 g4) ∧ (AI 0 35 g5) ∧ (AI 0 19 g7) ∧ (0 ≤ g9 ∧ g9 ≤ 60) := hr2
  dsimp only [u7]
  refine Sf.bind (LX4_tonsAt_s18 hn h_x2_lineCount h_x2_goodsCount h_x2_workCount h_x2_years h_x2_lines h_x2_goods h_x2_works h_x2_change h_x2_coin h_g4 h_g5 h_g7 h_g9 (by decide) h_x1_steps h_x1_nodes h_x1_stepCount h_x1_open h_x1_openCount) ?_
  rintro ⟨w24, w25, w26, w27, w28, w29, w30, w31, w32⟩ hr3
  obtain ⟨h_w26, h_w27, h_w28, h_w29, h_w30⟩ : (AI 0 22 w26) ∧ (AI 0 35 w27) ∧ (0 ≤ w28 ∧ w28 ≤ 36) ∧ (AI 0 35 w29) ∧ (0 ≤ w30 ∧ w30 ≤ 36) := hr3
  dsimp only [u9]
  exact Sf.ok (show (AI 0 35 g4) ∧ (AI 0 35 g5) ∧ (AI 0 19 g7) ∧ (AI 0 22 w26) ∧ (AI 0 35 w27) ∧ (0 ≤ w28 ∧ w28 ≤ 36) ∧ (AI 0 35 w29) ∧ (0 ≤ w30 ∧ w30 ≤ 36) ∧ (0 ≤ g9 ∧ g9 ≤ 60) from ⟨h_g4, h_g5, h_g7, h_w26, h_w27, h_w28, h_w29, h_w30, h_g9⟩)
theorem TX4_dearestLoss_s13 {n : Nat} {x0_left x0_earned : (Nat → Int32)} {x0_turnCost x0_turnWayless : Int32} {x1_steps x1_nodes : (Nat → Int32)} {x1_stepCount : Int32} {x1_open : (Nat → Int32)} {x1_openCount : Int32} {x1_seen : Int64} {x2_lineCount x2_goodsCount x2_workCount x2_years : Int32} {x2_lines x2_goods x2_works x2_change x2_coin x2_knownFree : (Nat → Int32)} {x2_isKnown v1 z4 z5 z6 : Int32} {z7 z8 z9 z10 z11 z12 : (Nat → Int32)} {z13 z14 : Int32} (hn : 1000000000000 ≤ n) (h_x1_steps : (AI 0 22 x1_steps)) (h_x1_nodes : (AI 0 35 x1_nodes)) (h_x1_stepCount : (0 ≤ x1_stepCount ∧ x1_stepCount ≤ 36)) (h_x1_open : (AI 0 35 x1_open)) (h_x1_openCount : (0 ≤ x1_openCount ∧ x1_openCount ≤ 36)) (h_x2_lineCount : (0 ≤ x2_lineCount ∧ x2_lineCount ≤ 20)) (h_x2_goodsCount : (0 ≤ x2_goodsCount ∧ x2_goodsCount ≤ 8)) (h_x2_workCount : (0 ≤ x2_workCount ∧ x2_workCount ≤ 7)) (h_x2_years : (1 ≤ x2_years ∧ x2_years ≤ 30)) (h_x2_lines : (LnOk x2_lines)) (h_x2_goods : (GdOk x2_goods)) (h_x2_works : (WkOk x2_works)) (h_x2_change : (AI 0 99 x2_change)) (h_x2_coin : (AI 0 9 x2_coin)) (h_z6 : (0 ≤ z6)) (h_z7 : (AI 0 35 z7)) (h_z8 : (AI 0 35 z8)) (h_z10 : (AI 0 19 z10)) (h_z13 : (0 ≤ z13 ∧ z13 ≤ 60)) : Sf (fX4_dearestLoss_s13 n x0_left x0_earned x0_turnCost x0_turnWayless x1_steps x1_nodes x1_stepCount x1_open x1_openCount x1_seen x2_lineCount x2_goodsCount x2_workCount x2_years x2_lines x2_goods x2_works x2_change x2_coin x2_knownFree x2_isKnown v1 z4 z5 z6 z7 z8 z9 z10 z11 z12 z13 z14) (LQ (u11 (fun z4 z5 z6 z7 z8 z9 z10 z11 z12 z13 z14 => (0 ≤ z6) ∧ (AI 0 35 z7) ∧ (AI 0 35 z8) ∧ (AI 0 19 z10) ∧ (0 ≤ z13 ∧ z13 ≤ 60))) (u11 (fun z4 z5 z6 z7 z8 z9 z10 z11 z12 z13 z14 => muUp z6)) (muUp z6) (fun e => (AI 0 35 e.2.1) ∧ (AI 0 35 e.2.2.1) ∧ (AI 0 19 e.2.2.2.2.1) ∧ (0 ≤ e.2.2.2.2.2.2.2.1 ∧ e.2.2.2.2.2.2.2.1 ≤ 60))) := by
  unfold fX4_dearestLoss_s13
  refine Sf.ite (fun hc1 => ?_) (fun hc1 => ?_)
  · exact Sf.inr (show (AI 0 35 z7) ∧ (AI 0 35 z8) ∧ (AI 0 19 z10) ∧ (0 ≤ z13 ∧ z13 ≤ 60) from ⟨h_z7, h_z8, h_z10, h_z13⟩)
  · refine Sf.ite (fun hc2 => ?_) (fun hc2 => ?_)
    · exact Sf.inl (show (0 ≤ (z6 + 1)) ∧ (AI 0 35 z7) ∧ (AI 0 35 z8) ∧ (AI 0 19 z10) ∧ (0 ≤ z13 ∧ z13 ≤ 60) from ⟨(by grind), h_z7, h_z8, h_z10, h_z13⟩) (muUp_lt hc1)
    · refine Sf.bind (sX4_freeBy hn h_z7 h_z8 h_z10 h_x1_steps h_x1_nodes h_x1_stepCount h_x1_open h_x1_openCount h_z13 h_x2_lineCount h_x2_goodsCount h_x2_workCount h_x2_years h_x2_lines h_x2_goods h_x2_works h_x2_change h_x2_coin) ?_
      rintro ⟨v25, ⟨g27, g28, g29, g30, g31, g32, g33, g34⟩⟩ hr3
      obtain ⟨h_g27, h_g28, h_g30, h_g33⟩ : (AI 0 35 g27) ∧ (AI 0 35 g28) ∧ (AI 0 19 g30) ∧ (0 ≤ g33 ∧ g33 ≤ 60) := hr3
      dsimp only [u2, u8]
      refine Sf.ite (fun hc4 => ?_) (fun hc4 => ?_)
      · exact Sf.inl (show (0 ≤ (z6 + 1)) ∧ (AI 0 35 g27) ∧ (AI 0 35 g28) ∧ (AI 0 19 g30) ∧ (0 ≤ g33 ∧ g33 ≤ 60) from ⟨(by grind), h_g27, h_g28, h_g30, h_g33⟩) (muUp_lt hc1)
      · exact Sf.inl (show (0 ≤ (z6 + 1)) ∧ (AI 0 35 g27) ∧ (AI 0 35 g28) ∧ (AI 0 19 g30) ∧ (0 ≤ g33 ∧ g33 ≤ 60) from ⟨(by grind), h_g27, h_g28, h_g30, h_g33⟩) (muUp_lt hc1)
theorem LX4_dearestLoss_s13 {n : Nat} {x0_left x0_earned : (Nat → Int32)} {x0_turnCost x0_turnWayless : Int32} {x1_steps x1_nodes : (Nat → Int32)} {x1_stepCount : Int32} {x1_open : (Nat → Int32)} {x1_openCount : Int32} {x1_seen : Int64} {x2_lineCount x2_goodsCount x2_workCount x2_years : Int32} {x2_lines x2_goods x2_works x2_change x2_coin x2_knownFree : (Nat → Int32)} {x2_isKnown v1 z4 z5 z6 : Int32} {z7 z8 z9 z10 z11 z12 : (Nat → Int32)} {z13 z14 : Int32} (hn : 1000000000000 ≤ n) (h_x1_steps : (AI 0 22 x1_steps)) (h_x1_nodes : (AI 0 35 x1_nodes)) (h_x1_stepCount : (0 ≤ x1_stepCount ∧ x1_stepCount ≤ 36)) (h_x1_open : (AI 0 35 x1_open)) (h_x1_openCount : (0 ≤ x1_openCount ∧ x1_openCount ≤ 36)) (h_x2_lineCount : (0 ≤ x2_lineCount ∧ x2_lineCount ≤ 20)) (h_x2_goodsCount : (0 ≤ x2_goodsCount ∧ x2_goodsCount ≤ 8)) (h_x2_workCount : (0 ≤ x2_workCount ∧ x2_workCount ≤ 7)) (h_x2_years : (1 ≤ x2_years ∧ x2_years ≤ 30)) (h_x2_lines : (LnOk x2_lines)) (h_x2_goods : (GdOk x2_goods)) (h_x2_works : (WkOk x2_works)) (h_x2_change : (AI 0 99 x2_change)) (h_x2_coin : (AI 0 9 x2_coin)) (h_z6 : (0 ≤ z6)) (h_z7 : (AI 0 35 z7)) (h_z8 : (AI 0 35 z8)) (h_z10 : (AI 0 19 z10)) (h_z13 : (0 ≤ z13 ∧ z13 ≤ 60)) : Sf (lp (u11 (fX4_dearestLoss_s13 n x0_left x0_earned x0_turnCost x0_turnWayless x1_steps x1_nodes x1_stepCount x1_open x1_openCount x1_seen x2_lineCount x2_goodsCount x2_workCount x2_years x2_lines x2_goods x2_works x2_change x2_coin x2_knownFree x2_isKnown v1)) n (z4, z5, z6, z7, z8, z9, z10, z11, z12, z13, z14)) (fun e => (AI 0 35 e.2.1) ∧ (AI 0 35 e.2.2.1) ∧ (AI 0 19 e.2.2.2.2.1) ∧ (0 ≤ e.2.2.2.2.2.2.2.1 ∧ e.2.2.2.2.2.2.2.1 ≤ 60)) :=
  Sf.loop11 (fun z4 z5 z6 z7 z8 z9 z10 z11 z12 z13 z14 => (0 ≤ z6) ∧ (AI 0 35 z7) ∧ (AI 0 35 z8) ∧ (AI 0 19 z10) ∧ (0 ≤ z13 ∧ z13 ≤ 60)) (fun z4 z5 z6 z7 z8 z9 z10 z11 z12 z13 z14 => muUp z6) (fun z4 z5 z6 z7 z8 z9 z10 z11 z12 z13 z14 h => TX4_dearestLoss_s13 hn h_x1_steps h_x1_nodes h_x1_stepCount h_x1_open h_x1_openCount h_x2_lineCount h_x2_goodsCount h_x2_workCount h_x2_years h_x2_lines h_x2_goods h_x2_works h_x2_change h_x2_coin h.1 h.2.1 h.2.2.1 h.2.2.2.1 h.2.2.2.2) (show (0 ≤ z6) ∧ (AI 0 35 z7) ∧ (AI 0 35 z8) ∧ (AI 0 19 z10) ∧ (0 ≤ z13 ∧ z13 ≤ 60) from ⟨h_z6, h_z7, h_z8, h_z10, h_z13⟩) (muUp_n hn)
set_option maxHeartbeats 1000000 in
theorem sX4_dearestLoss {n : Nat} {x0_left x0_earned : (Nat → Int32)} {x0_turnCost x0_turnWayless : Int32} {x1_edgeA x1_edgeB x1_edgeCost x1_edgeLine x1_change x1_away x1_steps x1_nodes : (Nat → Int32)} {x1_stepCount : Int32} {x1_open : (Nat → Int32)} {x1_openCount : Int32} {x1_seen : Int64} {x1_edgeCount x1_aim x2_lineCount x2_goodsCount x2_workCount x2_years : Int32} {x2_lines x2_goods x2_works x2_change x2_coin x2_knownFree : (Nat → Int32)} {x2_isKnown : Int32} (hn : 1000000000000 ≤ n) (h_x1_edgeA : (AI 0 35 x1_edgeA)) (h_x1_edgeB : (AI 0 35 x1_edgeB)) (h_x1_edgeLine : (AI 0 19 x1_edgeLine)) (h_x1_steps : (AI 0 22 x1_steps)) (h_x1_nodes : (AI 0 35 x1_nodes)) (h_x1_stepCount : (0 ≤ x1_stepCount ∧ x1_stepCount ≤ 36)) (h_x1_open : (AI 0 35 x1_open)) (h_x1_openCount : (0 ≤ x1_openCount ∧ x1_openCount ≤ 36)) (h_x1_edgeCount : (0 ≤ x1_edgeCount ∧ x1_edgeCount ≤ 60)) (h_x2_lineCount : (0 ≤ x2_lineCount ∧ x2_lineCount ≤ 20)) (h_x2_goodsCount : (0 ≤ x2_goodsCount ∧ x2_goodsCount ≤ 8)) (h_x2_workCount : (0 ≤ x2_workCount ∧ x2_workCount ≤ 7)) (h_x2_years : (1 ≤ x2_years ∧ x2_years ≤ 30)) (h_x2_lines : (LnOk x2_lines)) (h_x2_goods : (GdOk x2_goods)) (h_x2_works : (WkOk x2_works)) (h_x2_change : (AI 0 99 x2_change)) (h_x2_coin : (AI 0 9 x2_coin)) : Sf (fX4_dearestLoss n (x0_left, x0_earned, x0_turnCost, x0_turnWayless) (x1_edgeA, x1_edgeB, x1_edgeCost, x1_edgeLine, x1_change, x1_away, x1_steps, x1_nodes, x1_stepCount, x1_open, x1_openCount, x1_seen, x1_edgeCount, x1_aim) (x2_lineCount, x2_goodsCount, x2_workCount, x2_years, x2_lines, x2_goods, x2_works, x2_change, x2_coin, x2_knownFree, x2_isKnown)) (fun r => (AI 0 35 r.2.1) ∧ (AI 0 35 r.2.2.1) ∧ (AI 0 19 r.2.2.2.2.1) ∧ (0 ≤ r.2.2.2.2.2.2.2.1 ∧ r.2.2.2.2.2.2.2.1 ≤ 60)) := by
  unfold fX4_dearestLoss
  dsimp only [u11, u14, u4]
  refine Sf.bind (sX1_linesThere hn h_x2_lineCount h_x2_goodsCount h_x2_workCount h_x2_years h_x2_lines h_x2_goods h_x2_works h_x2_change h_x2_coin) ?_
  intro v1 hr1
  refine Sf.bind (LX4_dearestLoss_s13 hn h_x1_steps h_x1_nodes h_x1_stepCount h_x1_open h_x1_openCount h_x2_lineCount h_x2_goodsCount h_x2_workCount h_x2_years h_x2_lines h_x2_goods h_x2_works h_x2_change h_x2_coin (by decide) h_x1_edgeA h_x1_edgeB h_x1_edgeLine h_x1_edgeCount) ?_
  rintro ⟨w16, w17, w18, w19, w20, w21, w22, w23, w24⟩ hr2
  obtain ⟨h_w17, h_w18, h_w20, h_w23⟩ : (AI 0 35 w17) ∧ (AI 0 35 w18) ∧ (AI 0 19 w20) ∧ (0 ≤ w23 ∧ w23 ≤ 60) := hr2
  dsimp only [u9]
  exact Sf.ok (show (AI 0 35 w17) ∧ (AI 0 35 w18) ∧ (AI 0 19 w20) ∧ (0 ≤ w23 ∧ w23 ≤ 60) from ⟨h_w17, h_w18, h_w20, h_w23⟩)
set_option maxHeartbeats 1000000 in
theorem sX5_widthAfter {x0_edgeA x0_edgeB x0_edgeCost x0_edgeLine x0_change x0_away x0_steps x0_nodes : (Nat → Int32)} {x0_stepCount : Int32} {x0_open : (Nat → Int32)} {x0_openCount : Int32} {x0_seen : Int64} {x0_edgeCount x0_aim p1 : Int32}  (h_x0_edgeA : (AI 0 35 x0_edgeA)) (h_x0_edgeB : (AI 0 35 x0_edgeB)) (h_x0_edgeLine : (AI 0 19 x0_edgeLine)) (h_x0_steps : (AI 0 22 x0_steps)) (h_x0_nodes : (AI 0 35 x0_nodes)) (h_x0_stepCount : (0 ≤ x0_stepCount ∧ x0_stepCount ≤ 36)) (h_x0_open : (AI 0 35 x0_open)) (h_x0_openCount : (0 ≤ x0_openCount ∧ x0_openCount ≤ 36)) (h_x0_edgeCount : (0 ≤ x0_edgeCount ∧ x0_edgeCount ≤ 60)) : Sf (fX5_widthAfter (x0_edgeA, x0_edgeB, x0_edgeCost, x0_edgeLine, x0_change, x0_away, x0_steps, x0_nodes, x0_stepCount, x0_open, x0_openCount, x0_seen, x0_edgeCount, x0_aim) p1) (fun r => True) := by
  unfold fX5_widthAfter
  dsimp only [u14]
  refine Sf.bind (sX6_within ) ?_
  intro v1 hr1
  have hx_v1 : ((v1 = 1 ∧ 0 ≤ p1 ∧ p1 ≤ (x0_stepCount - 1)) ∨ (v1 = 0 ∧ (p1 < 0 ∨ (x0_stepCount - 1) < p1))) := hr1
  refine Sf.ite (fun hc2 => ?_) (fun hc2 => ?_)
  · exact Sf.ok trivial
  · refine Sf.rdI 36 rfl h_x0_nodes (by grind) (fun v3 h_v3 e_v3 => ?_)
    clear e_v3
    exact Sf.ok trivial
theorem TX5_changesOnWay_s4 {x0_edgeA x0_edgeB x0_edgeCost x0_edgeLine x0_change x0_away x0_steps x0_nodes : (Nat → Int32)} {x0_stepCount : Int32} {x0_open : (Nat → Int32)} {x0_openCount : Int32} {x0_seen : Int64} {x0_edgeCount x0_aim z2 z3 : Int32}  (h_x0_edgeA : (AI 0 35 x0_edgeA)) (h_x0_edgeB : (AI 0 35 x0_edgeB)) (h_x0_edgeLine : (AI 0 19 x0_edgeLine)) (h_x0_steps : (AI 0 22 x0_steps)) (h_x0_nodes : (AI 0 35 x0_nodes)) (h_x0_stepCount : (0 ≤ x0_stepCount ∧ x0_stepCount ≤ 36)) (h_x0_open : (AI 0 35 x0_open)) (h_x0_openCount : (0 ≤ x0_openCount ∧ x0_openCount ≤ 36)) (h_x0_edgeCount : (0 ≤ x0_edgeCount ∧ x0_edgeCount ≤ 60)) (h_z3 : (0 ≤ z3)) : Sf (fX5_changesOnWay_s4 x0_edgeA x0_edgeB x0_edgeCost x0_edgeLine x0_change x0_away x0_steps x0_nodes x0_stepCount x0_open x0_openCount x0_seen x0_edgeCount x0_aim z2 z3) (LQ (u2 (fun z2 z3 => (0 ≤ z3))) (u2 (fun z2 z3 => muUp z3)) (muUp z3) (fun e => True)) := by
  unfold fX5_changesOnWay_s4
  refine Sf.ite (fun hc1 => ?_) (fun hc1 => ?_)
  · exact Sf.inr trivial
  · refine Sf.bind (sX5_isChange h_x0_edgeA h_x0_edgeB h_x0_edgeLine h_x0_steps h_x0_nodes h_x0_stepCount h_x0_open h_x0_openCount h_x0_edgeCount) ?_
    intro v6 hr2
    refine Sf.ite (fun hc3 => ?_) (fun hc3 => ?_)
    · exact Sf.inl (show (0 ≤ (z3 + 1)) from (by grind)) (muUp_lt hc1)
    · exact Sf.inl (show (0 ≤ (z3 + 1)) from (by grind)) (muUp_lt hc1)
theorem LX5_changesOnWay_s4 {n : Nat} {x0_edgeA x0_edgeB x0_edgeCost x0_edgeLine x0_change x0_away x0_steps x0_nodes : (Nat → Int32)} {x0_stepCount : Int32} {x0_open : (Nat → Int32)} {x0_openCount : Int32} {x0_seen : Int64} {x0_edgeCount x0_aim z2 z3 : Int32} (hn : 1000000000000 ≤ n) (h_x0_edgeA : (AI 0 35 x0_edgeA)) (h_x0_edgeB : (AI 0 35 x0_edgeB)) (h_x0_edgeLine : (AI 0 19 x0_edgeLine)) (h_x0_steps : (AI 0 22 x0_steps)) (h_x0_nodes : (AI 0 35 x0_nodes)) (h_x0_stepCount : (0 ≤ x0_stepCount ∧ x0_stepCount ≤ 36)) (h_x0_open : (AI 0 35 x0_open)) (h_x0_openCount : (0 ≤ x0_openCount ∧ x0_openCount ≤ 36)) (h_x0_edgeCount : (0 ≤ x0_edgeCount ∧ x0_edgeCount ≤ 60)) (h_z3 : (0 ≤ z3)) : Sf (lp (u2 (fX5_changesOnWay_s4 x0_edgeA x0_edgeB x0_edgeCost x0_edgeLine x0_change x0_away x0_steps x0_nodes x0_stepCount x0_open x0_openCount x0_seen x0_edgeCount x0_aim)) n (z2, z3)) (fun e => True) :=
  Sf.loop2 (fun z2 z3 => (0 ≤ z3)) (fun z2 z3 => muUp z3) (fun z2 z3 h => TX5_changesOnWay_s4 h_x0_edgeA h_x0_edgeB h_x0_edgeLine h_x0_steps h_x0_nodes h_x0_stepCount h_x0_open h_x0_openCount h_x0_edgeCount h) h_z3 (muUp_n hn)
set_option maxHeartbeats 1000000 in
theorem sX5_changesOnWay {n : Nat} {x0_edgeA x0_edgeB x0_edgeCost x0_edgeLine x0_change x0_away x0_steps x0_nodes : (Nat → Int32)} {x0_stepCount : Int32} {x0_open : (Nat → Int32)} {x0_openCount : Int32} {x0_seen : Int64} {x0_edgeCount x0_aim : Int32} (hn : 1000000000000 ≤ n) (h_x0_edgeA : (AI 0 35 x0_edgeA)) (h_x0_edgeB : (AI 0 35 x0_edgeB)) (h_x0_edgeLine : (AI 0 19 x0_edgeLine)) (h_x0_steps : (AI 0 22 x0_steps)) (h_x0_nodes : (AI 0 35 x0_nodes)) (h_x0_stepCount : (0 ≤ x0_stepCount ∧ x0_stepCount ≤ 36)) (h_x0_open : (AI 0 35 x0_open)) (h_x0_openCount : (0 ≤ x0_openCount ∧ x0_openCount ≤ 36)) (h_x0_edgeCount : (0 ≤ x0_edgeCount ∧ x0_edgeCount ≤ 60)) : Sf (fX5_changesOnWay n (x0_edgeA, x0_edgeB, x0_edgeCost, x0_edgeLine, x0_change, x0_away, x0_steps, x0_nodes, x0_stepCount, x0_open, x0_openCount, x0_seen, x0_edgeCount, x0_aim)) (fun r => True) := by
  unfold fX5_changesOnWay
  dsimp only [u14]
  refine Sf.bind (LX5_changesOnWay_s4 hn h_x0_edgeA h_x0_edgeB h_x0_edgeLine h_x0_steps h_x0_nodes h_x0_stepCount h_x0_open h_x0_openCount h_x0_edgeCount (by decide)) ?_
  intro w5 hr1
  exact Sf.ok trivial
set_option maxHeartbeats 1000000 in
theorem sX5_linesOnWay {n : Nat} {x0_edgeA x0_edgeB x0_edgeCost x0_edgeLine x0_change x0_away x0_steps x0_nodes : (Nat → Int32)} {x0_stepCount : Int32} {x0_open : (Nat → Int32)} {x0_openCount : Int32} {x0_seen : Int64} {x0_edgeCount x0_aim : Int32} (hn : 1000000000000 ≤ n) (h_x0_edgeA : (AI 0 35 x0_edgeA)) (h_x0_edgeB : (AI 0 35 x0_edgeB)) (h_x0_edgeLine : (AI 0 19 x0_edgeLine)) (h_x0_steps : (AI 0 22 x0_steps)) (h_x0_nodes : (AI 0 35 x0_nodes)) (h_x0_stepCount : (0 ≤ x0_stepCount ∧ x0_stepCount ≤ 36)) (h_x0_open : (AI 0 35 x0_open)) (h_x0_openCount : (0 ≤ x0_openCount ∧ x0_openCount ≤ 36)) (h_x0_edgeCount : (0 ≤ x0_edgeCount ∧ x0_edgeCount ≤ 60)) : Sf (fX5_linesOnWay n (x0_edgeA, x0_edgeB, x0_edgeCost, x0_edgeLine, x0_change, x0_away, x0_steps, x0_nodes, x0_stepCount, x0_open, x0_openCount, x0_seen, x0_edgeCount, x0_aim)) (fun r => True) := by
  unfold fX5_linesOnWay
  dsimp only [u14]
  refine Sf.bind (sX5_changesOnWay hn h_x0_edgeA h_x0_edgeB h_x0_edgeLine h_x0_steps h_x0_nodes h_x0_stepCount h_x0_open h_x0_openCount h_x0_edgeCount) ?_
  intro v1 hr1
  exact Sf.ok trivial
theorem TX5_lineAt_s4 {p1 : Int32} {x0_edgeA x0_edgeB x0_edgeCost x0_edgeLine x0_change x0_away x0_steps x0_nodes : (Nat → Int32)} {x0_stepCount : Int32} {x0_open : (Nat → Int32)} {x0_openCount : Int32} {x0_seen : Int64} {x0_edgeCount x0_aim z2 z3 : Int32}  (h_x0_edgeA : (AI 0 35 x0_edgeA)) (h_x0_edgeB : (AI 0 35 x0_edgeB)) (h_x0_edgeLine : (AI 0 19 x0_edgeLine)) (h_x0_steps : (AI 0 22 x0_steps)) (h_x0_nodes : (AI 0 35 x0_nodes)) (h_x0_stepCount : (0 ≤ x0_stepCount ∧ x0_stepCount ≤ 36)) (h_x0_open : (AI 0 35 x0_open)) (h_x0_openCount : (0 ≤ x0_openCount ∧ x0_openCount ≤ 36)) (h_x0_edgeCount : (0 ≤ x0_edgeCount ∧ x0_edgeCount ≤ 60)) (h_z3 : (0 ≤ z3)) : Sf (fX5_lineAt_s4 p1 x0_edgeA x0_edgeB x0_edgeCost x0_edgeLine x0_change x0_away x0_steps x0_nodes x0_stepCount x0_open x0_openCount x0_seen x0_edgeCount x0_aim z2 z3) (LQ (u2 (fun z2 z3 => (0 ≤ z3))) (u2 (fun z2 z3 => muUp z3)) (muUp z3) ((Sum.elim (fun a => ((-1) ≤ a ∧ a ≤ 19)) (fun a => True)))) := by
  unfold fX5_lineAt_s4
  refine Sf.ite (fun hc1 => ?_) (fun hc1 => ?_)
  · exact Sf.inr trivial
  · refine Sf.bind (sX5_lineOn h_x0_edgeA h_x0_edgeB h_x0_edgeLine h_x0_steps h_x0_nodes h_x0_stepCount h_x0_open h_x0_openCount h_x0_edgeCount) ?_
    intro v6 hr2
    have h_v6 : ((-1) ≤ v6 ∧ v6 ≤ 19) := hr2
    refine Sf.ite (fun hc3 => ?_) (fun hc3 => ?_)
    · exact Sf.inl (show (0 ≤ (z3 + 1)) from (by grind)) (muUp_lt hc1)
    · refine Sf.ite (fun hc4 => ?_) (fun hc4 => ?_)
      · exact Sf.inr (show ((-1) ≤ v6 ∧ v6 ≤ 19) from h_v6)
      · exact Sf.inl (show (0 ≤ (z3 + 1)) from (by grind)) (muUp_lt hc1)
theorem LX5_lineAt_s4 {n : Nat} {p1 : Int32} {x0_edgeA x0_edgeB x0_edgeCost x0_edgeLine x0_change x0_away x0_steps x0_nodes : (Nat → Int32)} {x0_stepCount : Int32} {x0_open : (Nat → Int32)} {x0_openCount : Int32} {x0_seen : Int64} {x0_edgeCount x0_aim z2 z3 : Int32} (hn : 1000000000000 ≤ n) (h_x0_edgeA : (AI 0 35 x0_edgeA)) (h_x0_edgeB : (AI 0 35 x0_edgeB)) (h_x0_edgeLine : (AI 0 19 x0_edgeLine)) (h_x0_steps : (AI 0 22 x0_steps)) (h_x0_nodes : (AI 0 35 x0_nodes)) (h_x0_stepCount : (0 ≤ x0_stepCount ∧ x0_stepCount ≤ 36)) (h_x0_open : (AI 0 35 x0_open)) (h_x0_openCount : (0 ≤ x0_openCount ∧ x0_openCount ≤ 36)) (h_x0_edgeCount : (0 ≤ x0_edgeCount ∧ x0_edgeCount ≤ 60)) (h_z3 : (0 ≤ z3)) : Sf (lp (u2 (fX5_lineAt_s4 p1 x0_edgeA x0_edgeB x0_edgeCost x0_edgeLine x0_change x0_away x0_steps x0_nodes x0_stepCount x0_open x0_openCount x0_seen x0_edgeCount x0_aim)) n (z2, z3)) ((Sum.elim (fun a => ((-1) ≤ a ∧ a ≤ 19)) (fun a => True))) :=
  Sf.loop2 (fun z2 z3 => (0 ≤ z3)) (fun z2 z3 => muUp z3) (fun z2 z3 h => TX5_lineAt_s4 h_x0_edgeA h_x0_edgeB h_x0_edgeLine h_x0_steps h_x0_nodes h_x0_stepCount h_x0_open h_x0_openCount h_x0_edgeCount h) h_z3 (muUp_n hn)
set_option maxHeartbeats 1000000 in
theorem sX5_lineAt {n : Nat} {x0_edgeA x0_edgeB x0_edgeCost x0_edgeLine x0_change x0_away x0_steps x0_nodes : (Nat → Int32)} {x0_stepCount : Int32} {x0_open : (Nat → Int32)} {x0_openCount : Int32} {x0_seen : Int64} {x0_edgeCount x0_aim p1 : Int32} (hn : 1000000000000 ≤ n) (h_x0_edgeA : (AI 0 35 x0_edgeA)) (h_x0_edgeB : (AI 0 35 x0_edgeB)) (h_x0_edgeLine : (AI 0 19 x0_edgeLine)) (h_x0_steps : (AI 0 22 x0_steps)) (h_x0_nodes : (AI 0 35 x0_nodes)) (h_x0_stepCount : (0 ≤ x0_stepCount ∧ x0_stepCount ≤ 36)) (h_x0_open : (AI 0 35 x0_open)) (h_x0_openCount : (0 ≤ x0_openCount ∧ x0_openCount ≤ 36)) (h_x0_edgeCount : (0 ≤ x0_edgeCount ∧ x0_edgeCount ≤ 60)) : Sf (fX5_lineAt n (x0_edgeA, x0_edgeB, x0_edgeCost, x0_edgeLine, x0_change, x0_away, x0_steps, x0_nodes, x0_stepCount, x0_open, x0_openCount, x0_seen, x0_edgeCount, x0_aim) p1) (fun r => True) := by
  unfold fX5_lineAt
  dsimp only [u14]
  refine Sf.bindS (LX5_lineAt_s4 hn h_x0_edgeA h_x0_edgeB h_x0_edgeLine h_x0_steps h_x0_nodes h_x0_stepCount h_x0_open h_x0_openCount h_x0_edgeCount (by decide)) ?_ ?_
  · intro w5 hr1
    have h_w5 : ((-1) ≤ w5 ∧ w5 ≤ 19) := hr1
    exact Sf.ok trivial
  · intro _ _
    exact Sf.ok trivial
end
section
set_option maxHeartbeats 1000000 in
theorem sX6_refuse {x0_refused : (Nat → Int32)} {x0_isKept x0_gone x0_spent p1 : Int32}   : Sf (fX6_refuse (x0_refused, x0_isKept, x0_gone, x0_spent) p1) (fun r => True) := by
  unfold fX6_refuse
  dsimp only [u4]
  refine Sf.bind (sX6_within ) ?_
  intro v1 hr1
  have hx_v1 : ((v1 = 1 ∧ (-6) ≤ p1 ∧ p1 ≤ (-2)) ∨ (v1 = 0 ∧ (p1 < (-6) ∨ (-2) < p1))) := hr1
  refine Sf.ite (fun hc2 => ?_) (fun hc2 => ?_)
  · exact Sf.ok trivial
  · have hq3 : 0 ≤ ((-2) - p1) ∧ ((-2) - p1) < 5 := by grind
    refine Sf.rdb 5 rfl hq3 (fun v3 e_v3 => ?_)
    clear e_v3
    refine Sf.wrb 5 rfl hq3 (fun f4 e_f4 => ?_)
    clear e_f4
    exact Sf.ok trivial
set_option maxHeartbeats 1000000 in
theorem sX6_row {n : Nat} {x0_refused : (Nat → Int32)} {x0_isKept x0_gone x0_spent : Int32} {x1_elements : (Nat → Nat → Int64)} {x1_held x1_sizes : (Nat → Int32)} {p1 p2 p3 : Int32} (hn : 1000000000000 ≤ n) (h_x1_held : (AI (-1) 16 x1_held)) (h_x1_sizes : (AI 0 40 x1_sizes)) : Sf (fX6_row n (x0_refused, x0_isKept, x0_gone, x0_spent) (x1_elements, x1_held, x1_sizes) p1 p2 p3) (fun r => (AI (-1) 16 r.2.2.2.1) ∧ (AI 0 40 r.2.2.2.2)) := by
  unfold fX6_row
  dsimp only [u3, u4]
  refine Sf.bind (sX2_has ) ?_
  intro v1 hr1
  have hx_v1 : ((v1 = 1 ∧ 0 ≤ p1 ∧ p1 ≤ 7) ∨ (v1 = 0 ∧ (p1 < 0 ∨ 7 < p1))) := hr1
  refine Sf.ite (fun hc2 => ?_) (fun hc2 => ?_)
  · refine Sf.bind (sX6_refuse ) ?_
    rintro ⟨v3, g4⟩ hr3
    dsimp only [u2]
    exact Sf.ok (show (AI (-1) 16 x1_held) ∧ (AI 0 40 x1_sizes) from ⟨h_x1_held, h_x1_sizes⟩)
  · refine Sf.bind (sX6_within ) ?_
    intro v6 hr4
    have hx_v6 : ((v6 = 1 ∧ 0 ≤ p2 ∧ p2 ≤ 4) ∨ (v6 = 0 ∧ (p2 < 0 ∨ 4 < p2))) := hr4
    refine Sf.ite (fun hc5 => ?_) (fun hc5 => ?_)
    · refine Sf.bind (sX6_refuse ) ?_
      rintro ⟨v8, g9⟩ hr6
      dsimp only [u2]
      exact Sf.ok (show (AI (-1) 16 x1_held) ∧ (AI 0 40 x1_sizes) from ⟨h_x1_held, h_x1_sizes⟩)
    · refine Sf.bind (sX6_within ) ?_
      intro v11 hr7
      have hx_v11 : ((v11 = 1 ∧ 0 ≤ p3 ∧ p3 ≤ 40) ∨ (v11 = 0 ∧ (p3 < 0 ∨ 40 < p3))) := hr7
      refine Sf.ite (fun hc8 => ?_) (fun hc8 => ?_)
      · refine Sf.bind (sX6_refuse ) ?_
        rintro ⟨v17, g18⟩ hr9
        dsimp only [u2]
        exact Sf.ok (show (AI (-1) 16 x1_held) ∧ (AI 0 40 x1_sizes) from ⟨h_x1_held, h_x1_sizes⟩)
      · refine Sf.bind (sX2_putRow hn h_x1_held h_x1_sizes (by grind) (by grind) (by grind)) ?_
        rintro ⟨g13, g14, g15⟩ hr10
        obtain ⟨h_g14, h_g15⟩ : (AI (-1) 16 g14) ∧ (AI 0 40 g15) := hr10
        dsimp only [u3]
        exact Sf.ok (show (AI (-1) 16 g14) ∧ (AI 0 40 g15) from ⟨h_g14, h_g15⟩)
set_option maxHeartbeats 1000000 in
theorem sX6_noRow {x0_refused : (Nat → Int32)} {x0_isKept x0_gone x0_spent : Int32} {x1_elements : (Nat → Nat → Int64)} {x1_held x1_sizes : (Nat → Int32)} {p1 : Int32}  (h_x1_held : (AI (-1) 16 x1_held)) (h_x1_sizes : (AI 0 40 x1_sizes)) : Sf (fX6_noRow (x0_refused, x0_isKept, x0_gone, x0_spent) (x1_elements, x1_held, x1_sizes) p1) (fun r => (r ≠ 0 ∨ (0 ≤ p1 ∧ p1 ≤ 7))) := by
  unfold fX6_noRow
  dsimp only [u3, u4]
  refine Sf.bind (sX2_has ) ?_
  intro v1 hr1
  have hx_v1 : ((v1 = 1 ∧ 0 ≤ p1 ∧ p1 ≤ 7) ∨ (v1 = 0 ∧ (p1 < 0 ∨ 7 < p1))) := hr1
  refine Sf.ite (fun hc2 => ?_) (fun hc2 => ?_)
  · exact Sf.ok (show ((-2) ≠ 0 ∨ (0 ≤ p1 ∧ p1 ≤ 7)) from (by grind))
  · refine Sf.bind (sX2_hasWork h_x1_held h_x1_sizes (by grind)) ?_
    intro v3 hr3
    refine Sf.ite (fun hc4 => ?_) (fun hc4 => ?_)
    · refine Sf.bind (sX2_hasRow h_x1_held h_x1_sizes (by grind)) ?_
      intro v5 hr5
      have hx_v5 : ((v5 = 1) ∨ (v5 = 0)) := hr5
      refine Sf.ite (fun hc6 => ?_) (fun hc6 => ?_)
      · exact Sf.ok (show ((-4) ≠ 0 ∨ (0 ≤ p1 ∧ p1 ≤ 7)) from (by grind))
      · exact Sf.ok (show (0 ≠ 0 ∨ (0 ≤ p1 ∧ p1 ≤ 7)) from (by grind))
    · exact Sf.ok (show ((-3) ≠ 0 ∨ (0 ≤ p1 ∧ p1 ≤ 7)) from (by grind))
set_option maxHeartbeats 1000000 in
theorem sX6_set {x0_refused : (Nat → Int32)} {x0_isKept x0_gone x0_spent : Int32} {x1_elements : (Nat → Nat → Int64)} {x1_held x1_sizes : (Nat → Int32)} {p1 p2 : Int32} {p3 : Int64}  (h_x1_held : (AI (-1) 16 x1_held)) (h_x1_sizes : (AI 0 40 x1_sizes)) : Sf (fX6_set (x0_refused, x0_isKept, x0_gone, x0_spent) (x1_elements, x1_held, x1_sizes) p1 p2 p3) (fun r => True) := by
  unfold fX6_set
  dsimp only [u3, u4]
  refine Sf.bind (sX6_noRow h_x1_held h_x1_sizes) ?_
  intro v1 hr1
  have hx_v1 : (v1 ≠ 0 ∨ (0 ≤ p1 ∧ p1 ≤ 7)) := hr1
  refine Sf.ite (fun hc2 => ?_) (fun hc2 => ?_)
  · refine Sf.rdI 8 rfl h_x1_sizes (by grind) (fun v3 h_v3 e_v3 => ?_)
    clear e_v3
    refine Sf.bind (sX6_within ) ?_
    intro v4 hr3
    have hx_v4 : ((v4 = 1 ∧ 0 ≤ p2 ∧ p2 ≤ (v3 - 1)) ∨ (v4 = 0 ∧ (p2 < 0 ∨ (v3 - 1) < p2))) := hr3
    refine Sf.ite (fun hc4 => ?_) (fun hc4 => ?_)
    · refine Sf.bind (sX6_refuse ) ?_
      rintro ⟨v8, g9⟩ hr5
      dsimp only [u2]
      exact Sf.ok trivial
    · refine Sf.bind (sX2_put h_x1_held h_x1_sizes (by grind) (by grind)) ?_
      intro g6 hr6
      exact Sf.ok trivial
  · refine Sf.bind (sX6_refuse ) ?_
    rintro ⟨v11, g12⟩ hr7
    dsimp only [u2]
    exact Sf.ok trivial
set_option maxHeartbeats 1000000 in
theorem sX6_copy {x0_refused : (Nat → Int32)} {x0_isKept x0_gone x0_spent : Int32} {x1_elements : (Nat → Nat → Int64)} {x1_held x1_sizes : (Nat → Int32)} {p1 p2 p3 p4 p5 : Int32}  (h_x1_held : (AI (-1) 16 x1_held)) (h_x1_sizes : (AI 0 40 x1_sizes)) : Sf (fX6_copy (x0_refused, x0_isKept, x0_gone, x0_spent) (x1_elements, x1_held, x1_sizes) p1 p2 p3 p4 p5) (fun r => True) := by
  unfold fX6_copy
  dsimp only [u3, u4]
  refine Sf.bind (sX2_has ) ?_
  intro v1 hr1
  have hx_v1 : ((v1 = 1 ∧ 0 ≤ p1 ∧ p1 ≤ 7) ∨ (v1 = 0 ∧ (p1 < 0 ∨ 7 < p1))) := hr1
  refine Sf.ite (fun hc2 => ?_) (fun hc2 => ?_)
  · refine Sf.bind (sX6_refuse ) ?_
    rintro ⟨v3, g4⟩ hr3
    dsimp only [u2]
    exact Sf.ok trivial
  · refine Sf.bind (sX2_has ) ?_
    intro v6 hr4
    have hx_v6 : ((v6 = 1 ∧ 0 ≤ p2 ∧ p2 ≤ 7) ∨ (v6 = 0 ∧ (p2 < 0 ∨ 7 < p2))) := hr4
    refine Sf.ite (fun hc5 => ?_) (fun hc5 => ?_)
    · refine Sf.bind (sX6_refuse ) ?_
      rintro ⟨v51, g52⟩ hr6
      dsimp only [u2]
      exact Sf.ok trivial
    · refine Sf.bind (sX2_hasWork h_x1_held h_x1_sizes (by grind)) ?_
      intro v8 hr7
      refine Sf.ite (fun hc8 => ?_) (fun hc8 => ?_)
      · refine Sf.bind (sX2_hasWork h_x1_held h_x1_sizes (by grind)) ?_
        intro v13 hr9
        refine Sf.ite (fun hc10 => ?_) (fun hc10 => ?_)
        · refine Sf.bind (sX2_differ h_x1_held h_x1_sizes (by grind) (by grind)) ?_
          intro v18 hr11
          refine Sf.ite (fun hc12 => ?_) (fun hc12 => ?_)
          · refine Sf.rdI 8 rfl h_x1_held (by grind) (fun v20 h_v20 e_v20 => ?_)
            clear e_v20
            refine Sf.ite (fun hc13 => ?_) (fun hc13 => ?_)
            · refine Sf.bind (sX6_refuse ) ?_
              rintro ⟨v21, g22⟩ hr14
              dsimp only [u2]
              exact Sf.ok trivial
            · refine Sf.rdI 8 rfl h_x1_held (by grind) (fun v24 h_v24 e_v24 => ?_)
              clear e_v24
              refine Sf.ite (fun hc15 => ?_) (fun hc15 => ?_)
              · refine Sf.bind (sX6_refuse ) ?_
                rintro ⟨v45, g46⟩ hr16
                dsimp only [u2]
                exact Sf.ok trivial
              · refine Sf.bind (sX6_within ) ?_
                intro v25 hr17
                have hx_v25 : ((v25 = 1 ∧ 0 ≤ p5 ∧ p5 ≤ 40) ∨ (v25 = 0 ∧ (p5 < 0 ∨ 40 < p5))) := hr17
                refine Sf.ite (fun hc18 => ?_) (fun hc18 => ?_)
                · refine Sf.bind (sX6_refuse ) ?_
                  rintro ⟨v27, g28⟩ hr19
                  dsimp only [u2]
                  exact Sf.ok trivial
                · refine Sf.rdI 8 rfl h_x1_sizes (by grind) (fun v30 h_v30 e_v30 => ?_)
                  clear e_v30
                  refine Sf.bind (sX6_within ) ?_
                  intro v31 hr20
                  have hx_v31 : ((v31 = 1 ∧ 0 ≤ p3 ∧ p3 ≤ (v30 - p5)) ∨ (v31 = 0 ∧ (p3 < 0 ∨ (v30 - p5) < p3))) := hr20
                  refine Sf.ite (fun hc21 => ?_) (fun hc21 => ?_)
                  · refine Sf.bind (sX6_refuse ) ?_
                    rintro ⟨v33, g34⟩ hr22
                    dsimp only [u2]
                    exact Sf.ok trivial
                  · refine Sf.rdI 8 rfl h_x1_sizes (by grind) (fun v36 h_v36 e_v36 => ?_)
                    clear e_v36
                    refine Sf.bind (sX6_within ) ?_
                    intro v37 hr23
                    have hx_v37 : ((v37 = 1 ∧ 0 ≤ p4 ∧ p4 ≤ (v36 - p5)) ∨ (v37 = 0 ∧ (p4 < 0 ∨ (v36 - p5) < p4))) := hr23
                    refine Sf.ite (fun hc24 => ?_) (fun hc24 => ?_)
                    · refine Sf.bind (sX6_refuse ) ?_
                      rintro ⟨v42, g43⟩ hr25
                      dsimp only [u2]
                      exact Sf.ok trivial
                    · refine Sf.ckb 8 rfl (by grind) (fun q39 e_q39 h_q39 => ?_)
                      refine Sf.ckb 8 rfl (by grind) (fun q40 e_q40 h_q40 => ?_)
                      refine Sf.cpyb (by grind) (cpa (by grind)) (cpa (by grind)) (fun f41 e_f41 => ?_)
                      exact Sf.ok trivial
          · refine Sf.bind (sX6_refuse ) ?_
            rintro ⟨v48, g49⟩ hr26
            dsimp only [u2]
            exact Sf.ok trivial
        · refine Sf.bind (sX6_refuse ) ?_
          rintro ⟨v15, g16⟩ hr27
          dsimp only [u2]
          exact Sf.ok trivial
      · refine Sf.bind (sX6_refuse ) ?_
        rintro ⟨v10, g11⟩ hr28
        dsimp only [u2]
        exact Sf.ok trivial
set_option maxHeartbeats 1000000 in
theorem sX6_element {x0_refused : (Nat → Int32)} {x0_isKept x0_gone x0_spent : Int32} {x1_elements : (Nat → Nat → Int64)} {x1_held x1_sizes : (Nat → Int32)} {p1 p2 : Int32}  (h_x1_held : (AI (-1) 16 x1_held)) (h_x1_sizes : (AI 0 40 x1_sizes)) : Sf (fX6_element (x0_refused, x0_isKept, x0_gone, x0_spent) (x1_elements, x1_held, x1_sizes) p1 p2) (fun r => True) := by
  unfold fX6_element
  dsimp only [u3, u4]
  refine Sf.bind (sX2_has ) ?_
  intro v1 hr1
  have hx_v1 : ((v1 = 1 ∧ 0 ≤ p1 ∧ p1 ≤ 7) ∨ (v1 = 0 ∧ (p1 < 0 ∨ 7 < p1))) := hr1
  refine Sf.ite (fun hc2 => ?_) (fun hc2 => ?_)
  · exact Sf.ok trivial
  · refine Sf.bind (sX2_hasRow h_x1_held h_x1_sizes (by grind)) ?_
    intro v3 hr3
    have hx_v3 : ((v3 = 1) ∨ (v3 = 0)) := hr3
    refine Sf.ite (fun hc4 => ?_) (fun hc4 => ?_)
    · exact Sf.ok trivial
    · refine Sf.rdI 8 rfl h_x1_sizes (by grind) (fun v5 h_v5 e_v5 => ?_)
      clear e_v5
      refine Sf.bind (sX6_within ) ?_
      intro v6 hr5
      have hx_v6 : ((v6 = 1 ∧ 0 ≤ p2 ∧ p2 ≤ (v5 - 1)) ∨ (v6 = 0 ∧ (p2 < 0 ∨ (v5 - 1) < p2))) := hr5
      refine Sf.ite (fun hc6 => ?_) (fun hc6 => ?_)
      · exact Sf.ok trivial
      · refine Sf.ckb 8 rfl (by grind) (fun q8 e_q8 h_q8 => ?_)
        refine Sf.rdb 40 rfl (by grind) (fun v9 e_v9 => ?_)
        clear e_v9
        exact Sf.ok trivial
set_option maxHeartbeats 1000000 in
theorem sX6_holds {x0_refused : (Nat → Int32)} {x0_isKept x0_gone x0_spent : Int32} {x1_elements : (Nat → Nat → Int64)} {x1_held x1_sizes : (Nat → Int32)} {p1 : Int32}  (h_x1_held : (AI (-1) 16 x1_held)) (h_x1_sizes : (AI 0 40 x1_sizes)) : Sf (fX6_holds (x0_refused, x0_isKept, x0_gone, x0_spent) (x1_elements, x1_held, x1_sizes) p1) (fun r => True) := by
  unfold fX6_holds
  dsimp only [u3, u4]
  refine Sf.bind (sX2_has ) ?_
  intro v1 hr1
  have hx_v1 : ((v1 = 1 ∧ 0 ≤ p1 ∧ p1 ≤ 7) ∨ (v1 = 0 ∧ (p1 < 0 ∨ 7 < p1))) := hr1
  refine Sf.ite (fun hc2 => ?_) (fun hc2 => ?_)
  · exact Sf.ok trivial
  · refine Sf.rdI 8 rfl h_x1_held (by grind) (fun v3 h_v3 e_v3 => ?_)
    clear e_v3
    exact Sf.ok trivial
set_option maxHeartbeats 1000000 in
theorem sX6_show {x0_refused : (Nat → Int32)} {x0_isKept x0_gone x0_spent : Int32} {x1_elements : (Nat → Nat → Int64)} {x1_held x1_sizes : (Nat → Int32)} {x2_lineCount x2_goodsCount x2_workCount x2_years : Int32} {x2_lines x2_goods x2_works x2_change x2_coin x2_knownFree : (Nat → Int32)} {x2_isKnown p1 p2 : Int32}  (h_x1_held : (AI (-1) 16 x1_held)) (h_x1_sizes : (AI 0 40 x1_sizes)) (h_x2_lineCount : (0 ≤ x2_lineCount ∧ x2_lineCount ≤ 20)) (h_x2_goodsCount : (0 ≤ x2_goodsCount ∧ x2_goodsCount ≤ 8)) (h_x2_workCount : (0 ≤ x2_workCount ∧ x2_workCount ≤ 7)) (h_x2_years : (1 ≤ x2_years ∧ x2_years ≤ 30)) (h_x2_lines : (LnOk x2_lines)) (h_x2_goods : (GdOk x2_goods)) (h_x2_works : (WkOk x2_works)) (h_x2_change : (AI 0 99 x2_change)) (h_x2_coin : (AI 0 9 x2_coin)) : Sf (fX6_show (x0_refused, x0_isKept, x0_gone, x0_spent) (x1_elements, x1_held, x1_sizes) (x2_lineCount, x2_goodsCount, x2_workCount, x2_years, x2_lines, x2_goods, x2_works, x2_change, x2_coin, x2_knownFree, x2_isKnown) p1 p2) (fun r => (AI (-1) 16 r.2.2)) := by
  unfold fX6_show
  dsimp only [u11, u3, u4]
  refine Sf.bind (sX2_has ) ?_
  intro v1 hr1
  have hx_v1 : ((v1 = 1 ∧ 0 ≤ p1 ∧ p1 ≤ 7) ∨ (v1 = 0 ∧ (p1 < 0 ∨ 7 < p1))) := hr1
  refine Sf.ite (fun hc2 => ?_) (fun hc2 => ?_)
  · refine Sf.bind (sX6_refuse ) ?_
    rintro ⟨v3, g4⟩ hr3
    dsimp only [u2]
    exact Sf.ok (show (AI (-1) 16 x1_held) from h_x1_held)
  · refine Sf.ite (fun hc4 => ?_) (fun hc4 => ?_)
    · unfold fX6_show_j30
      refine Sf.ite (fun hc5 => ?_) (fun hc5 => ?_)
      · refine Sf.wrI 8 rfl h_x1_held (by grind) (by decide) (fun f7 h_f7 e_f7 => ?_)
        clear e_f7
        exact Sf.ok (show (AI (-1) 16 f7) from h_f7)
      · refine Sf.wrI 8 rfl h_x1_held (by grind) (by grind) (fun f6 h_f6 e_f6 => ?_)
        clear e_f6
        exact Sf.ok (show (AI (-1) 16 f6) from h_f6)
    · refine Sf.bind (sX1_hasWork h_x2_lineCount h_x2_goodsCount h_x2_workCount h_x2_years h_x2_lines h_x2_goods h_x2_works h_x2_change h_x2_coin) ?_
      intro v8 hr6
      have hx_v8 : ((v8 = 1 ∧ 0 ≤ p2 ∧ p2 < x2_workCount) ∨ (v8 = 0 ∧ ¬ (0 ≤ p2 ∧ p2 < x2_workCount))) := hr6
      refine Sf.ite (fun hc7 => ?_) (fun hc7 => ?_)
      · refine Sf.bind (sX6_refuse ) ?_
        rintro ⟨v10, g11⟩ hr8
        dsimp only [u2]
        exact Sf.ok (show (AI (-1) 16 x1_held) from h_x1_held)
      · unfold fX6_show_j30
        refine Sf.ite (fun hc9 => ?_) (fun hc9 => ?_)
        · refine Sf.wrI 8 rfl h_x1_held (by grind) (by decide) (fun f7 h_f7 e_f7 => ?_)
          clear e_f7
          exact Sf.ok (show (AI (-1) 16 f7) from h_f7)
        · refine Sf.wrI 8 rfl h_x1_held (by grind) (by grind) (fun f6 h_f6 e_f6 => ?_)
          clear e_f6
          exact Sf.ok (show (AI (-1) 16 f6) from h_f6)
set_option maxHeartbeats 1000000 in
theorem sX6_says {n : Nat} {x0_refused : (Nat → Int32)} {x0_isKept x0_gone x0_spent : Int32} {x1_elements : (Nat → Nat → Int64)} {x1_held x1_sizes : (Nat → Int32)} {x2_lineCount x2_goodsCount x2_workCount x2_years : Int32} {x2_lines x2_goods x2_works x2_change x2_coin x2_knownFree : (Nat → Int32)} {x2_isKnown p1 p2 : Int32} (hn : 1000000000000 ≤ n) (h_x1_held : (AI (-1) 16 x1_held)) (h_x1_sizes : (AI 0 40 x1_sizes)) (h_x2_lineCount : (0 ≤ x2_lineCount ∧ x2_lineCount ≤ 20)) (h_x2_goodsCount : (0 ≤ x2_goodsCount ∧ x2_goodsCount ≤ 8)) (h_x2_workCount : (0 ≤ x2_workCount ∧ x2_workCount ≤ 7)) (h_x2_years : (1 ≤ x2_years ∧ x2_years ≤ 30)) (h_x2_lines : (LnOk x2_lines)) (h_x2_goods : (GdOk x2_goods)) (h_x2_works : (WkOk x2_works)) (h_x2_change : (AI 0 99 x2_change)) (h_x2_coin : (AI 0 9 x2_coin)) : Sf (fX6_says n (x0_refused, x0_isKept, x0_gone, x0_spent) (x1_elements, x1_held, x1_sizes) (x2_lineCount, x2_goodsCount, x2_workCount, x2_years, x2_lines, x2_goods, x2_works, x2_change, x2_coin, x2_knownFree, x2_isKnown) p1 p2) (fun r => True) := by
  unfold fX6_says
  dsimp only [u11, u3, u4]
  refine Sf.bind (sX2_has ) ?_
  intro v1 hr1
  have hx_v1 : ((v1 = 1 ∧ 0 ≤ p1 ∧ p1 ≤ 7) ∨ (v1 = 0 ∧ (p1 < 0 ∨ 7 < p1))) := hr1
  refine Sf.ite (fun hc2 => ?_) (fun hc2 => ?_)
  · refine Sf.bind (sX6_refuse ) ?_
    rintro ⟨v3, g4⟩ hr3
    dsimp only [u2]
    exact Sf.ok trivial
  · refine Sf.bind (sX6_within ) ?_
    intro v6 hr4
    have hx_v6 : ((v6 = 1 ∧ 0 ≤ p2 ∧ p2 ≤ 5) ∨ (v6 = 0 ∧ (p2 < 0 ∨ 5 < p2))) := hr4
    refine Sf.ite (fun hc5 => ?_) (fun hc5 => ?_)
    · refine Sf.bind (sX6_refuse ) ?_
      rintro ⟨v41, g42⟩ hr6
      dsimp only [u2]
      exact Sf.ok trivial
    · refine Sf.bind (sX2_workIn h_x1_held h_x1_sizes (by grind)) ?_
      intro v8 hr7
      refine Sf.bind (sX2_hasRow h_x1_held h_x1_sizes (by grind)) ?_
      intro v10 hr8
      have hx_v10 : ((v10 = 1) ∨ (v10 = 0)) := hr8
      refine Sf.ite (fun hc9 => ?_) (fun hc9 => ?_)
      · refine Sf.bind (sX1_hasWork h_x2_lineCount h_x2_goodsCount h_x2_workCount h_x2_years h_x2_lines h_x2_goods h_x2_works h_x2_change h_x2_coin) ?_
        intro v15 hr10
        have hx_v15 : ((v15 = 1 ∧ 0 ≤ v8 ∧ v8 < x2_workCount) ∨ (v15 = 0 ∧ ¬ (0 ≤ v8 ∧ v8 < x2_workCount))) := hr10
        refine Sf.ite (fun hc11 => ?_) (fun hc11 => ?_)
        · unfold fX6_says_j77
          refine Sf.bind (sX1_hasWork h_x2_lineCount h_x2_goodsCount h_x2_workCount h_x2_years h_x2_lines h_x2_goods h_x2_works h_x2_change h_x2_coin) ?_
          intro v17 hr12
          have hx_v17 : ((v17 = 1 ∧ 0 ≤ v8 ∧ v8 < x2_workCount) ∨ (v17 = 0 ∧ ¬ (0 ≤ v8 ∧ v8 < x2_workCount))) := hr12
          refine Sf.ite (fun hc13 => ?_) (fun hc13 => ?_)
          · refine Sf.bind (sX6_refuse ) ?_
            rintro ⟨v31, g32⟩ hr14
            dsimp only [u2]
            exact Sf.ok trivial
          · refine Sf.ite (fun hc15 => ?_) (fun hc15 => ?_)
            · refine Sf.bind (s_ofWork h_x2_works (by grind) (by decide)) ?_
              intro v19 hr16
              obtain ⟨h_v19, e_v19⟩ : (0 ≤ v19 ∧ v19 ≤ 9999) ∧ v19 = x2_works (v8.toNatClampNeg * 5 + 3) := hr16
              clear e_v19
              exact Sf.ok trivial
            · refine Sf.ite (fun hc17 => ?_) (fun hc17 => ?_)
              · refine Sf.bind (s_ofWork h_x2_works (by grind) (by decide)) ?_
                intro v21 hr18
                obtain ⟨h_v21, e_v21⟩ : (0 ≤ v21 ∧ v21 ≤ 19) ∧ v21 = x2_works (v8.toNatClampNeg * 5 + 1) := hr18
                clear e_v21
                refine Sf.bind (s_ofWork h_x2_works (by grind) (by decide)) ?_
                intro v23 hr19
                obtain ⟨h_v23, e_v23⟩ : (0 ≤ v23 ∧ v23 ≤ 99) ∧ v23 = x2_works (v8.toNatClampNeg * 5 + 2) := hr19
                clear e_v23
                exact Sf.ok trivial
              · refine Sf.ite (fun hc20 => ?_) (fun hc20 => ?_)
                · refine Sf.bind (s_ofWork h_x2_works (by grind) (by decide)) ?_
                  intro v25 hr21
                  obtain ⟨h_v25, e_v25⟩ : (0 ≤ v25 ∧ v25 ≤ 19) ∧ v25 = x2_works (v8.toNatClampNeg * 5 + 1) := hr21
                  clear e_v25
                  refine Sf.bind (s_ofWork h_x2_works (by grind) (by decide)) ?_
                  intro v27 hr22
                  obtain ⟨h_v27, e_v27⟩ : (0 ≤ v27 ∧ v27 ≤ 99) ∧ v27 = x2_works (v8.toNatClampNeg * 5 + 2) := hr22
                  clear e_v27
                  exact Sf.ok trivial
                · refine Sf.bind (s_ofWork h_x2_works (by grind) (by decide)) ?_
                  intro v29 hr23
                  obtain ⟨h_v29, e_v29⟩ : (0 ≤ v29 ∧ v29 ≤ 19) ∧ v29 = x2_works (v8.toNatClampNeg * 5 + 1) := hr23
                  clear e_v29
                  exact Sf.ok trivial
        · refine Sf.bind (s_ofWork h_x2_works (by grind) (by decide)) ?_
          intro v34 hr24
          obtain ⟨h_v34, e_v34⟩ : (0 ≤ v34 ∧ v34 ≤ 5) ∧ v34 = x2_works (v8.toNatClampNeg * 5 + 0) := hr24
          clear e_v34
          refine Sf.bind (sX6_isUnder hn ) ?_
          intro v36 hr25
          refine Sf.ite (fun hc26 => ?_) (fun hc26 => ?_)
          · refine Sf.bind (sX6_refuse ) ?_
            rintro ⟨v38, g39⟩ hr27
            dsimp only [u2]
            exact Sf.ok trivial
          · unfold fX6_says_j77
            refine Sf.bind (sX1_hasWork h_x2_lineCount h_x2_goodsCount h_x2_workCount h_x2_years h_x2_lines h_x2_goods h_x2_works h_x2_change h_x2_coin) ?_
            intro v17 hr28
            have hx_v17 : ((v17 = 1 ∧ 0 ≤ v8 ∧ v8 < x2_workCount) ∨ (v17 = 0 ∧ ¬ (0 ≤ v8 ∧ v8 < x2_workCount))) := hr28
            refine Sf.ite (fun hc29 => ?_) (fun hc29 => ?_)
            · refine Sf.bind (sX6_refuse ) ?_
              rintro ⟨v31, g32⟩ hr30
              dsimp only [u2]
              exact Sf.ok trivial
            · refine Sf.ite (fun hc31 => ?_) (fun hc31 => ?_)
              · refine Sf.bind (s_ofWork h_x2_works (by grind) (by decide)) ?_
                intro v19 hr32
                obtain ⟨h_v19, e_v19⟩ : (0 ≤ v19 ∧ v19 ≤ 9999) ∧ v19 = x2_works (v8.toNatClampNeg * 5 + 3) := hr32
                clear e_v19
                exact Sf.ok trivial
              · refine Sf.ite (fun hc33 => ?_) (fun hc33 => ?_)
                · refine Sf.bind (s_ofWork h_x2_works (by grind) (by decide)) ?_
                  intro v21 hr34
                  obtain ⟨h_v21, e_v21⟩ : (0 ≤ v21 ∧ v21 ≤ 19) ∧ v21 = x2_works (v8.toNatClampNeg * 5 + 1) := hr34
                  clear e_v21
                  refine Sf.bind (s_ofWork h_x2_works (by grind) (by decide)) ?_
                  intro v23 hr35
                  obtain ⟨h_v23, e_v23⟩ : (0 ≤ v23 ∧ v23 ≤ 99) ∧ v23 = x2_works (v8.toNatClampNeg * 5 + 2) := hr35
                  clear e_v23
                  exact Sf.ok trivial
                · refine Sf.ite (fun hc36 => ?_) (fun hc36 => ?_)
                  · refine Sf.bind (s_ofWork h_x2_works (by grind) (by decide)) ?_
                    intro v25 hr37
                    obtain ⟨h_v25, e_v25⟩ : (0 ≤ v25 ∧ v25 ≤ 19) ∧ v25 = x2_works (v8.toNatClampNeg * 5 + 1) := hr37
                    clear e_v25
                    refine Sf.bind (s_ofWork h_x2_works (by grind) (by decide)) ?_
                    intro v27 hr38
                    obtain ⟨h_v27, e_v27⟩ : (0 ≤ v27 ∧ v27 ≤ 99) ∧ v27 = x2_works (v8.toNatClampNeg * 5 + 2) := hr38
                    clear e_v27
                    exact Sf.ok trivial
                  · refine Sf.bind (s_ofWork h_x2_works (by grind) (by decide)) ?_
                    intro v29 hr39
                    obtain ⟨h_v29, e_v29⟩ : (0 ≤ v29 ∧ v29 ≤ 19) ∧ v29 = x2_works (v8.toNatClampNeg * 5 + 1) := hr39
                    clear e_v29
                    exact Sf.ok trivial
      · refine Sf.bind (sX6_refuse ) ?_
        rintro ⟨v12, g13⟩ hr40
        dsimp only [u2]
        exact Sf.ok trivial
set_option maxHeartbeats 1000000 in
theorem sX6_isPlace {p0 : Int32}   : Sf (fX6_isPlace p0) (fun r => ((r = 1 ∧ 0 ≤ p0 ∧ p0 ≤ 11) ∨ (r = 0 ∧ (p0 < 0 ∨ 11 < p0)))) := by
  unfold fX6_isPlace
  refine Sf.bind (sX6_within ) ?_
  intro v1 hr1
  have hx_v1 : ((v1 = 1 ∧ 0 ≤ p0 ∧ p0 ≤ 11) ∨ (v1 = 0 ∧ (p0 < 0 ∨ 11 < p0))) := hr1
  refine Sf.zbb (by grind) (fun v3 e_v3 => ?_)
  exact Sf.ok (show ((v3 = 1 ∧ 0 ≤ p0 ∧ p0 ≤ 11) ∨ (v3 = 0 ∧ (p0 < 0 ∨ 11 < p0))) from (by grind))
set_option maxHeartbeats 1000000 in
theorem sX6_line {x0_refused : (Nat → Int32)} {x0_isKept x0_gone x0_spent x1_lineCount x1_goodsCount x1_workCount x1_years : Int32} {x1_lines x1_goods x1_works x1_change x1_coin x1_knownFree : (Nat → Int32)} {x1_isKnown p1 p2 p3 p4 p5 p6 : Int32}  (h_x1_lineCount : (0 ≤ x1_lineCount ∧ x1_lineCount ≤ 20)) (h_x1_goodsCount : (0 ≤ x1_goodsCount ∧ x1_goodsCount ≤ 8)) (h_x1_workCount : (0 ≤ x1_workCount ∧ x1_workCount ≤ 7)) (h_x1_years : (1 ≤ x1_years ∧ x1_years ≤ 30)) (h_x1_lines : (LnOk x1_lines)) (h_x1_goods : (GdOk x1_goods)) (h_x1_works : (WkOk x1_works)) (h_x1_change : (AI 0 99 x1_change)) (h_x1_coin : (AI 0 9 x1_coin)) : Sf (fX6_line (x0_refused, x0_isKept, x0_gone, x0_spent) (x1_lineCount, x1_goodsCount, x1_workCount, x1_years, x1_lines, x1_goods, x1_works, x1_change, x1_coin, x1_knownFree, x1_isKnown) p1 p2 p3 p4 p5 p6) (fun r => (0 ≤ r.2.2.1 ∧ r.2.2.1 ≤ 20) ∧ (LnOk r.2.2.2.1)) := by
  unfold fX6_line
  dsimp only [u11, u4]
  refine Sf.bind (sX6_isPlace ) ?_
  intro v1 hr1
  have hx_v1 : ((v1 = 1 ∧ 0 ≤ p1 ∧ p1 ≤ 11) ∨ (v1 = 0 ∧ (p1 < 0 ∨ 11 < p1))) := hr1
  refine Sf.ite (fun hc2 => ?_) (fun hc2 => ?_)
  · refine Sf.bind (sX6_refuse ) ?_
    rintro ⟨v3, g4⟩ hr3
    dsimp only [u2]
    exact Sf.ok (show (0 ≤ x1_lineCount ∧ x1_lineCount ≤ 20) ∧ (LnOk x1_lines) from ⟨h_x1_lineCount, h_x1_lines⟩)
  · refine Sf.bind (sX6_isPlace ) ?_
    intro v6 hr4
    have hx_v6 : ((v6 = 1 ∧ 0 ≤ p2 ∧ p2 ≤ 11) ∨ (v6 = 0 ∧ (p2 < 0 ∨ 11 < p2))) := hr4
    refine Sf.ite (fun hc5 => ?_) (fun hc5 => ?_)
    · refine Sf.bind (sX6_refuse ) ?_
      rintro ⟨v8, g9⟩ hr6
      dsimp only [u2]
      exact Sf.ok (show (0 ≤ x1_lineCount ∧ x1_lineCount ≤ 20) ∧ (LnOk x1_lines) from ⟨h_x1_lineCount, h_x1_lines⟩)
    · refine Sf.ite (fun hc7 => ?_) (fun hc7 => ?_)
      · refine Sf.bind (sX6_refuse ) ?_
        rintro ⟨v11, g12⟩ hr8
        dsimp only [u2]
        exact Sf.ok (show (0 ≤ x1_lineCount ∧ x1_lineCount ≤ 20) ∧ (LnOk x1_lines) from ⟨h_x1_lineCount, h_x1_lines⟩)
      · refine Sf.bind (sX6_within ) ?_
        intro v14 hr9
        have hx_v14 : ((v14 = 1 ∧ 1 ≤ p3 ∧ p3 ≤ 7) ∨ (v14 = 0 ∧ (p3 < 1 ∨ 7 < p3))) := hr9
        refine Sf.ite (fun hc10 => ?_) (fun hc10 => ?_)
        · refine Sf.bind (sX6_refuse ) ?_
          rintro ⟨v16, g17⟩ hr11
          dsimp only [u2]
          exact Sf.ok (show (0 ≤ x1_lineCount ∧ x1_lineCount ≤ 20) ∧ (LnOk x1_lines) from ⟨h_x1_lineCount, h_x1_lines⟩)
        · refine Sf.bind (sX6_within ) ?_
          intro v19 hr12
          have hx_v19 : ((v19 = 1 ∧ 1 ≤ p4 ∧ p4 ≤ 60) ∨ (v19 = 0 ∧ (p4 < 1 ∨ 60 < p4))) := hr12
          refine Sf.ite (fun hc13 => ?_) (fun hc13 => ?_)
          · refine Sf.bind (sX6_refuse ) ?_
            rintro ⟨v21, g22⟩ hr14
            dsimp only [u2]
            exact Sf.ok (show (0 ≤ x1_lineCount ∧ x1_lineCount ≤ 20) ∧ (LnOk x1_lines) from ⟨h_x1_lineCount, h_x1_lines⟩)
          · refine Sf.bind (sX6_within ) ?_
            intro v24 hr15
            have hx_v24 : ((v24 = 1 ∧ 1 ≤ p5 ∧ p5 ≤ 999) ∨ (v24 = 0 ∧ (p5 < 1 ∨ 999 < p5))) := hr15
            refine Sf.ite (fun hc16 => ?_) (fun hc16 => ?_)
            · refine Sf.bind (sX6_refuse ) ?_
              rintro ⟨v26, g27⟩ hr17
              dsimp only [u2]
              exact Sf.ok (show (0 ≤ x1_lineCount ∧ x1_lineCount ≤ 20) ∧ (LnOk x1_lines) from ⟨h_x1_lineCount, h_x1_lines⟩)
            · refine Sf.bind (sX6_within ) ?_
              intro v29 hr18
              have hx_v29 : ((v29 = 1 ∧ 0 ≤ p6 ∧ p6 ≤ 5) ∨ (v29 = 0 ∧ (p6 < 0 ∨ 5 < p6))) := hr18
              refine Sf.ite (fun hc19 => ?_) (fun hc19 => ?_)
              · refine Sf.bind (sX6_refuse ) ?_
                rintro ⟨v38, g39⟩ hr20
                dsimp only [u2]
                exact Sf.ok (show (0 ≤ x1_lineCount ∧ x1_lineCount ≤ 20) ∧ (LnOk x1_lines) from ⟨h_x1_lineCount, h_x1_lines⟩)
              · refine Sf.ite (fun hc21 => ?_) (fun hc21 => ?_)
                · refine Sf.bind (sX1_addLine h_x1_lineCount h_x1_lines (by grind) (by grind) (by grind) (by grind) (by grind) (by grind)) ?_
                  rintro ⟨g31, g32, g33⟩ hr22
                  obtain ⟨h_g31, h_g32⟩ : (0 ≤ g31 ∧ g31 ≤ 20) ∧ (LnOk g32) := hr22
                  dsimp only [u3]
                  exact Sf.ok (show (0 ≤ g31 ∧ g31 ≤ 20) ∧ (LnOk g32) from ⟨h_g31, h_g32⟩)
                · refine Sf.bind (sX6_refuse ) ?_
                  rintro ⟨v35, g36⟩ hr23
                  dsimp only [u2]
                  exact Sf.ok (show (0 ≤ x1_lineCount ∧ x1_lineCount ≤ 20) ∧ (LnOk x1_lines) from ⟨h_x1_lineCount, h_x1_lines⟩)
set_option maxHeartbeats 1000000 in
theorem sX6_goods {x0_refused : (Nat → Int32)} {x0_isKept x0_gone x0_spent x1_lineCount x1_goodsCount x1_workCount x1_years : Int32} {x1_lines x1_goods x1_works x1_change x1_coin x1_knownFree : (Nat → Int32)} {x1_isKnown p1 p2 p3 : Int32}  (h_x1_lineCount : (0 ≤ x1_lineCount ∧ x1_lineCount ≤ 20)) (h_x1_goodsCount : (0 ≤ x1_goodsCount ∧ x1_goodsCount ≤ 8)) (h_x1_workCount : (0 ≤ x1_workCount ∧ x1_workCount ≤ 7)) (h_x1_years : (1 ≤ x1_years ∧ x1_years ≤ 30)) (h_x1_lines : (LnOk x1_lines)) (h_x1_goods : (GdOk x1_goods)) (h_x1_works : (WkOk x1_works)) (h_x1_change : (AI 0 99 x1_change)) (h_x1_coin : (AI 0 9 x1_coin)) : Sf (fX6_goods (x0_refused, x0_isKept, x0_gone, x0_spent) (x1_lineCount, x1_goodsCount, x1_workCount, x1_years, x1_lines, x1_goods, x1_works, x1_change, x1_coin, x1_knownFree, x1_isKnown) p1 p2 p3) (fun r => (0 ≤ r.2.2.1 ∧ r.2.2.1 ≤ 8) ∧ (GdOk r.2.2.2.1)) := by
  unfold fX6_goods
  dsimp only [u11, u4]
  refine Sf.bind (sX6_isPlace ) ?_
  intro v1 hr1
  have hx_v1 : ((v1 = 1 ∧ 0 ≤ p1 ∧ p1 ≤ 11) ∨ (v1 = 0 ∧ (p1 < 0 ∨ 11 < p1))) := hr1
  refine Sf.ite (fun hc2 => ?_) (fun hc2 => ?_)
  · refine Sf.bind (sX6_refuse ) ?_
    rintro ⟨v3, g4⟩ hr3
    dsimp only [u2]
    exact Sf.ok (show (0 ≤ x1_goodsCount ∧ x1_goodsCount ≤ 8) ∧ (GdOk x1_goods) from ⟨h_x1_goodsCount, h_x1_goods⟩)
  · refine Sf.bind (sX6_isPlace ) ?_
    intro v6 hr4
    have hx_v6 : ((v6 = 1 ∧ 0 ≤ p2 ∧ p2 ≤ 11) ∨ (v6 = 0 ∧ (p2 < 0 ∨ 11 < p2))) := hr4
    refine Sf.ite (fun hc5 => ?_) (fun hc5 => ?_)
    · refine Sf.bind (sX6_refuse ) ?_
      rintro ⟨v8, g9⟩ hr6
      dsimp only [u2]
      exact Sf.ok (show (0 ≤ x1_goodsCount ∧ x1_goodsCount ≤ 8) ∧ (GdOk x1_goods) from ⟨h_x1_goodsCount, h_x1_goods⟩)
    · refine Sf.ite (fun hc7 => ?_) (fun hc7 => ?_)
      · refine Sf.bind (sX6_refuse ) ?_
        rintro ⟨v11, g12⟩ hr8
        dsimp only [u2]
        exact Sf.ok (show (0 ≤ x1_goodsCount ∧ x1_goodsCount ≤ 8) ∧ (GdOk x1_goods) from ⟨h_x1_goodsCount, h_x1_goods⟩)
      · refine Sf.bind (sX6_within ) ?_
        intro v14 hr9
        have hx_v14 : ((v14 = 1 ∧ 1 ≤ p3 ∧ p3 ≤ 99) ∨ (v14 = 0 ∧ (p3 < 1 ∨ 99 < p3))) := hr9
        refine Sf.ite (fun hc10 => ?_) (fun hc10 => ?_)
        · refine Sf.bind (sX6_refuse ) ?_
          rintro ⟨v23, g24⟩ hr11
          dsimp only [u2]
          exact Sf.ok (show (0 ≤ x1_goodsCount ∧ x1_goodsCount ≤ 8) ∧ (GdOk x1_goods) from ⟨h_x1_goodsCount, h_x1_goods⟩)
        · refine Sf.ite (fun hc12 => ?_) (fun hc12 => ?_)
          · refine Sf.bind (sX1_addGoods h_x1_goodsCount h_x1_goods (by grind) (by grind) (by grind)) ?_
            rintro ⟨g16, g17, g18⟩ hr13
            obtain ⟨h_g16, h_g17⟩ : (0 ≤ g16 ∧ g16 ≤ 8) ∧ (GdOk g17) := hr13
            dsimp only [u3]
            exact Sf.ok (show (0 ≤ g16 ∧ g16 ≤ 8) ∧ (GdOk g17) from ⟨h_g16, h_g17⟩)
          · refine Sf.bind (sX6_refuse ) ?_
            rintro ⟨v20, g21⟩ hr14
            dsimp only [u2]
            exact Sf.ok (show (0 ≤ x1_goodsCount ∧ x1_goodsCount ≤ 8) ∧ (GdOk x1_goods) from ⟨h_x1_goodsCount, h_x1_goods⟩)
set_option maxHeartbeats 1000000 in
theorem sX6_work {n : Nat} {x0_refused : (Nat → Int32)} {x0_isKept x0_gone x0_spent x1_lineCount x1_goodsCount x1_workCount x1_years : Int32} {x1_lines x1_goods x1_works x1_change x1_coin x1_knownFree : (Nat → Int32)} {x1_isKnown p1 p2 p3 p4 : Int32} (hn : 1000000000000 ≤ n) (h_x1_lineCount : (0 ≤ x1_lineCount ∧ x1_lineCount ≤ 20)) (h_x1_goodsCount : (0 ≤ x1_goodsCount ∧ x1_goodsCount ≤ 8)) (h_x1_workCount : (0 ≤ x1_workCount ∧ x1_workCount ≤ 7)) (h_x1_years : (1 ≤ x1_years ∧ x1_years ≤ 30)) (h_x1_lines : (LnOk x1_lines)) (h_x1_goods : (GdOk x1_goods)) (h_x1_works : (WkOk x1_works)) (h_x1_change : (AI 0 99 x1_change)) (h_x1_coin : (AI 0 9 x1_coin)) : Sf (fX6_work n (x0_refused, x0_isKept, x0_gone, x0_spent) (x1_lineCount, x1_goodsCount, x1_workCount, x1_years, x1_lines, x1_goods, x1_works, x1_change, x1_coin, x1_knownFree, x1_isKnown) p1 p2 p3 p4) (fun r => (0 ≤ r.2.2.1 ∧ r.2.2.1 ≤ 7) ∧ (WkOk r.2.2.2.1)) := by
  unfold fX6_work
  dsimp only [u11, u4]
  refine Sf.bind (sX1_allowsWork hn h_x1_lineCount h_x1_goodsCount h_x1_workCount h_x1_years h_x1_lines h_x1_goods h_x1_works h_x1_change h_x1_coin) ?_
  intro v1 hr1
  have hx_v1 : (v1 = 0 ∨ (v1 = 1 ∧ (0 ≤ p1 ∧ p1 ≤ 5) ∧ (0 ≤ p2 ∧ p2 ≤ 19) ∧ (0 ≤ p3 ∧ p3 ≤ 99) ∧ WkR p1 p2 p3)) := hr1
  refine Sf.ite (fun hc2 => ?_) (fun hc2 => ?_)
  · refine Sf.bind (sX6_refuse ) ?_
    rintro ⟨v3, g4⟩ hr3
    dsimp only [u2]
    exact Sf.ok (show (0 ≤ x1_workCount ∧ x1_workCount ≤ 7) ∧ (WkOk x1_works) from ⟨h_x1_workCount, h_x1_works⟩)
  · refine Sf.bind (sX6_within ) ?_
    intro v6 hr4
    have hx_v6 : ((v6 = 1 ∧ 0 ≤ p4 ∧ p4 ≤ 9999) ∨ (v6 = 0 ∧ (p4 < 0 ∨ 9999 < p4))) := hr4
    refine Sf.ite (fun hc5 => ?_) (fun hc5 => ?_)
    · refine Sf.bind (sX6_refuse ) ?_
      rintro ⟨v15, g16⟩ hr6
      dsimp only [u2]
      exact Sf.ok (show (0 ≤ x1_workCount ∧ x1_workCount ≤ 7) ∧ (WkOk x1_works) from ⟨h_x1_workCount, h_x1_works⟩)
    · refine Sf.ite (fun hc7 => ?_) (fun hc7 => ?_)
      · refine Sf.bind (sX1_addWork h_x1_workCount h_x1_works (by grind) (by grind) (by grind) (by grind) (by first | grind | (unfold WkR; grind))) ?_
        rintro ⟨g8, g9, g10⟩ hr8
        obtain ⟨h_g8, h_g9⟩ : (0 ≤ g8 ∧ g8 ≤ 7) ∧ (WkOk g9) := hr8
        dsimp only [u3]
        exact Sf.ok (show (0 ≤ g8 ∧ g8 ≤ 7) ∧ (WkOk g9) from ⟨h_g8, h_g9⟩)
      · refine Sf.bind (sX6_refuse ) ?_
        rintro ⟨v12, g13⟩ hr9
        dsimp only [u2]
        exact Sf.ok (show (0 ≤ x1_workCount ∧ x1_workCount ≤ 7) ∧ (WkOk x1_works) from ⟨h_x1_workCount, h_x1_works⟩)
set_option maxHeartbeats 1000000 in
theorem sX6_change {x0_refused : (Nat → Int32)} {x0_isKept x0_gone x0_spent x1_lineCount x1_goodsCount x1_workCount x1_years : Int32} {x1_lines x1_goods x1_works x1_change x1_coin x1_knownFree : (Nat → Int32)} {x1_isKnown p1 p2 : Int32}  (h_x1_lineCount : (0 ≤ x1_lineCount ∧ x1_lineCount ≤ 20)) (h_x1_goodsCount : (0 ≤ x1_goodsCount ∧ x1_goodsCount ≤ 8)) (h_x1_workCount : (0 ≤ x1_workCount ∧ x1_workCount ≤ 7)) (h_x1_years : (1 ≤ x1_years ∧ x1_years ≤ 30)) (h_x1_lines : (LnOk x1_lines)) (h_x1_goods : (GdOk x1_goods)) (h_x1_works : (WkOk x1_works)) (h_x1_change : (AI 0 99 x1_change)) (h_x1_coin : (AI 0 9 x1_coin)) : Sf (fX6_change (x0_refused, x0_isKept, x0_gone, x0_spent) (x1_lineCount, x1_goodsCount, x1_workCount, x1_years, x1_lines, x1_goods, x1_works, x1_change, x1_coin, x1_knownFree, x1_isKnown) p1 p2) (fun r => (AI 0 99 r.2.2.1)) := by
  unfold fX6_change
  dsimp only [u11, u4]
  refine Sf.bind (sX6_isPlace ) ?_
  intro v1 hr1
  have hx_v1 : ((v1 = 1 ∧ 0 ≤ p1 ∧ p1 ≤ 11) ∨ (v1 = 0 ∧ (p1 < 0 ∨ 11 < p1))) := hr1
  refine Sf.ite (fun hc2 => ?_) (fun hc2 => ?_)
  · refine Sf.bind (sX6_refuse ) ?_
    rintro ⟨v3, g4⟩ hr3
    dsimp only [u2]
    exact Sf.ok (show (AI 0 99 x1_change) from h_x1_change)
  · refine Sf.bind (sX6_within ) ?_
    intro v6 hr4
    have hx_v6 : ((v6 = 1 ∧ 0 ≤ p2 ∧ p2 ≤ 99) ∨ (v6 = 0 ∧ (p2 < 0 ∨ 99 < p2))) := hr4
    refine Sf.ite (fun hc5 => ?_) (fun hc5 => ?_)
    · refine Sf.bind (sX6_refuse ) ?_
      rintro ⟨v12, g13⟩ hr6
      dsimp only [u2]
      exact Sf.ok (show (AI 0 99 x1_change) from h_x1_change)
    · refine Sf.rdI 12 rfl h_x1_change (by grind) (fun v8 h_v8 e_v8 => ?_)
      clear e_v8
      refine Sf.bind (sX1_putChange h_x1_lineCount h_x1_goodsCount h_x1_workCount h_x1_years h_x1_lines h_x1_goods h_x1_works h_x1_change h_x1_coin (by grind)) ?_
      rintro ⟨g9, g10⟩ hr7
      have h_g9 : (AI 0 99 g9) := hr7
      dsimp only [u2]
      exact Sf.ok (show (AI 0 99 g9) from h_g9)
set_option maxHeartbeats 1000000 in
theorem sX6_coin {x0_refused : (Nat → Int32)} {x0_isKept x0_gone x0_spent x1_lineCount x1_goodsCount x1_workCount x1_years : Int32} {x1_lines x1_goods x1_works x1_change x1_coin x1_knownFree : (Nat → Int32)} {x1_isKnown p1 p2 : Int32}  (h_x1_lineCount : (0 ≤ x1_lineCount ∧ x1_lineCount ≤ 20)) (h_x1_goodsCount : (0 ≤ x1_goodsCount ∧ x1_goodsCount ≤ 8)) (h_x1_workCount : (0 ≤ x1_workCount ∧ x1_workCount ≤ 7)) (h_x1_years : (1 ≤ x1_years ∧ x1_years ≤ 30)) (h_x1_lines : (LnOk x1_lines)) (h_x1_goods : (GdOk x1_goods)) (h_x1_works : (WkOk x1_works)) (h_x1_change : (AI 0 99 x1_change)) (h_x1_coin : (AI 0 9 x1_coin)) : Sf (fX6_coin (x0_refused, x0_isKept, x0_gone, x0_spent) (x1_lineCount, x1_goodsCount, x1_workCount, x1_years, x1_lines, x1_goods, x1_works, x1_change, x1_coin, x1_knownFree, x1_isKnown) p1 p2) (fun r => (AI 0 9 r.2.2.1)) := by
  unfold fX6_coin
  dsimp only [u11, u4]
  refine Sf.bind (sX6_within ) ?_
  intro v1 hr1
  have hx_v1 : ((v1 = 1 ∧ 0 ≤ p1 ∧ p1 ≤ 2) ∨ (v1 = 0 ∧ (p1 < 0 ∨ 2 < p1))) := hr1
  refine Sf.ite (fun hc2 => ?_) (fun hc2 => ?_)
  · refine Sf.bind (sX6_refuse ) ?_
    rintro ⟨v3, g4⟩ hr3
    dsimp only [u2]
    exact Sf.ok (show (AI 0 9 x1_coin) from h_x1_coin)
  · refine Sf.bind (sX6_within ) ?_
    intro v6 hr4
    have hx_v6 : ((v6 = 1 ∧ 0 ≤ p2 ∧ p2 ≤ 9) ∨ (v6 = 0 ∧ (p2 < 0 ∨ 9 < p2))) := hr4
    refine Sf.ite (fun hc5 => ?_) (fun hc5 => ?_)
    · refine Sf.bind (sX6_refuse ) ?_
      rintro ⟨v12, g13⟩ hr6
      dsimp only [u2]
      exact Sf.ok (show (AI 0 9 x1_coin) from h_x1_coin)
    · refine Sf.rdI 3 rfl h_x1_coin (by grind) (fun v8 h_v8 e_v8 => ?_)
      clear e_v8
      refine Sf.bind (sX1_putCoin h_x1_lineCount h_x1_goodsCount h_x1_workCount h_x1_years h_x1_lines h_x1_goods h_x1_works h_x1_change h_x1_coin (by grind)) ?_
      rintro ⟨g9, g10⟩ hr7
      have h_g9 : (AI 0 9 g9) := hr7
      dsimp only [u2]
      exact Sf.ok (show (AI 0 9 g9) from h_g9)
set_option maxHeartbeats 1000000 in
theorem sX6_years {x0_refused : (Nat → Int32)} {x0_isKept x0_gone x0_spent x1_lineCount x1_goodsCount x1_workCount x1_years : Int32} {x1_lines x1_goods x1_works x1_change x1_coin x1_knownFree : (Nat → Int32)} {x1_isKnown p1 : Int32}  (h_x1_lineCount : (0 ≤ x1_lineCount ∧ x1_lineCount ≤ 20)) (h_x1_goodsCount : (0 ≤ x1_goodsCount ∧ x1_goodsCount ≤ 8)) (h_x1_workCount : (0 ≤ x1_workCount ∧ x1_workCount ≤ 7)) (h_x1_years : (1 ≤ x1_years ∧ x1_years ≤ 30)) (h_x1_lines : (LnOk x1_lines)) (h_x1_goods : (GdOk x1_goods)) (h_x1_works : (WkOk x1_works)) (h_x1_change : (AI 0 99 x1_change)) (h_x1_coin : (AI 0 9 x1_coin)) : Sf (fX6_years (x0_refused, x0_isKept, x0_gone, x0_spent) (x1_lineCount, x1_goodsCount, x1_workCount, x1_years, x1_lines, x1_goods, x1_works, x1_change, x1_coin, x1_knownFree, x1_isKnown) p1) (fun r => (1 ≤ r.2.2 ∧ r.2.2 ≤ 30)) := by
  unfold fX6_years
  dsimp only [u11, u4]
  refine Sf.bind (sX6_within ) ?_
  intro v1 hr1
  have hx_v1 : ((v1 = 1 ∧ 1 ≤ p1 ∧ p1 ≤ 30) ∨ (v1 = 0 ∧ (p1 < 1 ∨ 30 < p1))) := hr1
  refine Sf.ite (fun hc2 => ?_) (fun hc2 => ?_)
  · refine Sf.bind (sX6_refuse ) ?_
    rintro ⟨v3, g4⟩ hr3
    dsimp only [u2]
    exact Sf.ok (show (1 ≤ x1_years ∧ x1_years ≤ 30) from h_x1_years)
  · exact Sf.ok (show (1 ≤ p1 ∧ p1 ≤ 30) from (by grind))
set_option maxHeartbeats 1000000 in
theorem sX6_washed {x0_refused : (Nat → Int32)} {x0_isKept x0_gone x0_spent x1_lineCount x1_goodsCount x1_workCount x1_years : Int32} {x1_lines x1_goods x1_works x1_change x1_coin x1_knownFree : (Nat → Int32)} {x1_isKnown p1 p2 : Int32}  (h_x1_lineCount : (0 ≤ x1_lineCount ∧ x1_lineCount ≤ 20)) (h_x1_goodsCount : (0 ≤ x1_goodsCount ∧ x1_goodsCount ≤ 8)) (h_x1_workCount : (0 ≤ x1_workCount ∧ x1_workCount ≤ 7)) (h_x1_years : (1 ≤ x1_years ∧ x1_years ≤ 30)) (h_x1_lines : (LnOk x1_lines)) (h_x1_goods : (GdOk x1_goods)) (h_x1_works : (WkOk x1_works)) (h_x1_change : (AI 0 99 x1_change)) (h_x1_coin : (AI 0 9 x1_coin)) : Sf (fX6_washed (x0_refused, x0_isKept, x0_gone, x0_spent) (x1_lineCount, x1_goodsCount, x1_workCount, x1_years, x1_lines, x1_goods, x1_works, x1_change, x1_coin, x1_knownFree, x1_isKnown) p1 p2) (fun r => (LnOk r.2.2.1)) := by
  unfold fX6_washed
  dsimp only [u11, u4]
  refine Sf.bind (sX1_hasLine h_x1_lineCount h_x1_goodsCount h_x1_workCount h_x1_years h_x1_lines h_x1_goods h_x1_works h_x1_change h_x1_coin) ?_
  intro v1 hr1
  have hx_v1 : ((v1 = 1 ∧ 0 ≤ p1 ∧ p1 < x1_lineCount) ∨ (v1 = 0 ∧ ¬ (0 ≤ p1 ∧ p1 < x1_lineCount))) := hr1
  refine Sf.ite (fun hc2 => ?_) (fun hc2 => ?_)
  · refine Sf.bind (sX6_refuse ) ?_
    rintro ⟨v9, g10⟩ hr3
    dsimp only [u2]
    exact Sf.ok (show (LnOk x1_lines) from h_x1_lines)
  · refine Sf.ite (fun hc4 => ?_) (fun hc4 => ?_)
    · unfold fX6_washed_j27
      refine Sf.bind (s_ofLine h_x1_lines (by grind) (by decide)) ?_
      intro v4 hr5
      obtain ⟨h_v4, e_v4⟩ : (0 ≤ v4 ∧ v4 ≤ 1) ∧ v4 = x1_lines (p1.toNatClampNeg * 7 + 6) := hr5
      clear e_v4
      refine Sf.ite (fun hc6 => ?_) (fun hc6 => ?_)
      · exact Sf.ok (show (LnOk x1_lines) from h_x1_lines)
      · refine Sf.bind (sX1_putWashed h_x1_lineCount h_x1_lines (by decide)) ?_
        rintro ⟨g6, g7⟩ hr7
        have h_g6 : (LnOk g6) := hr7
        dsimp only [u2]
        exact Sf.ok (show (LnOk g6) from h_g6)
    · unfold fX6_washed_j27
      refine Sf.bind (s_ofLine h_x1_lines (by grind) (by decide)) ?_
      intro v4 hr8
      obtain ⟨h_v4, e_v4⟩ : (0 ≤ v4 ∧ v4 ≤ 1) ∧ v4 = x1_lines (p1.toNatClampNeg * 7 + 6) := hr8
      clear e_v4
      refine Sf.ite (fun hc9 => ?_) (fun hc9 => ?_)
      · exact Sf.ok (show (LnOk x1_lines) from h_x1_lines)
      · refine Sf.bind (sX1_putWashed h_x1_lineCount h_x1_lines (by decide)) ?_
        rintro ⟨g6, g7⟩ hr10
        have h_g6 : (LnOk g6) := hr10
        dsimp only [u2]
        exact Sf.ok (show (LnOk g6) from h_g6)
theorem TX6_feed_s42 {p1 x1_start x1_end x1_token x1_value z4 : Int32} {z5 : (Nat → Int32)} {z6 : Int32}  (h_x1_start : (0 ≤ x1_start ∧ x1_start ≤ 250)) (h_x1_end : (0 ≤ x1_end ∧ x1_end ≤ 250)) (h_z6 : (0 ≤ z6 ∧ z6 ≤ 250)) : Sf (fX6_feed_s42 p1 x1_start x1_end x1_token x1_value z4 z5 z6) (LQ (fun (e : Int32 × (Nat → Int32) × Int32) => (0 ≤ e.2.2 ∧ e.2.2 ≤ 250)) (fun (e : Int32 × (Nat → Int32) × Int32) => muDe e.1) (muDe z4) (fun e => (0 ≤ e.2 ∧ e.2 ≤ 250))) := by
  unfold fX6_feed_s42
  refine Sf.ite (fun hc1 => ?_) (fun hc1 => ?_)
  · exact Sf.inr (show (0 ≤ z6 ∧ z6 ≤ 250) from h_z6)
  · refine Sf.bind (sX3_put h_z6 h_x1_start h_x1_end) ?_
    rintro ⟨g10, g11⟩ hr2
    have h_g11 : (0 ≤ g11 ∧ g11 ≤ 250) := hr2
    exact Sf.inl (show (0 ≤ g11 ∧ g11 ≤ 250) from h_g11) (muDe_lta hc1)
theorem LX6_feed_s42 {n : Nat} {p1 x1_start x1_end x1_token x1_value z4 : Int32} {z5 : (Nat → Int32)} {z6 : Int32} (hn : 1000000000000 ≤ n) (h_x1_start : (0 ≤ x1_start ∧ x1_start ≤ 250)) (h_x1_end : (0 ≤ x1_end ∧ x1_end ≤ 250)) (h_z6 : (0 ≤ z6 ∧ z6 ≤ 250)) : Sf (lp (u3 (fX6_feed_s42 p1 x1_start x1_end x1_token x1_value)) n (z4, z5, z6)) (fun e => (0 ≤ e.2 ∧ e.2 ≤ 250)) :=
  Sf.loop (fun (e : Int32 × (Nat → Int32) × Int32) => (0 ≤ e.2.2 ∧ e.2.2 ≤ 250)) (fun (e : Int32 × (Nat → Int32) × Int32) => muDe e.1) (fun s h => by rw [u3_def]; exact TX6_feed_s42 h_x1_start h_x1_end h) n _ h_z6 (muDe_n hn)
set_option maxHeartbeats 1000000 in
theorem sX6_feed {n : Nat} {x0_refused : (Nat → Int32)} {x0_isKept x0_gone x0_spent : Int32} {x1_bytes : (Nat → Int32)} {x1_size x1_start x1_end x1_token x1_value p1 p2 : Int32} (hn : 1000000000000 ≤ n) (h_x1_size : (0 ≤ x1_size ∧ x1_size ≤ 250)) (h_x1_start : (0 ≤ x1_start ∧ x1_start ≤ 250)) (h_x1_end : (0 ≤ x1_end ∧ x1_end ≤ 250)) : Sf (fX6_feed n (x0_refused, x0_isKept, x0_gone, x0_spent) (x1_bytes, x1_size, x1_start, x1_end, x1_token, x1_value) p1 p2) (fun r => (0 ≤ r.2.2.2 ∧ r.2.2.2 ≤ 250)) := by
  unfold fX6_feed
  dsimp only [u4, u6]
  refine Sf.bind (sX6_within ) ?_
  intro v1 hr1
  have hx_v1 : ((v1 = 1 ∧ 1 ≤ p2 ∧ p2 ≤ 4) ∨ (v1 = 0 ∧ (p2 < 1 ∨ 4 < p2))) := hr1
  refine Sf.ite (fun hc2 => ?_) (fun hc2 => ?_)
  · refine Sf.bind (sX6_refuse ) ?_
    rintro ⟨v16, g17⟩ hr3
    exact Sf.ok (show (0 ≤ x1_size ∧ x1_size ≤ 250) from h_x1_size)
  · refine Sf.ite (fun hc4 => ?_) (fun hc4 => ?_)
    · refine Sf.bind (LX6_feed_s42 hn h_x1_start h_x1_end h_x1_size) ?_
      rintro ⟨w8, w9⟩ hr5
      have h_w9 : (0 ≤ w9 ∧ w9 ≤ 250) := hr5
      exact Sf.ok (show (0 ≤ w9 ∧ w9 ≤ 250) from h_w9)
    · refine Sf.bind (sX6_refuse ) ?_
      rintro ⟨v13, g14⟩ hr6
      exact Sf.ok (show (0 ≤ x1_size ∧ x1_size ≤ 250) from h_x1_size)
set_option maxHeartbeats 1000000 in
theorem sX6_wipe {x0_refused : (Nat → Int32)} {x0_isKept x0_gone x0_spent : Int32} {x1_bytes : (Nat → Int32)} {x1_size x1_start x1_end x1_token x1_value : Int32}  (h_x1_size : (0 ≤ x1_size ∧ x1_size ≤ 250)) (h_x1_start : (0 ≤ x1_start ∧ x1_start ≤ 250)) (h_x1_end : (0 ≤ x1_end ∧ x1_end ≤ 250)) : Sf (fX6_wipe (x0_refused, x0_isKept, x0_gone, x0_spent) (x1_bytes, x1_size, x1_start, x1_end, x1_token, x1_value)) (fun r => (0 ≤ r.2 ∧ r.2 ≤ 250)) := by
  unfold fX6_wipe
  dsimp only [u4, u6]
  exact Sf.ok (show (0 ≤ 0 ∧ 0 ≤ 250) from (by decide))
set_option maxHeartbeats 1000000 in
theorem sX6_land {n : Nat} {x0_refused : (Nat → Int32)} {x0_isKept x0_gone x0_spent : Int32} {x1_gained : (Nat → Int32)} {x2_lineCount x2_goodsCount x2_workCount x2_years : Int32} {x2_lines x2_goods x2_works x2_change x2_coin x2_knownFree : (Nat → Int32)} {x2_isKnown x3_lineCount x3_goodsCount x3_workCount x3_years : Int32} {x3_lines x3_goods x3_works x3_change x3_coin x3_knownFree : (Nat → Int32)} {x3_isKnown : Int32} {x4_bytes : (Nat → Int32)} {x4_size x4_start x4_end x4_token x4_value : Int32} (hn : 1000000000000 ≤ n) (h_x2_lineCount : (0 ≤ x2_lineCount ∧ x2_lineCount ≤ 20)) (h_x2_goodsCount : (0 ≤ x2_goodsCount ∧ x2_goodsCount ≤ 8)) (h_x2_workCount : (0 ≤ x2_workCount ∧ x2_workCount ≤ 7)) (h_x2_years : (1 ≤ x2_years ∧ x2_years ≤ 30)) (h_x2_lines : (LnOk x2_lines)) (h_x2_goods : (GdOk x2_goods)) (h_x2_works : (WkOk x2_works)) (h_x2_change : (AI 0 99 x2_change)) (h_x2_coin : (AI 0 9 x2_coin)) (h_x3_lineCount : (0 ≤ x3_lineCount ∧ x3_lineCount ≤ 20)) (h_x3_goodsCount : (0 ≤ x3_goodsCount ∧ x3_goodsCount ≤ 8)) (h_x3_workCount : (0 ≤ x3_workCount ∧ x3_workCount ≤ 7)) (h_x3_years : (1 ≤ x3_years ∧ x3_years ≤ 30)) (h_x3_lines : (LnOk x3_lines)) (h_x3_goods : (GdOk x3_goods)) (h_x3_works : (WkOk x3_works)) (h_x3_change : (AI 0 99 x3_change)) (h_x3_coin : (AI 0 9 x3_coin)) (h_x4_size : (0 ≤ x4_size ∧ x4_size ≤ 250)) (h_x4_start : (0 ≤ x4_start ∧ x4_start ≤ 250)) (h_x4_end : (0 ≤ x4_end ∧ x4_end ≤ 250)) : Sf (fX6_land n (x0_refused, x0_isKept, x0_gone, x0_spent) x1_gained (x2_lineCount, x2_goodsCount, x2_workCount, x2_years, x2_lines, x2_goods, x2_works, x2_change, x2_coin, x2_knownFree, x2_isKnown) (x3_lineCount, x3_goodsCount, x3_workCount, x3_years, x3_lines, x3_goods, x3_works, x3_change, x3_coin, x3_knownFree, x3_isKnown) (x4_bytes, x4_size, x4_start, x4_end, x4_token, x4_value)) (fun r => (0 ≤ r.2.2.1.1 ∧ r.2.2.1.1 ≤ 20) ∧ (0 ≤ r.2.2.1.2.1 ∧ r.2.2.1.2.1 ≤ 8) ∧ (0 ≤ r.2.2.1.2.2.1 ∧ r.2.2.1.2.2.1 ≤ 7) ∧ (1 ≤ r.2.2.1.2.2.2.1 ∧ r.2.2.1.2.2.2.1 ≤ 30) ∧ (LnOk r.2.2.1.2.2.2.2.1) ∧ (GdOk r.2.2.1.2.2.2.2.2.1) ∧ (WkOk r.2.2.1.2.2.2.2.2.2.1) ∧ (AI 0 99 r.2.2.1.2.2.2.2.2.2.2.1) ∧ (AI 0 9 r.2.2.1.2.2.2.2.2.2.2.2.1) ∧ (0 ≤ r.2.2.2.1.1 ∧ r.2.2.2.1.1 ≤ 20) ∧ (0 ≤ r.2.2.2.1.2.1 ∧ r.2.2.2.1.2.1 ≤ 8) ∧ (0 ≤ r.2.2.2.1.2.2.1 ∧ r.2.2.2.1.2.2.1 ≤ 7) ∧ (1 ≤ r.2.2.2.1.2.2.2.1 ∧ r.2.2.2.1.2.2.2.1 ≤ 30) ∧ (LnOk r.2.2.2.1.2.2.2.2.1) ∧ (GdOk r.2.2.2.1.2.2.2.2.2.1) ∧ (WkOk r.2.2.2.1.2.2.2.2.2.2.1) ∧ (AI 0 99 r.2.2.2.1.2.2.2.2.2.2.2.1) ∧ (AI 0 9 r.2.2.2.1.2.2.2.2.2.2.2.2.1) ∧ (0 ≤ r.2.2.2.2.1 ∧ r.2.2.2.2.1 ≤ 250) ∧ (0 ≤ r.2.2.2.2.2.1 ∧ r.2.2.2.2.2.1 ≤ 250) ∧ (0 ≤ r.2.2.2.2.2.2.1 ∧ r.2.2.2.2.2.2.1 ≤ 250)) := by
  unfold fX6_land
  dsimp only [u11, u4, u6]
  refine Sf.bind (sX1_take h_x2_lines h_x2_goods h_x2_works h_x2_change h_x2_coin h_x3_lineCount h_x3_goodsCount h_x3_workCount h_x3_years h_x3_lines h_x3_goods h_x3_works h_x3_change h_x3_coin) ?_
  rintro ⟨g2, g3, g4, g5, g6, g7, g8, g9, g10, g11⟩ hr1
  obtain ⟨h_g2, h_g3, h_g4, h_g5, h_g6, h_g7, h_g8, h_g9, h_g10⟩ : (0 ≤ g2 ∧ g2 ≤ 20) ∧ (0 ≤ g3 ∧ g3 ≤ 8) ∧ (0 ≤ g4 ∧ g4 ≤ 7) ∧ (1 ≤ g5 ∧ g5 ≤ 30) ∧ (LnOk g6) ∧ (GdOk g7) ∧ (WkOk g8) ∧ (AI 0 99 g9) ∧ (AI 0 9 g10) := hr1
  dsimp only [u10]
  refine Sf.bind (sX3_readInto hn h_x4_size h_x4_start h_x4_end h_g2 h_g3 h_g4 h_g5 h_g6 h_g7 h_g8 h_g9 h_g10) ?_
  rintro ⟨v13, g14, g15, g16, g17, ⟨g19, g20, g21, g22, g23, g24, g25, g26, g27, g28⟩⟩ hr2
  obtain ⟨h_g14, h_g15, h_g19, h_g20, h_g21, h_g22, h_g23, h_g24, h_g25, h_g26, h_g27⟩ : (0 ≤ g14 ∧ g14 ≤ 250) ∧ (0 ≤ g15 ∧ g15 ≤ 250) ∧ (0 ≤ g19 ∧ g19 ≤ 20) ∧ (0 ≤ g20 ∧ g20 ≤ 8) ∧ (0 ≤ g21 ∧ g21 ≤ 7) ∧ (1 ≤ g22 ∧ g22 ≤ 30) ∧ (LnOk g23) ∧ (GdOk g24) ∧ (WkOk g25) ∧ (AI 0 99 g26) ∧ (AI 0 9 g27) := hr2
  dsimp only [u10, u6]
  refine Sf.ite (fun hc3 => ?_) (fun hc3 => ?_)
  · refine Sf.bind (sX1_take h_x3_lines h_x3_goods h_x3_works h_x3_change h_x3_coin h_g19 h_g20 h_g21 h_g22 h_g23 h_g24 h_g25 h_g26 h_g27) ?_
    rintro ⟨g31, g32, g33, g34, g35, g36, g37, g38, g39, g40⟩ hr4
    obtain ⟨h_g31, h_g32, h_g33, h_g34, h_g35, h_g36, h_g37, h_g38, h_g39⟩ : (0 ≤ g31 ∧ g31 ≤ 20) ∧ (0 ≤ g32 ∧ g32 ≤ 8) ∧ (0 ≤ g33 ∧ g33 ≤ 7) ∧ (1 ≤ g34 ∧ g34 ≤ 30) ∧ (LnOk g35) ∧ (GdOk g36) ∧ (WkOk g37) ∧ (AI 0 99 g38) ∧ (AI 0 9 g39) := hr4
    dsimp only [u10]
    exact Sf.ok (show (0 ≤ g19 ∧ g19 ≤ 20) ∧ (0 ≤ g20 ∧ g20 ≤ 8) ∧ (0 ≤ g21 ∧ g21 ≤ 7) ∧ (1 ≤ g22 ∧ g22 ≤ 30) ∧ (LnOk g23) ∧ (GdOk g24) ∧ (WkOk g25) ∧ (AI 0 99 g26) ∧ (AI 0 9 g27) ∧ (0 ≤ g31 ∧ g31 ≤ 20) ∧ (0 ≤ g32 ∧ g32 ≤ 8) ∧ (0 ≤ g33 ∧ g33 ≤ 7) ∧ (1 ≤ g34 ∧ g34 ≤ 30) ∧ (LnOk g35) ∧ (GdOk g36) ∧ (WkOk g37) ∧ (AI 0 99 g38) ∧ (AI 0 9 g39) ∧ (0 ≤ 0 ∧ 0 ≤ 250) ∧ (0 ≤ g14 ∧ g14 ≤ 250) ∧ (0 ≤ g15 ∧ g15 ≤ 250) from ⟨h_g19, h_g20, h_g21, h_g22, h_g23, h_g24, h_g25, h_g26, h_g27, h_g31, h_g32, h_g33, h_g34, h_g35, h_g36, h_g37, h_g38, h_g39, (by decide), h_g14, h_g15⟩)
  · refine Sf.bind (sX6_refuse ) ?_
    rintro ⟨v42, g43⟩ hr5
    dsimp only [u2]
    exact Sf.ok (show (0 ≤ g19 ∧ g19 ≤ 20) ∧ (0 ≤ g20 ∧ g20 ≤ 8) ∧ (0 ≤ g21 ∧ g21 ≤ 7) ∧ (1 ≤ g22 ∧ g22 ≤ 30) ∧ (LnOk g23) ∧ (GdOk g24) ∧ (WkOk g25) ∧ (AI 0 99 g26) ∧ (AI 0 9 g27) ∧ (0 ≤ x3_lineCount ∧ x3_lineCount ≤ 20) ∧ (0 ≤ x3_goodsCount ∧ x3_goodsCount ≤ 8) ∧ (0 ≤ x3_workCount ∧ x3_workCount ≤ 7) ∧ (1 ≤ x3_years ∧ x3_years ≤ 30) ∧ (LnOk x3_lines) ∧ (GdOk x3_goods) ∧ (WkOk x3_works) ∧ (AI 0 99 x3_change) ∧ (AI 0 9 x3_coin) ∧ (0 ≤ 0 ∧ 0 ≤ 250) ∧ (0 ≤ g14 ∧ g14 ≤ 250) ∧ (0 ≤ g15 ∧ g15 ≤ 250) from ⟨h_g19, h_g20, h_g21, h_g22, h_g23, h_g24, h_g25, h_g26, h_g27, h_x3_lineCount, h_x3_goodsCount, h_x3_workCount, h_x3_years, h_x3_lines, h_x3_goods, h_x3_works, h_x3_change, h_x3_coin, (by decide), h_g14, h_g15⟩)
set_option maxHeartbeats 1000000 in
theorem sX6_lineOf {x0_refused : (Nat → Int32)} {x0_isKept x0_gone x0_spent x1_lineCount x1_goodsCount x1_workCount x1_years : Int32} {x1_lines x1_goods x1_works x1_change x1_coin x1_knownFree : (Nat → Int32)} {x1_isKnown p1 p2 : Int32}  (h_x1_lineCount : (0 ≤ x1_lineCount ∧ x1_lineCount ≤ 20)) (h_x1_goodsCount : (0 ≤ x1_goodsCount ∧ x1_goodsCount ≤ 8)) (h_x1_workCount : (0 ≤ x1_workCount ∧ x1_workCount ≤ 7)) (h_x1_years : (1 ≤ x1_years ∧ x1_years ≤ 30)) (h_x1_lines : (LnOk x1_lines)) (h_x1_goods : (GdOk x1_goods)) (h_x1_works : (WkOk x1_works)) (h_x1_change : (AI 0 99 x1_change)) (h_x1_coin : (AI 0 9 x1_coin)) : Sf (fX6_lineOf (x0_refused, x0_isKept, x0_gone, x0_spent) (x1_lineCount, x1_goodsCount, x1_workCount, x1_years, x1_lines, x1_goods, x1_works, x1_change, x1_coin, x1_knownFree, x1_isKnown) p1 p2) (fun r => True) := by
  unfold fX6_lineOf
  dsimp only [u11, u4]
  refine Sf.bind (sX1_hasLine h_x1_lineCount h_x1_goodsCount h_x1_workCount h_x1_years h_x1_lines h_x1_goods h_x1_works h_x1_change h_x1_coin) ?_
  intro v1 hr1
  have hx_v1 : ((v1 = 1 ∧ 0 ≤ p1 ∧ p1 < x1_lineCount) ∨ (v1 = 0 ∧ ¬ (0 ≤ p1 ∧ p1 < x1_lineCount))) := hr1
  refine Sf.ite (fun hc2 => ?_) (fun hc2 => ?_)
  · refine Sf.bind (sX6_refuse ) ?_
    rintro ⟨v3, g4⟩ hr3
    dsimp only [u2]
    exact Sf.ok trivial
  · refine Sf.bind (sX6_within ) ?_
    intro v6 hr4
    have hx_v6 : ((v6 = 1 ∧ 0 ≤ p2 ∧ p2 ≤ 6) ∨ (v6 = 0 ∧ (p2 < 0 ∨ 6 < p2))) := hr4
    refine Sf.ite (fun hc5 => ?_) (fun hc5 => ?_)
    · refine Sf.bind (sX6_refuse ) ?_
      rintro ⟨v10, g11⟩ hr6
      dsimp only [u2]
      exact Sf.ok trivial
    · refine Sf.bind (sX1_ofLine h_x1_lines (by grind) (by grind)) ?_
      intro v8 hr7
      exact Sf.ok trivial
set_option maxHeartbeats 1000000 in
theorem sX6_goodsOf {x0_refused : (Nat → Int32)} {x0_isKept x0_gone x0_spent x1_lineCount x1_goodsCount x1_workCount x1_years : Int32} {x1_lines x1_goods x1_works x1_change x1_coin x1_knownFree : (Nat → Int32)} {x1_isKnown p1 p2 : Int32}  (h_x1_lineCount : (0 ≤ x1_lineCount ∧ x1_lineCount ≤ 20)) (h_x1_goodsCount : (0 ≤ x1_goodsCount ∧ x1_goodsCount ≤ 8)) (h_x1_workCount : (0 ≤ x1_workCount ∧ x1_workCount ≤ 7)) (h_x1_years : (1 ≤ x1_years ∧ x1_years ≤ 30)) (h_x1_lines : (LnOk x1_lines)) (h_x1_goods : (GdOk x1_goods)) (h_x1_works : (WkOk x1_works)) (h_x1_change : (AI 0 99 x1_change)) (h_x1_coin : (AI 0 9 x1_coin)) : Sf (fX6_goodsOf (x0_refused, x0_isKept, x0_gone, x0_spent) (x1_lineCount, x1_goodsCount, x1_workCount, x1_years, x1_lines, x1_goods, x1_works, x1_change, x1_coin, x1_knownFree, x1_isKnown) p1 p2) (fun r => True) := by
  unfold fX6_goodsOf
  dsimp only [u11, u4]
  refine Sf.bind (sX1_hasGoods h_x1_lineCount h_x1_goodsCount h_x1_workCount h_x1_years h_x1_lines h_x1_goods h_x1_works h_x1_change h_x1_coin) ?_
  intro v1 hr1
  have hx_v1 : ((v1 = 1 ∧ 0 ≤ p1 ∧ p1 < x1_goodsCount) ∨ (v1 = 0 ∧ ¬ (0 ≤ p1 ∧ p1 < x1_goodsCount))) := hr1
  refine Sf.ite (fun hc2 => ?_) (fun hc2 => ?_)
  · refine Sf.bind (sX6_refuse ) ?_
    rintro ⟨v3, g4⟩ hr3
    dsimp only [u2]
    exact Sf.ok trivial
  · refine Sf.bind (sX6_within ) ?_
    intro v6 hr4
    have hx_v6 : ((v6 = 1 ∧ 0 ≤ p2 ∧ p2 ≤ 2) ∨ (v6 = 0 ∧ (p2 < 0 ∨ 2 < p2))) := hr4
    refine Sf.ite (fun hc5 => ?_) (fun hc5 => ?_)
    · refine Sf.bind (sX6_refuse ) ?_
      rintro ⟨v10, g11⟩ hr6
      dsimp only [u2]
      exact Sf.ok trivial
    · refine Sf.bind (sX1_ofGoods h_x1_goods (by grind) (by grind)) ?_
      intro v8 hr7
      exact Sf.ok trivial
set_option maxHeartbeats 1000000 in
theorem sX6_workOf {x0_refused : (Nat → Int32)} {x0_isKept x0_gone x0_spent x1_lineCount x1_goodsCount x1_workCount x1_years : Int32} {x1_lines x1_goods x1_works x1_change x1_coin x1_knownFree : (Nat → Int32)} {x1_isKnown p1 p2 : Int32}  (h_x1_lineCount : (0 ≤ x1_lineCount ∧ x1_lineCount ≤ 20)) (h_x1_goodsCount : (0 ≤ x1_goodsCount ∧ x1_goodsCount ≤ 8)) (h_x1_workCount : (0 ≤ x1_workCount ∧ x1_workCount ≤ 7)) (h_x1_years : (1 ≤ x1_years ∧ x1_years ≤ 30)) (h_x1_lines : (LnOk x1_lines)) (h_x1_goods : (GdOk x1_goods)) (h_x1_works : (WkOk x1_works)) (h_x1_change : (AI 0 99 x1_change)) (h_x1_coin : (AI 0 9 x1_coin)) : Sf (fX6_workOf (x0_refused, x0_isKept, x0_gone, x0_spent) (x1_lineCount, x1_goodsCount, x1_workCount, x1_years, x1_lines, x1_goods, x1_works, x1_change, x1_coin, x1_knownFree, x1_isKnown) p1 p2) (fun r => True) := by
  unfold fX6_workOf
  dsimp only [u11, u4]
  refine Sf.bind (sX1_hasWork h_x1_lineCount h_x1_goodsCount h_x1_workCount h_x1_years h_x1_lines h_x1_goods h_x1_works h_x1_change h_x1_coin) ?_
  intro v1 hr1
  have hx_v1 : ((v1 = 1 ∧ 0 ≤ p1 ∧ p1 < x1_workCount) ∨ (v1 = 0 ∧ ¬ (0 ≤ p1 ∧ p1 < x1_workCount))) := hr1
  refine Sf.ite (fun hc2 => ?_) (fun hc2 => ?_)
  · refine Sf.bind (sX6_refuse ) ?_
    rintro ⟨v3, g4⟩ hr3
    dsimp only [u2]
    exact Sf.ok trivial
  · refine Sf.bind (sX6_within ) ?_
    intro v6 hr4
    have hx_v6 : ((v6 = 1 ∧ 0 ≤ p2 ∧ p2 ≤ 4) ∨ (v6 = 0 ∧ (p2 < 0 ∨ 4 < p2))) := hr4
    refine Sf.ite (fun hc5 => ?_) (fun hc5 => ?_)
    · refine Sf.bind (sX6_refuse ) ?_
      rintro ⟨v10, g11⟩ hr6
      dsimp only [u2]
      exact Sf.ok trivial
    · refine Sf.bind (sX1_ofWork h_x1_works (by grind) (by grind)) ?_
      intro v8 hr7
      exact Sf.ok trivial
set_option maxHeartbeats 1000000 in
theorem sX6_cheapest {n : Nat} {x0_refused : (Nat → Int32)} {x0_isKept x0_gone x0_spent x1_lineCount x1_goodsCount x1_workCount x1_years : Int32} {x1_lines x1_goods x1_works x1_change x1_coin x1_knownFree : (Nat → Int32)} {x1_isKnown : Int32} {x2_left x2_earned : (Nat → Int32)} {x2_turnCost x2_turnWayless : Int32} {x3_edgeA x3_edgeB x3_edgeCost x3_edgeLine x3_change x3_away x3_steps x3_nodes : (Nat → Int32)} {x3_stepCount : Int32} {x3_open : (Nat → Int32)} {x3_openCount : Int32} {x3_seen : Int64} {x3_edgeCount x3_aim p1 p2 : Int32} (hn : 1000000000000 ≤ n) (h_x1_lineCount : (0 ≤ x1_lineCount ∧ x1_lineCount ≤ 20)) (h_x1_goodsCount : (0 ≤ x1_goodsCount ∧ x1_goodsCount ≤ 8)) (h_x1_workCount : (0 ≤ x1_workCount ∧ x1_workCount ≤ 7)) (h_x1_years : (1 ≤ x1_years ∧ x1_years ≤ 30)) (h_x1_lines : (LnOk x1_lines)) (h_x1_goods : (GdOk x1_goods)) (h_x1_works : (WkOk x1_works)) (h_x1_change : (AI 0 99 x1_change)) (h_x1_coin : (AI 0 9 x1_coin)) (h_x3_edgeA : (AI 0 35 x3_edgeA)) (h_x3_edgeB : (AI 0 35 x3_edgeB)) (h_x3_edgeLine : (AI 0 19 x3_edgeLine)) (h_x3_steps : (AI 0 22 x3_steps)) (h_x3_nodes : (AI 0 35 x3_nodes)) (h_x3_stepCount : (0 ≤ x3_stepCount ∧ x3_stepCount ≤ 36)) (h_x3_open : (AI 0 35 x3_open)) (h_x3_openCount : (0 ≤ x3_openCount ∧ x3_openCount ≤ 36)) (h_x3_edgeCount : (0 ≤ x3_edgeCount ∧ x3_edgeCount ≤ 60)) : Sf (fX6_cheapest n (x0_refused, x0_isKept, x0_gone, x0_spent) (x1_lineCount, x1_goodsCount, x1_workCount, x1_years, x1_lines, x1_goods, x1_works, x1_change, x1_coin, x1_knownFree, x1_isKnown) (x2_left, x2_earned, x2_turnCost, x2_turnWayless) (x3_edgeA, x3_edgeB, x3_edgeCost, x3_edgeLine, x3_change, x3_away, x3_steps, x3_nodes, x3_stepCount, x3_open, x3_openCount, x3_seen, x3_edgeCount, x3_aim) p1 p2) (fun r => (AI 0 35 r.2.2.1) ∧ (AI 0 35 r.2.2.2.1) ∧ (AI 0 19 r.2.2.2.2.2.1) ∧ (0 ≤ r.2.2.2.2.2.2.2.2.1 ∧ r.2.2.2.2.2.2.2.2.1 ≤ 60)) := by
  unfold fX6_cheapest
  dsimp only [u11, u14, u4]
  refine Sf.bind (sX6_isPlace ) ?_
  intro v1 hr1
  have hx_v1 : ((v1 = 1 ∧ 0 ≤ p1 ∧ p1 ≤ 11) ∨ (v1 = 0 ∧ (p1 < 0 ∨ 11 < p1))) := hr1
  refine Sf.ite (fun hc2 => ?_) (fun hc2 => ?_)
  · refine Sf.bind (sX6_refuse ) ?_
    rintro ⟨v3, g4⟩ hr3
    dsimp only [u2]
    exact Sf.ok (show (AI 0 35 x3_edgeA) ∧ (AI 0 35 x3_edgeB) ∧ (AI 0 19 x3_edgeLine) ∧ (0 ≤ x3_edgeCount ∧ x3_edgeCount ≤ 60) from ⟨h_x3_edgeA, h_x3_edgeB, h_x3_edgeLine, h_x3_edgeCount⟩)
  · refine Sf.bind (sX6_isPlace ) ?_
    intro v6 hr4
    have hx_v6 : ((v6 = 1 ∧ 0 ≤ p2 ∧ p2 ≤ 11) ∨ (v6 = 0 ∧ (p2 < 0 ∨ 11 < p2))) := hr4
    refine Sf.ite (fun hc5 => ?_) (fun hc5 => ?_)
    · refine Sf.bind (sX6_refuse ) ?_
      rintro ⟨v22, g23⟩ hr6
      dsimp only [u2]
      exact Sf.ok (show (AI 0 35 x3_edgeA) ∧ (AI 0 35 x3_edgeB) ∧ (AI 0 19 x3_edgeLine) ∧ (0 ≤ x3_edgeCount ∧ x3_edgeCount ≤ 60) from ⟨h_x3_edgeA, h_x3_edgeB, h_x3_edgeLine, h_x3_edgeCount⟩)
    · refine Sf.ite (fun hc7 => ?_) (fun hc7 => ?_)
      · exact Sf.ok (show (AI 0 35 x3_edgeA) ∧ (AI 0 35 x3_edgeB) ∧ (AI 0 19 x3_edgeLine) ∧ (0 ≤ x3_edgeCount ∧ x3_edgeCount ≤ 60) from ⟨h_x3_edgeA, h_x3_edgeB, h_x3_edgeLine, h_x3_edgeCount⟩)
      · refine Sf.bind (sX4_costBetween hn h_x3_edgeA h_x3_edgeB h_x3_edgeLine h_x3_steps h_x3_nodes h_x3_stepCount h_x3_open h_x3_openCount h_x3_edgeCount h_x1_lineCount h_x1_goodsCount h_x1_workCount h_x1_years h_x1_lines h_x1_goods h_x1_works h_x1_change h_x1_coin (by grind) (by grind)) ?_
        rintro ⟨v8, ⟨g10, g11, g12, g13, g14, g15, g16, g17⟩⟩ hr8
        obtain ⟨h_g10, h_g11, h_g13, h_g16⟩ : (AI 0 35 g10) ∧ (AI 0 35 g11) ∧ (AI 0 19 g13) ∧ (0 ≤ g16 ∧ g16 ≤ 60) := hr8
        dsimp only [u2, u8]
        refine Sf.ite (fun hc9 => ?_) (fun hc9 => ?_)
        · refine Sf.bind (sX6_refuse ) ?_
          rintro ⟨v19, g20⟩ hr10
          dsimp only [u2]
          exact Sf.ok (show (AI 0 35 g10) ∧ (AI 0 35 g11) ∧ (AI 0 19 g13) ∧ (0 ≤ g16 ∧ g16 ≤ 60) from ⟨h_g10, h_g11, h_g13, h_g16⟩)
        · exact Sf.ok (show (AI 0 35 g10) ∧ (AI 0 35 g11) ∧ (AI 0 19 g13) ∧ (0 ≤ g16 ∧ g16 ≤ 60) from ⟨h_g10, h_g11, h_g13, h_g16⟩)
set_option maxHeartbeats 1000000 in
theorem sX6_way {n : Nat} {x0_refused : (Nat → Int32)} {x0_isKept x0_gone x0_spent x1_lineCount x1_goodsCount x1_workCount x1_years : Int32} {x1_lines x1_goods x1_works x1_change x1_coin x1_knownFree : (Nat → Int32)} {x1_isKnown : Int32} {x2_left x2_earned : (Nat → Int32)} {x2_turnCost x2_turnWayless : Int32} {x3_edgeA x3_edgeB x3_edgeCost x3_edgeLine x3_change x3_away x3_steps x3_nodes : (Nat → Int32)} {x3_stepCount : Int32} {x3_open : (Nat → Int32)} {x3_openCount : Int32} {x3_seen : Int64} {x3_edgeCount x3_aim p1 p2 : Int32} (hn : 1000000000000 ≤ n) (h_x1_lineCount : (0 ≤ x1_lineCount ∧ x1_lineCount ≤ 20)) (h_x1_goodsCount : (0 ≤ x1_goodsCount ∧ x1_goodsCount ≤ 8)) (h_x1_workCount : (0 ≤ x1_workCount ∧ x1_workCount ≤ 7)) (h_x1_years : (1 ≤ x1_years ∧ x1_years ≤ 30)) (h_x1_lines : (LnOk x1_lines)) (h_x1_goods : (GdOk x1_goods)) (h_x1_works : (WkOk x1_works)) (h_x1_change : (AI 0 99 x1_change)) (h_x1_coin : (AI 0 9 x1_coin)) (h_x3_edgeA : (AI 0 35 x3_edgeA)) (h_x3_edgeB : (AI 0 35 x3_edgeB)) (h_x3_edgeLine : (AI 0 19 x3_edgeLine)) (h_x3_steps : (AI 0 22 x3_steps)) (h_x3_nodes : (AI 0 35 x3_nodes)) (h_x3_stepCount : (0 ≤ x3_stepCount ∧ x3_stepCount ≤ 36)) (h_x3_open : (AI 0 35 x3_open)) (h_x3_openCount : (0 ≤ x3_openCount ∧ x3_openCount ≤ 36)) (h_x3_edgeCount : (0 ≤ x3_edgeCount ∧ x3_edgeCount ≤ 60)) : Sf (fX6_way n (x0_refused, x0_isKept, x0_gone, x0_spent) (x1_lineCount, x1_goodsCount, x1_workCount, x1_years, x1_lines, x1_goods, x1_works, x1_change, x1_coin, x1_knownFree, x1_isKnown) (x2_left, x2_earned, x2_turnCost, x2_turnWayless) (x3_edgeA, x3_edgeB, x3_edgeCost, x3_edgeLine, x3_change, x3_away, x3_steps, x3_nodes, x3_stepCount, x3_open, x3_openCount, x3_seen, x3_edgeCount, x3_aim) p1 p2) (fun r => (AI 0 35 r.2.2.1) ∧ (AI 0 35 r.2.2.2.1) ∧ (AI 0 19 r.2.2.2.2.2.1) ∧ (AI 0 22 r.2.2.2.2.2.2.2.2.1) ∧ (AI 0 35 r.2.2.2.2.2.2.2.2.2.1) ∧ (0 ≤ r.2.2.2.2.2.2.2.2.2.2.1 ∧ r.2.2.2.2.2.2.2.2.2.2.1 ≤ 36) ∧ (AI 0 35 r.2.2.2.2.2.2.2.2.2.2.2.1) ∧ (0 ≤ r.2.2.2.2.2.2.2.2.2.2.2.2.1 ∧ r.2.2.2.2.2.2.2.2.2.2.2.2.1 ≤ 36) ∧ (0 ≤ r.2.2.2.2.2.2.2.2.2.2.2.2.2.2.1 ∧ r.2.2.2.2.2.2.2.2.2.2.2.2.2.2.1 ≤ 60)) := by
  unfold fX6_way
  dsimp only [u11, u14, u4]
  refine Sf.bind (sX6_within ) ?_
  intro v1 hr1
  have hx_v1 : ((v1 = 1 ∧ 10 ≤ p2 ∧ p2 ≤ 46) ∨ (v1 = 0 ∧ (p2 < 10 ∨ 46 < p2))) := hr1
  refine Sf.bind (sX1_hasGoods h_x1_lineCount h_x1_goodsCount h_x1_workCount h_x1_years h_x1_lines h_x1_goods h_x1_works h_x1_change h_x1_coin) ?_
  intro v3 hr2
  have hx_v3 : ((v3 = 1 ∧ 0 ≤ p1 ∧ p1 < x1_goodsCount) ∨ (v3 = 0 ∧ ¬ (0 ≤ p1 ∧ p1 < x1_goodsCount))) := hr2
  refine Sf.ite (fun hc3 => ?_) (fun hc3 => ?_)
  · refine Sf.bind (sX6_refuse ) ?_
    rintro ⟨v5, g6⟩ hr4
    dsimp only [u2]
    exact Sf.ok (show (AI 0 35 x3_edgeA) ∧ (AI 0 35 x3_edgeB) ∧ (AI 0 19 x3_edgeLine) ∧ (AI 0 22 x3_steps) ∧ (AI 0 35 x3_nodes) ∧ (0 ≤ x3_stepCount ∧ x3_stepCount ≤ 36) ∧ (AI 0 35 x3_open) ∧ (0 ≤ x3_openCount ∧ x3_openCount ≤ 36) ∧ (0 ≤ x3_edgeCount ∧ x3_edgeCount ≤ 60) from ⟨h_x3_edgeA, h_x3_edgeB, h_x3_edgeLine, h_x3_steps, h_x3_nodes, h_x3_stepCount, h_x3_open, h_x3_openCount, h_x3_edgeCount⟩)
  · refine Sf.bind (sX6_within ) ?_
    intro v8 hr5
    have hx_v8 : ((v8 = 1 ∧ 0 ≤ p2 ∧ p2 ≤ 3) ∨ (v8 = 0 ∧ (p2 < 0 ∨ 3 < p2))) := hr5
    refine Sf.ite (fun hc6 => ?_) (fun hc6 => ?_)
    · refine Sf.ite (fun hc7 => ?_) (fun hc7 => ?_)
      · refine Sf.bind (sX6_refuse ) ?_
        rintro ⟨v52, g53⟩ hr8
        dsimp only [u2]
        exact Sf.ok (show (AI 0 35 x3_edgeA) ∧ (AI 0 35 x3_edgeB) ∧ (AI 0 19 x3_edgeLine) ∧ (AI 0 22 x3_steps) ∧ (AI 0 35 x3_nodes) ∧ (0 ≤ x3_stepCount ∧ x3_stepCount ≤ 36) ∧ (AI 0 35 x3_open) ∧ (0 ≤ x3_openCount ∧ x3_openCount ≤ 36) ∧ (0 ≤ x3_edgeCount ∧ x3_edgeCount ≤ 60) from ⟨h_x3_edgeA, h_x3_edgeB, h_x3_edgeLine, h_x3_steps, h_x3_nodes, h_x3_stepCount, h_x3_open, h_x3_openCount, h_x3_edgeCount⟩)
      · unfold fX6_way_j40
        refine Sf.bind (sX1_linesThere hn h_x1_lineCount h_x1_goodsCount h_x1_workCount h_x1_years h_x1_lines h_x1_goods h_x1_works h_x1_change h_x1_coin) ?_
        intro v10 hr9
        refine Sf.bind (sX5_prepare hn h_x3_edgeA h_x3_edgeB h_x3_edgeLine h_x3_steps h_x3_nodes h_x3_stepCount h_x3_open h_x3_openCount h_x3_edgeCount h_x1_lineCount h_x1_goodsCount h_x1_workCount h_x1_years h_x1_lines h_x1_goods h_x1_works h_x1_change h_x1_coin) ?_
        rintro ⟨g13, g14, g15, g16, g17, g18, g19⟩ hr10
        obtain ⟨h_g13, h_g14, h_g16, h_g18⟩ : (AI 0 35 g13) ∧ (AI 0 35 g14) ∧ (AI 0 19 g16) ∧ (0 ≤ g18 ∧ g18 ≤ 60) := hr10
        dsimp only [u7]
        refine Sf.bind (s_ofGoods h_x1_goods (by grind) (by decide)) ?_
        intro v21 hr11
        obtain ⟨h_v21, e_v21⟩ : (0 ≤ v21 ∧ v21 ≤ 11) ∧ v21 = x1_goods (p1.toNatClampNeg * 3 + 0) := hr11
        clear e_v21
        refine Sf.bind (s_ofGoods h_x1_goods (by grind) (by decide)) ?_
        intro v23 hr12
        obtain ⟨h_v23, e_v23⟩ : (0 ≤ v23 ∧ v23 ≤ 11) ∧ v23 = x1_goods (p1.toNatClampNeg * 3 + 1) := hr12
        clear e_v23
        refine Sf.bind (sX5_trace hn h_g13 h_g14 h_g16 h_x3_steps h_x3_nodes h_x3_stepCount h_x3_open h_x3_openCount h_g18 h_v21 h_v23) ?_
        rintro ⟨v25, ⟨g27, g28, g29, g30, g31, g32, g33, g34⟩⟩ hr13
        obtain ⟨h_g28, h_g29, h_g30, h_g31, h_g32⟩ : (AI 0 22 g28) ∧ (AI 0 35 g29) ∧ (0 ≤ g30 ∧ g30 ≤ 36) ∧ (AI 0 35 g31) ∧ (0 ≤ g32 ∧ g32 ≤ 36) := hr13
        dsimp only [u2, u8]
        refine Sf.ite (fun hc14 => ?_) (fun hc14 => ?_)
        · refine Sf.bind (sX6_refuse ) ?_
          rintro ⟨v49, g50⟩ hr15
          dsimp only [u2]
          exact Sf.ok (show (AI 0 35 g13) ∧ (AI 0 35 g14) ∧ (AI 0 19 g16) ∧ (AI 0 22 g28) ∧ (AI 0 35 g29) ∧ (0 ≤ g30 ∧ g30 ≤ 36) ∧ (AI 0 35 g31) ∧ (0 ≤ g32 ∧ g32 ≤ 36) ∧ (0 ≤ g18 ∧ g18 ≤ 60) from ⟨h_g13, h_g14, h_g16, h_g28, h_g29, h_g30, h_g31, h_g32, h_g18⟩)
        · refine Sf.ite (fun hc16 => ?_) (fun hc16 => ?_)
          · refine Sf.ite (fun hc17 => ?_) (fun hc17 => ?_)
            · refine Sf.bind (sX5_linesOnWay hn h_g13 h_g14 h_g16 h_g28 h_g29 h_g30 h_g31 h_g32 h_g18) ?_
              intro v36 hr18
              exact Sf.ok (show (AI 0 35 g13) ∧ (AI 0 35 g14) ∧ (AI 0 19 g16) ∧ (AI 0 22 g28) ∧ (AI 0 35 g29) ∧ (0 ≤ g30 ∧ g30 ≤ 36) ∧ (AI 0 35 g31) ∧ (0 ≤ g32 ∧ g32 ≤ 36) ∧ (0 ≤ g18 ∧ g18 ≤ 60) from ⟨h_g13, h_g14, h_g16, h_g28, h_g29, h_g30, h_g31, h_g32, h_g18⟩)
            · refine Sf.ite (fun hc19 => ?_) (fun hc19 => ?_)
              · refine Sf.bind (sX5_changesOnWay hn h_g13 h_g14 h_g16 h_g28 h_g29 h_g30 h_g31 h_g32 h_g18) ?_
                intro v38 hr20
                exact Sf.ok (show (AI 0 35 g13) ∧ (AI 0 35 g14) ∧ (AI 0 19 g16) ∧ (AI 0 22 g28) ∧ (AI 0 35 g29) ∧ (0 ≤ g30 ∧ g30 ≤ 36) ∧ (AI 0 35 g31) ∧ (0 ≤ g32 ∧ g32 ≤ 36) ∧ (0 ≤ g18 ∧ g18 ≤ 60) from ⟨h_g13, h_g14, h_g16, h_g28, h_g29, h_g30, h_g31, h_g32, h_g18⟩)
              · refine Sf.ite (fun hc21 => ?_) (fun hc21 => ?_)
                · refine Sf.bind (sX5_widthAfter h_g13 h_g14 h_g16 h_g28 h_g29 h_g30 h_g31 h_g32 h_g18) ?_
                  intro v40 hr22
                  exact Sf.ok (show (AI 0 35 g13) ∧ (AI 0 35 g14) ∧ (AI 0 19 g16) ∧ (AI 0 22 g28) ∧ (AI 0 35 g29) ∧ (0 ≤ g30 ∧ g30 ≤ 36) ∧ (AI 0 35 g31) ∧ (0 ≤ g32 ∧ g32 ≤ 36) ∧ (0 ≤ g18 ∧ g18 ≤ 60) from ⟨h_g13, h_g14, h_g16, h_g28, h_g29, h_g30, h_g31, h_g32, h_g18⟩)
                · refine Sf.bind (sX5_widthAfter h_g13 h_g14 h_g16 h_g28 h_g29 h_g30 h_g31 h_g32 h_g18) ?_
                  intro v42 hr23
                  exact Sf.ok (show (AI 0 35 g13) ∧ (AI 0 35 g14) ∧ (AI 0 19 g16) ∧ (AI 0 22 g28) ∧ (AI 0 35 g29) ∧ (0 ≤ g30 ∧ g30 ≤ 36) ∧ (AI 0 35 g31) ∧ (0 ≤ g32 ∧ g32 ≤ 36) ∧ (0 ≤ g18 ∧ g18 ≤ 60) from ⟨h_g13, h_g14, h_g16, h_g28, h_g29, h_g30, h_g31, h_g32, h_g18⟩)
          · refine Sf.bind (sX5_lineAt hn h_g13 h_g14 h_g16 h_g28 h_g29 h_g30 h_g31 h_g32 h_g18) ?_
            intro v44 hr24
            refine Sf.ite (fun hc25 => ?_) (fun hc25 => ?_)
            · refine Sf.bind (sX6_refuse ) ?_
              rintro ⟨v46, g47⟩ hr26
              dsimp only [u2]
              exact Sf.ok (show (AI 0 35 g13) ∧ (AI 0 35 g14) ∧ (AI 0 19 g16) ∧ (AI 0 22 g28) ∧ (AI 0 35 g29) ∧ (0 ≤ g30 ∧ g30 ≤ 36) ∧ (AI 0 35 g31) ∧ (0 ≤ g32 ∧ g32 ≤ 36) ∧ (0 ≤ g18 ∧ g18 ≤ 60) from ⟨h_g13, h_g14, h_g16, h_g28, h_g29, h_g30, h_g31, h_g32, h_g18⟩)
            · exact Sf.ok (show (AI 0 35 g13) ∧ (AI 0 35 g14) ∧ (AI 0 19 g16) ∧ (AI 0 22 g28) ∧ (AI 0 35 g29) ∧ (0 ≤ g30 ∧ g30 ≤ 36) ∧ (AI 0 35 g31) ∧ (0 ≤ g32 ∧ g32 ≤ 36) ∧ (0 ≤ g18 ∧ g18 ≤ 60) from ⟨h_g13, h_g14, h_g16, h_g28, h_g29, h_g30, h_g31, h_g32, h_g18⟩)
    · unfold fX6_way_j40
      refine Sf.bind (sX1_linesThere hn h_x1_lineCount h_x1_goodsCount h_x1_workCount h_x1_years h_x1_lines h_x1_goods h_x1_works h_x1_change h_x1_coin) ?_
      intro v10 hr27
      refine Sf.bind (sX5_prepare hn h_x3_edgeA h_x3_edgeB h_x3_edgeLine h_x3_steps h_x3_nodes h_x3_stepCount h_x3_open h_x3_openCount h_x3_edgeCount h_x1_lineCount h_x1_goodsCount h_x1_workCount h_x1_years h_x1_lines h_x1_goods h_x1_works h_x1_change h_x1_coin) ?_
      rintro ⟨g13, g14, g15, g16, g17, g18, g19⟩ hr28
      obtain ⟨h_g13, h_g14, h_g16, h_g18⟩ : (AI 0 35 g13) ∧ (AI 0 35 g14) ∧ (AI 0 19 g16) ∧ (0 ≤ g18 ∧ g18 ≤ 60) := hr28
      dsimp only [u7]
      refine Sf.bind (s_ofGoods h_x1_goods (by grind) (by decide)) ?_
      intro v21 hr29
      obtain ⟨h_v21, e_v21⟩ : (0 ≤ v21 ∧ v21 ≤ 11) ∧ v21 = x1_goods (p1.toNatClampNeg * 3 + 0) := hr29
      clear e_v21
      refine Sf.bind (s_ofGoods h_x1_goods (by grind) (by decide)) ?_
      intro v23 hr30
      obtain ⟨h_v23, e_v23⟩ : (0 ≤ v23 ∧ v23 ≤ 11) ∧ v23 = x1_goods (p1.toNatClampNeg * 3 + 1) := hr30
      clear e_v23
      refine Sf.bind (sX5_trace hn h_g13 h_g14 h_g16 h_x3_steps h_x3_nodes h_x3_stepCount h_x3_open h_x3_openCount h_g18 h_v21 h_v23) ?_
      rintro ⟨v25, ⟨g27, g28, g29, g30, g31, g32, g33, g34⟩⟩ hr31
      obtain ⟨h_g28, h_g29, h_g30, h_g31, h_g32⟩ : (AI 0 22 g28) ∧ (AI 0 35 g29) ∧ (0 ≤ g30 ∧ g30 ≤ 36) ∧ (AI 0 35 g31) ∧ (0 ≤ g32 ∧ g32 ≤ 36) := hr31
      dsimp only [u2, u8]
      refine Sf.ite (fun hc32 => ?_) (fun hc32 => ?_)
      · refine Sf.bind (sX6_refuse ) ?_
        rintro ⟨v49, g50⟩ hr33
        dsimp only [u2]
        exact Sf.ok (show (AI 0 35 g13) ∧ (AI 0 35 g14) ∧ (AI 0 19 g16) ∧ (AI 0 22 g28) ∧ (AI 0 35 g29) ∧ (0 ≤ g30 ∧ g30 ≤ 36) ∧ (AI 0 35 g31) ∧ (0 ≤ g32 ∧ g32 ≤ 36) ∧ (0 ≤ g18 ∧ g18 ≤ 60) from ⟨h_g13, h_g14, h_g16, h_g28, h_g29, h_g30, h_g31, h_g32, h_g18⟩)
      · refine Sf.ite (fun hc34 => ?_) (fun hc34 => ?_)
        · refine Sf.ite (fun hc35 => ?_) (fun hc35 => ?_)
          · refine Sf.bind (sX5_linesOnWay hn h_g13 h_g14 h_g16 h_g28 h_g29 h_g30 h_g31 h_g32 h_g18) ?_
            intro v36 hr36
            exact Sf.ok (show (AI 0 35 g13) ∧ (AI 0 35 g14) ∧ (AI 0 19 g16) ∧ (AI 0 22 g28) ∧ (AI 0 35 g29) ∧ (0 ≤ g30 ∧ g30 ≤ 36) ∧ (AI 0 35 g31) ∧ (0 ≤ g32 ∧ g32 ≤ 36) ∧ (0 ≤ g18 ∧ g18 ≤ 60) from ⟨h_g13, h_g14, h_g16, h_g28, h_g29, h_g30, h_g31, h_g32, h_g18⟩)
          · refine Sf.ite (fun hc37 => ?_) (fun hc37 => ?_)
            · refine Sf.bind (sX5_changesOnWay hn h_g13 h_g14 h_g16 h_g28 h_g29 h_g30 h_g31 h_g32 h_g18) ?_
              intro v38 hr38
              exact Sf.ok (show (AI 0 35 g13) ∧ (AI 0 35 g14) ∧ (AI 0 19 g16) ∧ (AI 0 22 g28) ∧ (AI 0 35 g29) ∧ (0 ≤ g30 ∧ g30 ≤ 36) ∧ (AI 0 35 g31) ∧ (0 ≤ g32 ∧ g32 ≤ 36) ∧ (0 ≤ g18 ∧ g18 ≤ 60) from ⟨h_g13, h_g14, h_g16, h_g28, h_g29, h_g30, h_g31, h_g32, h_g18⟩)
            · refine Sf.ite (fun hc39 => ?_) (fun hc39 => ?_)
              · refine Sf.bind (sX5_widthAfter h_g13 h_g14 h_g16 h_g28 h_g29 h_g30 h_g31 h_g32 h_g18) ?_
                intro v40 hr40
                exact Sf.ok (show (AI 0 35 g13) ∧ (AI 0 35 g14) ∧ (AI 0 19 g16) ∧ (AI 0 22 g28) ∧ (AI 0 35 g29) ∧ (0 ≤ g30 ∧ g30 ≤ 36) ∧ (AI 0 35 g31) ∧ (0 ≤ g32 ∧ g32 ≤ 36) ∧ (0 ≤ g18 ∧ g18 ≤ 60) from ⟨h_g13, h_g14, h_g16, h_g28, h_g29, h_g30, h_g31, h_g32, h_g18⟩)
              · refine Sf.bind (sX5_widthAfter h_g13 h_g14 h_g16 h_g28 h_g29 h_g30 h_g31 h_g32 h_g18) ?_
                intro v42 hr41
                exact Sf.ok (show (AI 0 35 g13) ∧ (AI 0 35 g14) ∧ (AI 0 19 g16) ∧ (AI 0 22 g28) ∧ (AI 0 35 g29) ∧ (0 ≤ g30 ∧ g30 ≤ 36) ∧ (AI 0 35 g31) ∧ (0 ≤ g32 ∧ g32 ≤ 36) ∧ (0 ≤ g18 ∧ g18 ≤ 60) from ⟨h_g13, h_g14, h_g16, h_g28, h_g29, h_g30, h_g31, h_g32, h_g18⟩)
        · refine Sf.bind (sX5_lineAt hn h_g13 h_g14 h_g16 h_g28 h_g29 h_g30 h_g31 h_g32 h_g18) ?_
          intro v44 hr42
          refine Sf.ite (fun hc43 => ?_) (fun hc43 => ?_)
          · refine Sf.bind (sX6_refuse ) ?_
            rintro ⟨v46, g47⟩ hr44
            dsimp only [u2]
            exact Sf.ok (show (AI 0 35 g13) ∧ (AI 0 35 g14) ∧ (AI 0 19 g16) ∧ (AI 0 22 g28) ∧ (AI 0 35 g29) ∧ (0 ≤ g30 ∧ g30 ≤ 36) ∧ (AI 0 35 g31) ∧ (0 ≤ g32 ∧ g32 ≤ 36) ∧ (0 ≤ g18 ∧ g18 ≤ 60) from ⟨h_g13, h_g14, h_g16, h_g28, h_g29, h_g30, h_g31, h_g32, h_g18⟩)
          · exact Sf.ok (show (AI 0 35 g13) ∧ (AI 0 35 g14) ∧ (AI 0 19 g16) ∧ (AI 0 22 g28) ∧ (AI 0 35 g29) ∧ (0 ≤ g30 ∧ g30 ≤ 36) ∧ (AI 0 35 g31) ∧ (0 ≤ g32 ∧ g32 ≤ 36) ∧ (0 ≤ g18 ∧ g18 ≤ 60) from ⟨h_g13, h_g14, h_g16, h_g28, h_g29, h_g30, h_g31, h_g32, h_g18⟩)
set_option maxHeartbeats 1000000 in
theorem sX6_free {n : Nat} {x0_refused : (Nat → Int32)} {x0_isKept x0_gone x0_spent : Int32} {x1_gained : (Nat → Int32)} {x2_lineCount x2_goodsCount x2_workCount x2_years : Int32} {x2_lines x2_goods x2_works x2_change x2_coin x2_knownFree : (Nat → Int32)} {x2_isKnown x3_lineCount x3_goodsCount x3_workCount x3_years : Int32} {x3_lines x3_goods x3_works x3_change x3_coin x3_knownFree : (Nat → Int32)} {x3_isKnown : Int32} {x4_left x4_earned : (Nat → Int32)} {x4_turnCost x4_turnWayless : Int32} {x5_edgeA x5_edgeB x5_edgeCost x5_edgeLine x5_change x5_away x5_steps x5_nodes : (Nat → Int32)} {x5_stepCount : Int32} {x5_open : (Nat → Int32)} {x5_openCount : Int32} {x5_seen : Int64} {x5_edgeCount x5_aim : Int32} (hn : 1000000000000 ≤ n) (h_x2_lineCount : (0 ≤ x2_lineCount ∧ x2_lineCount ≤ 20)) (h_x2_goodsCount : (0 ≤ x2_goodsCount ∧ x2_goodsCount ≤ 8)) (h_x2_workCount : (0 ≤ x2_workCount ∧ x2_workCount ≤ 7)) (h_x2_years : (1 ≤ x2_years ∧ x2_years ≤ 30)) (h_x2_lines : (LnOk x2_lines)) (h_x2_goods : (GdOk x2_goods)) (h_x2_works : (WkOk x2_works)) (h_x2_change : (AI 0 99 x2_change)) (h_x2_coin : (AI 0 9 x2_coin)) (h_x3_lineCount : (0 ≤ x3_lineCount ∧ x3_lineCount ≤ 20)) (h_x3_goodsCount : (0 ≤ x3_goodsCount ∧ x3_goodsCount ≤ 8)) (h_x3_workCount : (0 ≤ x3_workCount ∧ x3_workCount ≤ 7)) (h_x3_years : (1 ≤ x3_years ∧ x3_years ≤ 30)) (h_x3_lines : (LnOk x3_lines)) (h_x3_goods : (GdOk x3_goods)) (h_x3_works : (WkOk x3_works)) (h_x3_change : (AI 0 99 x3_change)) (h_x3_coin : (AI 0 9 x3_coin)) (h_x5_edgeA : (AI 0 35 x5_edgeA)) (h_x5_edgeB : (AI 0 35 x5_edgeB)) (h_x5_edgeLine : (AI 0 19 x5_edgeLine)) (h_x5_steps : (AI 0 22 x5_steps)) (h_x5_nodes : (AI 0 35 x5_nodes)) (h_x5_stepCount : (0 ≤ x5_stepCount ∧ x5_stepCount ≤ 36)) (h_x5_open : (AI 0 35 x5_open)) (h_x5_openCount : (0 ≤ x5_openCount ∧ x5_openCount ≤ 36)) (h_x5_edgeCount : (0 ≤ x5_edgeCount ∧ x5_edgeCount ≤ 60)) : Sf (fX6_free n (x0_refused, x0_isKept, x0_gone, x0_spent) x1_gained (x2_lineCount, x2_goodsCount, x2_workCount, x2_years, x2_lines, x2_goods, x2_works, x2_change, x2_coin, x2_knownFree, x2_isKnown) (x3_lineCount, x3_goodsCount, x3_workCount, x3_years, x3_lines, x3_goods, x3_works, x3_change, x3_coin, x3_knownFree, x3_isKnown) (x4_left, x4_earned, x4_turnCost, x4_turnWayless) (x5_edgeA, x5_edgeB, x5_edgeCost, x5_edgeLine, x5_change, x5_away, x5_steps, x5_nodes, x5_stepCount, x5_open, x5_openCount, x5_seen, x5_edgeCount, x5_aim)) (fun r => (0 ≤ r.2.1.1 ∧ r.2.1.1 ≤ 20) ∧ (0 ≤ r.2.1.2.1 ∧ r.2.1.2.1 ≤ 8) ∧ (0 ≤ r.2.1.2.2.1 ∧ r.2.1.2.2.1 ≤ 7) ∧ (1 ≤ r.2.1.2.2.2.1 ∧ r.2.1.2.2.2.1 ≤ 30) ∧ (LnOk r.2.1.2.2.2.2.1) ∧ (GdOk r.2.1.2.2.2.2.2.1) ∧ (WkOk r.2.1.2.2.2.2.2.2.1) ∧ (AI 0 99 r.2.1.2.2.2.2.2.2.2.1) ∧ (AI 0 9 r.2.1.2.2.2.2.2.2.2.2.1) ∧ (0 ≤ r.2.2.1.1 ∧ r.2.2.1.1 ≤ 20) ∧ (LnOk r.2.2.1.2.1) ∧ (AI 0 99 r.2.2.1.2.2.1) ∧ (AI 0 35 r.2.2.2.1) ∧ (AI 0 35 r.2.2.2.2.1) ∧ (AI 0 19 r.2.2.2.2.2.2.1) ∧ (0 ≤ r.2.2.2.2.2.2.2.2.2.1 ∧ r.2.2.2.2.2.2.2.2.2.1 ≤ 60)) := by
  unfold fX6_free
  dsimp only [u11, u14, u4]
  refine Sf.bind (sX0_freeWith hn h_x5_edgeA h_x5_edgeB h_x5_edgeLine h_x5_steps h_x5_nodes h_x5_stepCount h_x5_open h_x5_openCount h_x5_edgeCount h_x2_lineCount h_x2_goodsCount h_x2_workCount h_x2_years h_x2_lines h_x2_goods h_x2_works h_x2_change h_x2_coin h_x3_lineCount h_x3_goodsCount h_x3_workCount h_x3_years h_x3_lines h_x3_goods h_x3_works h_x3_change h_x3_coin) ?_
  rintro ⟨v1, ⟨g3, g4, g5, g6, g7, g8, g9, g10⟩, ⟨g12, g13, g14, g15, g16, g17, g18, g19, g20, g21⟩, ⟨g23, g24, g25, g26, g27⟩⟩ hr1
  obtain ⟨h_g3, h_g4, h_g6, h_g9, h_g12, h_g13, h_g14, h_g15, h_g16, h_g17, h_g18, h_g19, h_g20, h_g23, h_g24, h_g25⟩ : (AI 0 35 g3) ∧ (AI 0 35 g4) ∧ (AI 0 19 g6) ∧ (0 ≤ g9 ∧ g9 ≤ 60) ∧ (0 ≤ g12 ∧ g12 ≤ 20) ∧ (0 ≤ g13 ∧ g13 ≤ 8) ∧ (0 ≤ g14 ∧ g14 ≤ 7) ∧ (1 ≤ g15 ∧ g15 ≤ 30) ∧ (LnOk g16) ∧ (GdOk g17) ∧ (WkOk g18) ∧ (AI 0 99 g19) ∧ (AI 0 9 g20) ∧ (0 ≤ g23 ∧ g23 ≤ 20) ∧ (LnOk g24) ∧ (AI 0 99 g25) := hr1
  dsimp only [u10, u4, u5, u8]
  exact Sf.ok (show (0 ≤ g12 ∧ g12 ≤ 20) ∧ (0 ≤ g13 ∧ g13 ≤ 8) ∧ (0 ≤ g14 ∧ g14 ≤ 7) ∧ (1 ≤ g15 ∧ g15 ≤ 30) ∧ (LnOk g16) ∧ (GdOk g17) ∧ (WkOk g18) ∧ (AI 0 99 g19) ∧ (AI 0 9 g20) ∧ (0 ≤ g23 ∧ g23 ≤ 20) ∧ (LnOk g24) ∧ (AI 0 99 g25) ∧ (AI 0 35 g3) ∧ (AI 0 35 g4) ∧ (AI 0 19 g6) ∧ (0 ≤ g9 ∧ g9 ≤ 60) from ⟨h_g12, h_g13, h_g14, h_g15, h_g16, h_g17, h_g18, h_g19, h_g20, h_g23, h_g24, h_g25, h_g3, h_g4, h_g6, h_g9⟩)
set_option maxHeartbeats 1000000 in
theorem sX6_turn {n : Nat} {x0_refused : (Nat → Int32)} {x0_isKept x0_gone x0_spent x1_lineCount x1_goodsCount x1_workCount x1_years : Int32} {x1_lines x1_goods x1_works x1_change x1_coin x1_knownFree : (Nat → Int32)} {x1_isKnown : Int32} {x2_left x2_earned : (Nat → Int32)} {x2_turnCost x2_turnWayless : Int32} {x3_edgeA x3_edgeB x3_edgeCost x3_edgeLine x3_change x3_away x3_steps x3_nodes : (Nat → Int32)} {x3_stepCount : Int32} {x3_open : (Nat → Int32)} {x3_openCount : Int32} {x3_seen : Int64} {x3_edgeCount x3_aim p1 : Int32} (hn : 1000000000000 ≤ n) (h_x1_lineCount : (0 ≤ x1_lineCount ∧ x1_lineCount ≤ 20)) (h_x1_goodsCount : (0 ≤ x1_goodsCount ∧ x1_goodsCount ≤ 8)) (h_x1_workCount : (0 ≤ x1_workCount ∧ x1_workCount ≤ 7)) (h_x1_years : (1 ≤ x1_years ∧ x1_years ≤ 30)) (h_x1_lines : (LnOk x1_lines)) (h_x1_goods : (GdOk x1_goods)) (h_x1_works : (WkOk x1_works)) (h_x1_change : (AI 0 99 x1_change)) (h_x1_coin : (AI 0 9 x1_coin)) (h_x3_edgeA : (AI 0 35 x3_edgeA)) (h_x3_edgeB : (AI 0 35 x3_edgeB)) (h_x3_edgeLine : (AI 0 19 x3_edgeLine)) (h_x3_steps : (AI 0 22 x3_steps)) (h_x3_nodes : (AI 0 35 x3_nodes)) (h_x3_stepCount : (0 ≤ x3_stepCount ∧ x3_stepCount ≤ 36)) (h_x3_open : (AI 0 35 x3_open)) (h_x3_openCount : (0 ≤ x3_openCount ∧ x3_openCount ≤ 36)) (h_x3_edgeCount : (0 ≤ x3_edgeCount ∧ x3_edgeCount ≤ 60)) : Sf (fX6_turn n (x0_refused, x0_isKept, x0_gone, x0_spent) (x1_lineCount, x1_goodsCount, x1_workCount, x1_years, x1_lines, x1_goods, x1_works, x1_change, x1_coin, x1_knownFree, x1_isKnown) (x2_left, x2_earned, x2_turnCost, x2_turnWayless) (x3_edgeA, x3_edgeB, x3_edgeCost, x3_edgeLine, x3_change, x3_away, x3_steps, x3_nodes, x3_stepCount, x3_open, x3_openCount, x3_seen, x3_edgeCount, x3_aim) p1) (fun r => (AI 0 35 r.2.2.2.2.2.1) ∧ (AI 0 35 r.2.2.2.2.2.2.1) ∧ (AI 0 19 r.2.2.2.2.2.2.2.2.1) ∧ (AI 0 22 r.2.2.2.2.2.2.2.2.2.2.2.1) ∧ (AI 0 35 r.2.2.2.2.2.2.2.2.2.2.2.2.1) ∧ (0 ≤ r.2.2.2.2.2.2.2.2.2.2.2.2.2.1 ∧ r.2.2.2.2.2.2.2.2.2.2.2.2.2.1 ≤ 36) ∧ (AI 0 35 r.2.2.2.2.2.2.2.2.2.2.2.2.2.2.1) ∧ (0 ≤ r.2.2.2.2.2.2.2.2.2.2.2.2.2.2.2.1 ∧ r.2.2.2.2.2.2.2.2.2.2.2.2.2.2.2.1 ≤ 36) ∧ (0 ≤ r.2.2.2.2.2.2.2.2.2.2.2.2.2.2.2.2.2.1 ∧ r.2.2.2.2.2.2.2.2.2.2.2.2.2.2.2.2.2.1 ≤ 60)) := by
  unfold fX6_turn
  dsimp only [u11, u14, u4]
  refine Sf.bind (sX6_within ) ?_
  intro v1 hr1
  have hx_v1 : ((v1 = 1 ∧ 10 ≤ p1 ∧ p1 ≤ ((10 + x1_lineCount) - 1)) ∨ (v1 = 0 ∧ (p1 < 10 ∨ ((10 + x1_lineCount) - 1) < p1))) := hr1
  refine Sf.bind (sX6_within ) ?_
  intro v3 hr2
  have hx_v3 : ((v3 = 1 ∧ 0 ≤ p1 ∧ p1 ≤ 1) ∨ (v3 = 0 ∧ (p1 < 0 ∨ 1 < p1))) := hr2
  refine Sf.ite (fun hc3 => ?_) (fun hc3 => ?_)
  · refine Sf.ite (fun hc4 => ?_) (fun hc4 => ?_)
    · refine Sf.bind (sX6_refuse ) ?_
      rintro ⟨v25, g26⟩ hr5
      dsimp only [u2]
      exact Sf.ok (show (AI 0 35 x3_edgeA) ∧ (AI 0 35 x3_edgeB) ∧ (AI 0 19 x3_edgeLine) ∧ (AI 0 22 x3_steps) ∧ (AI 0 35 x3_nodes) ∧ (0 ≤ x3_stepCount ∧ x3_stepCount ≤ 36) ∧ (AI 0 35 x3_open) ∧ (0 ≤ x3_openCount ∧ x3_openCount ≤ 36) ∧ (0 ≤ x3_edgeCount ∧ x3_edgeCount ≤ 60) from ⟨h_x3_edgeA, h_x3_edgeB, h_x3_edgeLine, h_x3_steps, h_x3_nodes, h_x3_stepCount, h_x3_open, h_x3_openCount, h_x3_edgeCount⟩)
    · unfold fX6_turn_j39
      refine Sf.bind (sX4_sendInTurn hn h_x3_edgeA h_x3_edgeB h_x3_edgeLine h_x3_steps h_x3_nodes h_x3_stepCount h_x3_open h_x3_openCount h_x3_edgeCount h_x1_lineCount h_x1_goodsCount h_x1_workCount h_x1_years h_x1_lines h_x1_goods h_x1_works h_x1_change h_x1_coin) ?_
      rintro ⟨g5, g6, g7, ⟨g9, g10, g11, g12, g13, g14, g15, g16, g17, g18, g19, g20, g21, g22⟩⟩ hr6
      obtain ⟨h_g9, h_g10, h_g12, h_g15, h_g16, h_g17, h_g18, h_g19, h_g21⟩ : (AI 0 35 g9) ∧ (AI 0 35 g10) ∧ (AI 0 19 g12) ∧ (AI 0 22 g15) ∧ (AI 0 35 g16) ∧ (0 ≤ g17 ∧ g17 ≤ 36) ∧ (AI 0 35 g18) ∧ (0 ≤ g19 ∧ g19 ≤ 36) ∧ (0 ≤ g21 ∧ g21 ≤ 60) := hr6
      dsimp only [u14, u4]
      refine Sf.ite (fun hc7 => ?_) (fun hc7 => ?_)
      · refine Sf.ite (fun hc8 => ?_) (fun hc8 => ?_)
        · exact Sf.ok (show (AI 0 35 g9) ∧ (AI 0 35 g10) ∧ (AI 0 19 g12) ∧ (AI 0 22 g15) ∧ (AI 0 35 g16) ∧ (0 ≤ g17 ∧ g17 ≤ 36) ∧ (AI 0 35 g18) ∧ (0 ≤ g19 ∧ g19 ≤ 36) ∧ (0 ≤ g21 ∧ g21 ≤ 60) from ⟨h_g9, h_g10, h_g12, h_g15, h_g16, h_g17, h_g18, h_g19, h_g21⟩)
        · exact Sf.ok (show (AI 0 35 g9) ∧ (AI 0 35 g10) ∧ (AI 0 19 g12) ∧ (AI 0 22 g15) ∧ (AI 0 35 g16) ∧ (0 ≤ g17 ∧ g17 ≤ 36) ∧ (AI 0 35 g18) ∧ (0 ≤ g19 ∧ g19 ≤ 36) ∧ (0 ≤ g21 ∧ g21 ≤ 60) from ⟨h_g9, h_g10, h_g12, h_g15, h_g16, h_g17, h_g18, h_g19, h_g21⟩)
      · have hq9 : 0 ≤ (p1 - 10) ∧ (p1 - 10) < 20 := ix10 hx_v1 (by assumption) h_x1_lineCount
        refine Sf.rdb 20 rfl hq9 (fun v24 e_v24 => ?_)
        clear e_v24
        exact Sf.ok (show (AI 0 35 g9) ∧ (AI 0 35 g10) ∧ (AI 0 19 g12) ∧ (AI 0 22 g15) ∧ (AI 0 35 g16) ∧ (0 ≤ g17 ∧ g17 ≤ 36) ∧ (AI 0 35 g18) ∧ (0 ≤ g19 ∧ g19 ≤ 36) ∧ (0 ≤ g21 ∧ g21 ≤ 60) from ⟨h_g9, h_g10, h_g12, h_g15, h_g16, h_g17, h_g18, h_g19, h_g21⟩)
  · unfold fX6_turn_j39
    refine Sf.bind (sX4_sendInTurn hn h_x3_edgeA h_x3_edgeB h_x3_edgeLine h_x3_steps h_x3_nodes h_x3_stepCount h_x3_open h_x3_openCount h_x3_edgeCount h_x1_lineCount h_x1_goodsCount h_x1_workCount h_x1_years h_x1_lines h_x1_goods h_x1_works h_x1_change h_x1_coin) ?_
    rintro ⟨g5, g6, g7, ⟨g9, g10, g11, g12, g13, g14, g15, g16, g17, g18, g19, g20, g21, g22⟩⟩ hr10
    obtain ⟨h_g9, h_g10, h_g12, h_g15, h_g16, h_g17, h_g18, h_g19, h_g21⟩ : (AI 0 35 g9) ∧ (AI 0 35 g10) ∧ (AI 0 19 g12) ∧ (AI 0 22 g15) ∧ (AI 0 35 g16) ∧ (0 ≤ g17 ∧ g17 ≤ 36) ∧ (AI 0 35 g18) ∧ (0 ≤ g19 ∧ g19 ≤ 36) ∧ (0 ≤ g21 ∧ g21 ≤ 60) := hr10
    dsimp only [u14, u4]
    refine Sf.ite (fun hc11 => ?_) (fun hc11 => ?_)
    · refine Sf.ite (fun hc12 => ?_) (fun hc12 => ?_)
      · exact Sf.ok (show (AI 0 35 g9) ∧ (AI 0 35 g10) ∧ (AI 0 19 g12) ∧ (AI 0 22 g15) ∧ (AI 0 35 g16) ∧ (0 ≤ g17 ∧ g17 ≤ 36) ∧ (AI 0 35 g18) ∧ (0 ≤ g19 ∧ g19 ≤ 36) ∧ (0 ≤ g21 ∧ g21 ≤ 60) from ⟨h_g9, h_g10, h_g12, h_g15, h_g16, h_g17, h_g18, h_g19, h_g21⟩)
      · exact Sf.ok (show (AI 0 35 g9) ∧ (AI 0 35 g10) ∧ (AI 0 19 g12) ∧ (AI 0 22 g15) ∧ (AI 0 35 g16) ∧ (0 ≤ g17 ∧ g17 ≤ 36) ∧ (AI 0 35 g18) ∧ (0 ≤ g19 ∧ g19 ≤ 36) ∧ (0 ≤ g21 ∧ g21 ≤ 60) from ⟨h_g9, h_g10, h_g12, h_g15, h_g16, h_g17, h_g18, h_g19, h_g21⟩)
    · have hq13 : 0 ≤ (p1 - 10) ∧ (p1 - 10) < 20 := ix10 hx_v1 (by assumption) h_x1_lineCount
      refine Sf.rdb 20 rfl hq13 (fun v24 e_v24 => ?_)
      clear e_v24
      exact Sf.ok (show (AI 0 35 g9) ∧ (AI 0 35 g10) ∧ (AI 0 19 g12) ∧ (AI 0 22 g15) ∧ (AI 0 35 g16) ∧ (0 ≤ g17 ∧ g17 ≤ 36) ∧ (AI 0 35 g18) ∧ (0 ≤ g19 ∧ g19 ≤ 36) ∧ (0 ≤ g21 ∧ g21 ≤ 60) from ⟨h_g9, h_g10, h_g12, h_g15, h_g16, h_g17, h_g18, h_g19, h_g21⟩)
set_option maxHeartbeats 1000000 in
theorem sX6_total {n : Nat} {x0_refused : (Nat → Int32)} {x0_isKept x0_gone x0_spent : Int32} {x1_gained : (Nat → Int32)} {x2_lineCount x2_goodsCount x2_workCount x2_years : Int32} {x2_lines x2_goods x2_works x2_change x2_coin x2_knownFree : (Nat → Int32)} {x2_isKnown x3_lineCount x3_goodsCount x3_workCount x3_years : Int32} {x3_lines x3_goods x3_works x3_change x3_coin x3_knownFree : (Nat → Int32)} {x3_isKnown : Int32} {x4_left x4_earned : (Nat → Int32)} {x4_turnCost x4_turnWayless : Int32} {x5_edgeA x5_edgeB x5_edgeCost x5_edgeLine x5_change x5_away x5_steps x5_nodes : (Nat → Int32)} {x5_stepCount : Int32} {x5_open : (Nat → Int32)} {x5_openCount : Int32} {x5_seen : Int64} {x5_edgeCount x5_aim p1 : Int32} (hn : 1000000000000 ≤ n) (h_x2_lineCount : (0 ≤ x2_lineCount ∧ x2_lineCount ≤ 20)) (h_x2_goodsCount : (0 ≤ x2_goodsCount ∧ x2_goodsCount ≤ 8)) (h_x2_workCount : (0 ≤ x2_workCount ∧ x2_workCount ≤ 7)) (h_x2_years : (1 ≤ x2_years ∧ x2_years ≤ 30)) (h_x2_lines : (LnOk x2_lines)) (h_x2_goods : (GdOk x2_goods)) (h_x2_works : (WkOk x2_works)) (h_x2_change : (AI 0 99 x2_change)) (h_x2_coin : (AI 0 9 x2_coin)) (h_x3_lineCount : (0 ≤ x3_lineCount ∧ x3_lineCount ≤ 20)) (h_x3_goodsCount : (0 ≤ x3_goodsCount ∧ x3_goodsCount ≤ 8)) (h_x3_workCount : (0 ≤ x3_workCount ∧ x3_workCount ≤ 7)) (h_x3_years : (1 ≤ x3_years ∧ x3_years ≤ 30)) (h_x3_lines : (LnOk x3_lines)) (h_x3_goods : (GdOk x3_goods)) (h_x3_works : (WkOk x3_works)) (h_x3_change : (AI 0 99 x3_change)) (h_x3_coin : (AI 0 9 x3_coin)) (h_x5_edgeA : (AI 0 35 x5_edgeA)) (h_x5_edgeB : (AI 0 35 x5_edgeB)) (h_x5_edgeLine : (AI 0 19 x5_edgeLine)) (h_x5_steps : (AI 0 22 x5_steps)) (h_x5_nodes : (AI 0 35 x5_nodes)) (h_x5_stepCount : (0 ≤ x5_stepCount ∧ x5_stepCount ≤ 36)) (h_x5_open : (AI 0 35 x5_open)) (h_x5_openCount : (0 ≤ x5_openCount ∧ x5_openCount ≤ 36)) (h_x5_edgeCount : (0 ≤ x5_edgeCount ∧ x5_edgeCount ≤ 60)) : Sf (fX6_total n (x0_refused, x0_isKept, x0_gone, x0_spent) x1_gained (x2_lineCount, x2_goodsCount, x2_workCount, x2_years, x2_lines, x2_goods, x2_works, x2_change, x2_coin, x2_knownFree, x2_isKnown) (x3_lineCount, x3_goodsCount, x3_workCount, x3_years, x3_lines, x3_goods, x3_works, x3_change, x3_coin, x3_knownFree, x3_isKnown) (x4_left, x4_earned, x4_turnCost, x4_turnWayless) (x5_edgeA, x5_edgeB, x5_edgeCost, x5_edgeLine, x5_change, x5_away, x5_steps, x5_nodes, x5_stepCount, x5_open, x5_openCount, x5_seen, x5_edgeCount, x5_aim) p1) (fun r => (0 ≤ r.2.2.1.1 ∧ r.2.2.1.1 ≤ 20) ∧ (0 ≤ r.2.2.1.2.1 ∧ r.2.2.1.2.1 ≤ 8) ∧ (0 ≤ r.2.2.1.2.2.1 ∧ r.2.2.1.2.2.1 ≤ 7) ∧ (1 ≤ r.2.2.1.2.2.2.1 ∧ r.2.2.1.2.2.2.1 ≤ 30) ∧ (LnOk r.2.2.1.2.2.2.2.1) ∧ (GdOk r.2.2.1.2.2.2.2.2.1) ∧ (WkOk r.2.2.1.2.2.2.2.2.2.1) ∧ (AI 0 99 r.2.2.1.2.2.2.2.2.2.2.1) ∧ (AI 0 9 r.2.2.1.2.2.2.2.2.2.2.2.1) ∧ (0 ≤ r.2.2.2.1.1 ∧ r.2.2.2.1.1 ≤ 20) ∧ (LnOk r.2.2.2.1.2.1) ∧ (AI 0 99 r.2.2.2.1.2.2.1) ∧ (AI 0 35 r.2.2.2.2.1) ∧ (AI 0 35 r.2.2.2.2.2.1) ∧ (AI 0 19 r.2.2.2.2.2.2.2.1) ∧ (0 ≤ r.2.2.2.2.2.2.2.2.2.2.1 ∧ r.2.2.2.2.2.2.2.2.2.2.1 ≤ 60)) := by
  unfold fX6_total
  dsimp only [u11, u14, u4]
  refine Sf.bind (sX6_within ) ?_
  intro v1 hr1
  have hx_v1 : ((v1 = 1 ∧ 0 ≤ p1 ∧ p1 ≤ (((1 : Int32) <<< (x3_workCount &&& 31)) - 1)) ∨ (v1 = 0 ∧ (p1 < 0 ∨ (((1 : Int32) <<< (x3_workCount &&& 31)) - 1) < p1))) := hr1
  refine Sf.ite (fun hc2 => ?_) (fun hc2 => ?_)
  · refine Sf.bind (sX6_refuse ) ?_
    rintro ⟨v31, g32⟩ hr3
    dsimp only [u2]
    exact Sf.ok (show (0 ≤ x2_lineCount ∧ x2_lineCount ≤ 20) ∧ (0 ≤ x2_goodsCount ∧ x2_goodsCount ≤ 8) ∧ (0 ≤ x2_workCount ∧ x2_workCount ≤ 7) ∧ (1 ≤ x2_years ∧ x2_years ≤ 30) ∧ (LnOk x2_lines) ∧ (GdOk x2_goods) ∧ (WkOk x2_works) ∧ (AI 0 99 x2_change) ∧ (AI 0 9 x2_coin) ∧ (0 ≤ x3_lineCount ∧ x3_lineCount ≤ 20) ∧ (LnOk x3_lines) ∧ (AI 0 99 x3_change) ∧ (AI 0 35 x5_edgeA) ∧ (AI 0 35 x5_edgeB) ∧ (AI 0 19 x5_edgeLine) ∧ (0 ≤ x5_edgeCount ∧ x5_edgeCount ≤ 60) from ⟨h_x2_lineCount, h_x2_goodsCount, h_x2_workCount, h_x2_years, h_x2_lines, h_x2_goods, h_x2_works, h_x2_change, h_x2_coin, h_x3_lineCount, h_x3_lines, h_x3_change, h_x5_edgeA, h_x5_edgeB, h_x5_edgeLine, h_x5_edgeCount⟩)
  · refine Sf.bind (sX0_totalOf hn h_x5_edgeA h_x5_edgeB h_x5_edgeLine h_x5_steps h_x5_nodes h_x5_stepCount h_x5_open h_x5_openCount h_x5_edgeCount h_x2_lineCount h_x2_goodsCount h_x2_workCount h_x2_years h_x2_lines h_x2_goods h_x2_works h_x2_change h_x2_coin h_x3_lineCount h_x3_goodsCount h_x3_workCount h_x3_years h_x3_lines h_x3_goods h_x3_works h_x3_change h_x3_coin) ?_
    rintro ⟨v3, ⟨g5, g6, g7, g8, g9, g10, g11, g12⟩, ⟨g14, g15, g16, g17, g18, g19, g20, g21, g22, g23⟩, ⟨g25, g26, g27, g28, g29⟩⟩ hr4
    obtain ⟨h_g5, h_g6, h_g8, h_g11, h_g14, h_g15, h_g16, h_g17, h_g18, h_g19, h_g20, h_g21, h_g22, h_g25, h_g26, h_g27⟩ : (AI 0 35 g5) ∧ (AI 0 35 g6) ∧ (AI 0 19 g8) ∧ (0 ≤ g11 ∧ g11 ≤ 60) ∧ (0 ≤ g14 ∧ g14 ≤ 20) ∧ (0 ≤ g15 ∧ g15 ≤ 8) ∧ (0 ≤ g16 ∧ g16 ≤ 7) ∧ (1 ≤ g17 ∧ g17 ≤ 30) ∧ (LnOk g18) ∧ (GdOk g19) ∧ (WkOk g20) ∧ (AI 0 99 g21) ∧ (AI 0 9 g22) ∧ (0 ≤ g25 ∧ g25 ≤ 20) ∧ (LnOk g26) ∧ (AI 0 99 g27) := hr4
    dsimp only [u10, u4, u5, u8]
    exact Sf.ok (show (0 ≤ g14 ∧ g14 ≤ 20) ∧ (0 ≤ g15 ∧ g15 ≤ 8) ∧ (0 ≤ g16 ∧ g16 ≤ 7) ∧ (1 ≤ g17 ∧ g17 ≤ 30) ∧ (LnOk g18) ∧ (GdOk g19) ∧ (WkOk g20) ∧ (AI 0 99 g21) ∧ (AI 0 9 g22) ∧ (0 ≤ g25 ∧ g25 ≤ 20) ∧ (LnOk g26) ∧ (AI 0 99 g27) ∧ (AI 0 35 g5) ∧ (AI 0 35 g6) ∧ (AI 0 19 g8) ∧ (0 ≤ g11 ∧ g11 ≤ 60) from ⟨h_g14, h_g15, h_g16, h_g17, h_g18, h_g19, h_g20, h_g21, h_g22, h_g25, h_g26, h_g27, h_g5, h_g6, h_g8, h_g11⟩)
set_option maxHeartbeats 1000000 in
theorem sX6_best {n : Nat} {x0_refused : (Nat → Int32)} {x0_isKept x0_gone x0_spent : Int32} {x1_gained : (Nat → Int32)} {x2_lineCount x2_goodsCount x2_workCount x2_years : Int32} {x2_lines x2_goods x2_works x2_change x2_coin x2_knownFree : (Nat → Int32)} {x2_isKnown x3_lineCount x3_goodsCount x3_workCount x3_years : Int32} {x3_lines x3_goods x3_works x3_change x3_coin x3_knownFree : (Nat → Int32)} {x3_isKnown : Int32} {x4_left x4_earned : (Nat → Int32)} {x4_turnCost x4_turnWayless : Int32} {x5_edgeA x5_edgeB x5_edgeCost x5_edgeLine x5_change x5_away x5_steps x5_nodes : (Nat → Int32)} {x5_stepCount : Int32} {x5_open : (Nat → Int32)} {x5_openCount : Int32} {x5_seen : Int64} {x5_edgeCount x5_aim : Int32} (hn : 1000000000000 ≤ n) (h_x2_lineCount : (0 ≤ x2_lineCount ∧ x2_lineCount ≤ 20)) (h_x2_goodsCount : (0 ≤ x2_goodsCount ∧ x2_goodsCount ≤ 8)) (h_x2_workCount : (0 ≤ x2_workCount ∧ x2_workCount ≤ 7)) (h_x2_years : (1 ≤ x2_years ∧ x2_years ≤ 30)) (h_x2_lines : (LnOk x2_lines)) (h_x2_goods : (GdOk x2_goods)) (h_x2_works : (WkOk x2_works)) (h_x2_change : (AI 0 99 x2_change)) (h_x2_coin : (AI 0 9 x2_coin)) (h_x3_lineCount : (0 ≤ x3_lineCount ∧ x3_lineCount ≤ 20)) (h_x3_goodsCount : (0 ≤ x3_goodsCount ∧ x3_goodsCount ≤ 8)) (h_x3_workCount : (0 ≤ x3_workCount ∧ x3_workCount ≤ 7)) (h_x3_years : (1 ≤ x3_years ∧ x3_years ≤ 30)) (h_x3_lines : (LnOk x3_lines)) (h_x3_goods : (GdOk x3_goods)) (h_x3_works : (WkOk x3_works)) (h_x3_change : (AI 0 99 x3_change)) (h_x3_coin : (AI 0 9 x3_coin)) (h_x5_edgeA : (AI 0 35 x5_edgeA)) (h_x5_edgeB : (AI 0 35 x5_edgeB)) (h_x5_edgeLine : (AI 0 19 x5_edgeLine)) (h_x5_steps : (AI 0 22 x5_steps)) (h_x5_nodes : (AI 0 35 x5_nodes)) (h_x5_stepCount : (0 ≤ x5_stepCount ∧ x5_stepCount ≤ 36)) (h_x5_open : (AI 0 35 x5_open)) (h_x5_openCount : (0 ≤ x5_openCount ∧ x5_openCount ≤ 36)) (h_x5_edgeCount : (0 ≤ x5_edgeCount ∧ x5_edgeCount ≤ 60)) : Sf (fX6_best n (x0_refused, x0_isKept, x0_gone, x0_spent) x1_gained (x2_lineCount, x2_goodsCount, x2_workCount, x2_years, x2_lines, x2_goods, x2_works, x2_change, x2_coin, x2_knownFree, x2_isKnown) (x3_lineCount, x3_goodsCount, x3_workCount, x3_years, x3_lines, x3_goods, x3_works, x3_change, x3_coin, x3_knownFree, x3_isKnown) (x4_left, x4_earned, x4_turnCost, x4_turnWayless) (x5_edgeA, x5_edgeB, x5_edgeCost, x5_edgeLine, x5_change, x5_away, x5_steps, x5_nodes, x5_stepCount, x5_open, x5_openCount, x5_seen, x5_edgeCount, x5_aim)) (fun r => (0 ≤ r.2.1.1 ∧ r.2.1.1 ≤ 20) ∧ (0 ≤ r.2.1.2.1 ∧ r.2.1.2.1 ≤ 8) ∧ (0 ≤ r.2.1.2.2.1 ∧ r.2.1.2.2.1 ≤ 7) ∧ (1 ≤ r.2.1.2.2.2.1 ∧ r.2.1.2.2.2.1 ≤ 30) ∧ (LnOk r.2.1.2.2.2.2.1) ∧ (GdOk r.2.1.2.2.2.2.2.1) ∧ (WkOk r.2.1.2.2.2.2.2.2.1) ∧ (AI 0 99 r.2.1.2.2.2.2.2.2.2.1) ∧ (AI 0 9 r.2.1.2.2.2.2.2.2.2.2.1) ∧ (0 ≤ r.2.2.1.1 ∧ r.2.2.1.1 ≤ 20) ∧ (LnOk r.2.2.1.2.1) ∧ (AI 0 99 r.2.2.1.2.2.1) ∧ (AI 0 35 r.2.2.2.1) ∧ (AI 0 35 r.2.2.2.2.1) ∧ (AI 0 19 r.2.2.2.2.2.2.1) ∧ (0 ≤ r.2.2.2.2.2.2.2.2.2.1 ∧ r.2.2.2.2.2.2.2.2.2.1 ≤ 60)) := by
  unfold fX6_best
  dsimp only [u11, u14, u4]
  refine Sf.bind (sX0_bestOf hn h_x5_edgeA h_x5_edgeB h_x5_edgeLine h_x5_steps h_x5_nodes h_x5_stepCount h_x5_open h_x5_openCount h_x5_edgeCount h_x2_lineCount h_x2_goodsCount h_x2_workCount h_x2_years h_x2_lines h_x2_goods h_x2_works h_x2_change h_x2_coin h_x3_lineCount h_x3_goodsCount h_x3_workCount h_x3_years h_x3_lines h_x3_goods h_x3_works h_x3_change h_x3_coin) ?_
  rintro ⟨v1, ⟨g3, g4, g5, g6, g7, g8, g9, g10⟩, ⟨g12, g13, g14, g15, g16, g17, g18, g19, g20, g21⟩, ⟨g23, g24, g25, g26, g27⟩⟩ hr1
  obtain ⟨h_g3, h_g4, h_g6, h_g9, h_g12, h_g13, h_g14, h_g15, h_g16, h_g17, h_g18, h_g19, h_g20, h_g23, h_g24, h_g25⟩ : (AI 0 35 g3) ∧ (AI 0 35 g4) ∧ (AI 0 19 g6) ∧ (0 ≤ g9 ∧ g9 ≤ 60) ∧ (0 ≤ g12 ∧ g12 ≤ 20) ∧ (0 ≤ g13 ∧ g13 ≤ 8) ∧ (0 ≤ g14 ∧ g14 ≤ 7) ∧ (1 ≤ g15 ∧ g15 ≤ 30) ∧ (LnOk g16) ∧ (GdOk g17) ∧ (WkOk g18) ∧ (AI 0 99 g19) ∧ (AI 0 9 g20) ∧ (0 ≤ g23 ∧ g23 ≤ 20) ∧ (LnOk g24) ∧ (AI 0 99 g25) := hr1
  dsimp only [u10, u4, u5, u8]
  exact Sf.ok (show (0 ≤ g12 ∧ g12 ≤ 20) ∧ (0 ≤ g13 ∧ g13 ≤ 8) ∧ (0 ≤ g14 ∧ g14 ≤ 7) ∧ (1 ≤ g15 ∧ g15 ≤ 30) ∧ (LnOk g16) ∧ (GdOk g17) ∧ (WkOk g18) ∧ (AI 0 99 g19) ∧ (AI 0 9 g20) ∧ (0 ≤ g23 ∧ g23 ≤ 20) ∧ (LnOk g24) ∧ (AI 0 99 g25) ∧ (AI 0 35 g3) ∧ (AI 0 35 g4) ∧ (AI 0 19 g6) ∧ (0 ≤ g9 ∧ g9 ≤ 60) from ⟨h_g12, h_g13, h_g14, h_g15, h_g16, h_g17, h_g18, h_g19, h_g20, h_g23, h_g24, h_g25, h_g3, h_g4, h_g6, h_g9⟩)
set_option maxHeartbeats 1000000 in
theorem sX6_noChoice {x0_refused : (Nat → Int32)} {x0_isKept x0_gone x0_spent x1_lineCount x1_goodsCount x1_workCount x1_years : Int32} {x1_lines x1_goods x1_works x1_change x1_coin x1_knownFree : (Nat → Int32)} {x1_isKnown p1 : Int32}  (h_x1_lineCount : (0 ≤ x1_lineCount ∧ x1_lineCount ≤ 20)) (h_x1_goodsCount : (0 ≤ x1_goodsCount ∧ x1_goodsCount ≤ 8)) (h_x1_workCount : (0 ≤ x1_workCount ∧ x1_workCount ≤ 7)) (h_x1_years : (1 ≤ x1_years ∧ x1_years ≤ 30)) (h_x1_lines : (LnOk x1_lines)) (h_x1_goods : (GdOk x1_goods)) (h_x1_works : (WkOk x1_works)) (h_x1_change : (AI 0 99 x1_change)) (h_x1_coin : (AI 0 9 x1_coin)) : Sf (fX6_noChoice (x0_refused, x0_isKept, x0_gone, x0_spent) (x1_lineCount, x1_goodsCount, x1_workCount, x1_years, x1_lines, x1_goods, x1_works, x1_change, x1_coin, x1_knownFree, x1_isKnown) p1) (fun r => (r ≠ 0 ∨ (0 ≤ p1 ∧ p1 < x1_workCount))) := by
  unfold fX6_noChoice
  dsimp only [u11, u4]
  refine Sf.bind (sX1_hasWork h_x1_lineCount h_x1_goodsCount h_x1_workCount h_x1_years h_x1_lines h_x1_goods h_x1_works h_x1_change h_x1_coin) ?_
  intro v1 hr1
  have hx_v1 : ((v1 = 1 ∧ 0 ≤ p1 ∧ p1 < x1_workCount) ∨ (v1 = 0 ∧ ¬ (0 ≤ p1 ∧ p1 < x1_workCount))) := hr1
  refine Sf.ite (fun hc2 => ?_) (fun hc2 => ?_)
  · exact Sf.ok (show ((-2) ≠ 0 ∨ (0 ≤ p1 ∧ p1 < x1_workCount)) from (by grind))
  · refine Sf.bind (sX1_isDone h_x1_lineCount h_x1_goodsCount h_x1_workCount h_x1_years h_x1_lines h_x1_goods h_x1_works h_x1_change h_x1_coin (by grind)) ?_
    intro v3 hr3
    refine Sf.ite (fun hc4 => ?_) (fun hc4 => ?_)
    · exact Sf.ok (show (0 ≠ 0 ∨ (0 ≤ p1 ∧ p1 < x1_workCount)) from (by grind))
    · exact Sf.ok (show ((-5) ≠ 0 ∨ (0 ≤ p1 ∧ p1 < x1_workCount)) from (by grind))
set_option maxHeartbeats 1000000 in
theorem sX6_worth {n : Nat} {x0_refused : (Nat → Int32)} {x0_isKept x0_gone x0_spent : Int32} {x1_gained : (Nat → Int32)} {x2_lineCount x2_goodsCount x2_workCount x2_years : Int32} {x2_lines x2_goods x2_works x2_change x2_coin x2_knownFree : (Nat → Int32)} {x2_isKnown x3_lineCount x3_goodsCount x3_workCount x3_years : Int32} {x3_lines x3_goods x3_works x3_change x3_coin x3_knownFree : (Nat → Int32)} {x3_isKnown : Int32} {x4_left x4_earned : (Nat → Int32)} {x4_turnCost x4_turnWayless : Int32} {x5_edgeA x5_edgeB x5_edgeCost x5_edgeLine x5_change x5_away x5_steps x5_nodes : (Nat → Int32)} {x5_stepCount : Int32} {x5_open : (Nat → Int32)} {x5_openCount : Int32} {x5_seen : Int64} {x5_edgeCount x5_aim p1 : Int32} (hn : 1000000000000 ≤ n) (h_x2_lineCount : (0 ≤ x2_lineCount ∧ x2_lineCount ≤ 20)) (h_x2_goodsCount : (0 ≤ x2_goodsCount ∧ x2_goodsCount ≤ 8)) (h_x2_workCount : (0 ≤ x2_workCount ∧ x2_workCount ≤ 7)) (h_x2_years : (1 ≤ x2_years ∧ x2_years ≤ 30)) (h_x2_lines : (LnOk x2_lines)) (h_x2_goods : (GdOk x2_goods)) (h_x2_works : (WkOk x2_works)) (h_x2_change : (AI 0 99 x2_change)) (h_x2_coin : (AI 0 9 x2_coin)) (h_x3_lineCount : (0 ≤ x3_lineCount ∧ x3_lineCount ≤ 20)) (h_x3_goodsCount : (0 ≤ x3_goodsCount ∧ x3_goodsCount ≤ 8)) (h_x3_workCount : (0 ≤ x3_workCount ∧ x3_workCount ≤ 7)) (h_x3_years : (1 ≤ x3_years ∧ x3_years ≤ 30)) (h_x3_lines : (LnOk x3_lines)) (h_x3_goods : (GdOk x3_goods)) (h_x3_works : (WkOk x3_works)) (h_x3_change : (AI 0 99 x3_change)) (h_x3_coin : (AI 0 9 x3_coin)) (h_x5_edgeA : (AI 0 35 x5_edgeA)) (h_x5_edgeB : (AI 0 35 x5_edgeB)) (h_x5_edgeLine : (AI 0 19 x5_edgeLine)) (h_x5_steps : (AI 0 22 x5_steps)) (h_x5_nodes : (AI 0 35 x5_nodes)) (h_x5_stepCount : (0 ≤ x5_stepCount ∧ x5_stepCount ≤ 36)) (h_x5_open : (AI 0 35 x5_open)) (h_x5_openCount : (0 ≤ x5_openCount ∧ x5_openCount ≤ 36)) (h_x5_edgeCount : (0 ≤ x5_edgeCount ∧ x5_edgeCount ≤ 60)) : Sf (fX6_worth n (x0_refused, x0_isKept, x0_gone, x0_spent) x1_gained (x2_lineCount, x2_goodsCount, x2_workCount, x2_years, x2_lines, x2_goods, x2_works, x2_change, x2_coin, x2_knownFree, x2_isKnown) (x3_lineCount, x3_goodsCount, x3_workCount, x3_years, x3_lines, x3_goods, x3_works, x3_change, x3_coin, x3_knownFree, x3_isKnown) (x4_left, x4_earned, x4_turnCost, x4_turnWayless) (x5_edgeA, x5_edgeB, x5_edgeCost, x5_edgeLine, x5_change, x5_away, x5_steps, x5_nodes, x5_stepCount, x5_open, x5_openCount, x5_seen, x5_edgeCount, x5_aim) p1) (fun r => (0 ≤ r.2.2.1.1 ∧ r.2.2.1.1 ≤ 20) ∧ (0 ≤ r.2.2.1.2.1 ∧ r.2.2.1.2.1 ≤ 8) ∧ (0 ≤ r.2.2.1.2.2.1 ∧ r.2.2.1.2.2.1 ≤ 7) ∧ (1 ≤ r.2.2.1.2.2.2.1 ∧ r.2.2.1.2.2.2.1 ≤ 30) ∧ (LnOk r.2.2.1.2.2.2.2.1) ∧ (GdOk r.2.2.1.2.2.2.2.2.1) ∧ (WkOk r.2.2.1.2.2.2.2.2.2.1) ∧ (AI 0 99 r.2.2.1.2.2.2.2.2.2.2.1) ∧ (AI 0 9 r.2.2.1.2.2.2.2.2.2.2.2.1) ∧ (0 ≤ r.2.2.2.1.1 ∧ r.2.2.2.1.1 ≤ 20) ∧ (LnOk r.2.2.2.1.2.1) ∧ (AI 0 99 r.2.2.2.1.2.2.1) ∧ (AI 0 35 r.2.2.2.2.1) ∧ (AI 0 35 r.2.2.2.2.2.1) ∧ (AI 0 19 r.2.2.2.2.2.2.2.1) ∧ (0 ≤ r.2.2.2.2.2.2.2.2.2.2.1 ∧ r.2.2.2.2.2.2.2.2.2.2.1 ≤ 60)) := by
  unfold fX6_worth
  dsimp only [u11, u14, u4]
  refine Sf.bind (sX6_noChoice h_x3_lineCount h_x3_goodsCount h_x3_workCount h_x3_years h_x3_lines h_x3_goods h_x3_works h_x3_change h_x3_coin) ?_
  intro v1 hr1
  have hx_v1 : (v1 ≠ 0 ∨ (0 ≤ p1 ∧ p1 < x3_workCount)) := hr1
  refine Sf.ite (fun hc2 => ?_) (fun hc2 => ?_)
  · refine Sf.bind (sX0_worthIn hn h_x5_edgeA h_x5_edgeB h_x5_edgeLine h_x5_steps h_x5_nodes h_x5_stepCount h_x5_open h_x5_openCount h_x5_edgeCount h_x2_lineCount h_x2_goodsCount h_x2_workCount h_x2_years h_x2_lines h_x2_goods h_x2_works h_x2_change h_x2_coin h_x3_lineCount h_x3_goodsCount h_x3_workCount h_x3_years h_x3_lines h_x3_goods h_x3_works h_x3_change h_x3_coin (by grind)) ?_
    rintro ⟨v3, ⟨g5, g6, g7, g8, g9, g10, g11, g12⟩, ⟨g14, g15, g16, g17, g18, g19, g20, g21, g22, g23⟩, ⟨g25, g26, g27, g28, g29⟩⟩ hr3
    obtain ⟨h_g5, h_g6, h_g8, h_g11, h_g14, h_g15, h_g16, h_g17, h_g18, h_g19, h_g20, h_g21, h_g22, h_g25, h_g26, h_g27⟩ : (AI 0 35 g5) ∧ (AI 0 35 g6) ∧ (AI 0 19 g8) ∧ (0 ≤ g11 ∧ g11 ≤ 60) ∧ (0 ≤ g14 ∧ g14 ≤ 20) ∧ (0 ≤ g15 ∧ g15 ≤ 8) ∧ (0 ≤ g16 ∧ g16 ≤ 7) ∧ (1 ≤ g17 ∧ g17 ≤ 30) ∧ (LnOk g18) ∧ (GdOk g19) ∧ (WkOk g20) ∧ (AI 0 99 g21) ∧ (AI 0 9 g22) ∧ (0 ≤ g25 ∧ g25 ≤ 20) ∧ (LnOk g26) ∧ (AI 0 99 g27) := hr3
    dsimp only [u10, u4, u5, u8]
    exact Sf.ok (show (0 ≤ g14 ∧ g14 ≤ 20) ∧ (0 ≤ g15 ∧ g15 ≤ 8) ∧ (0 ≤ g16 ∧ g16 ≤ 7) ∧ (1 ≤ g17 ∧ g17 ≤ 30) ∧ (LnOk g18) ∧ (GdOk g19) ∧ (WkOk g20) ∧ (AI 0 99 g21) ∧ (AI 0 9 g22) ∧ (0 ≤ g25 ∧ g25 ≤ 20) ∧ (LnOk g26) ∧ (AI 0 99 g27) ∧ (AI 0 35 g5) ∧ (AI 0 35 g6) ∧ (AI 0 19 g8) ∧ (0 ≤ g11 ∧ g11 ≤ 60) from ⟨h_g14, h_g15, h_g16, h_g17, h_g18, h_g19, h_g20, h_g21, h_g22, h_g25, h_g26, h_g27, h_g5, h_g6, h_g8, h_g11⟩)
  · refine Sf.bind (sX6_refuse ) ?_
    rintro ⟨v31, g32⟩ hr4
    dsimp only [u2]
    exact Sf.ok (show (0 ≤ x2_lineCount ∧ x2_lineCount ≤ 20) ∧ (0 ≤ x2_goodsCount ∧ x2_goodsCount ≤ 8) ∧ (0 ≤ x2_workCount ∧ x2_workCount ≤ 7) ∧ (1 ≤ x2_years ∧ x2_years ≤ 30) ∧ (LnOk x2_lines) ∧ (GdOk x2_goods) ∧ (WkOk x2_works) ∧ (AI 0 99 x2_change) ∧ (AI 0 9 x2_coin) ∧ (0 ≤ x3_lineCount ∧ x3_lineCount ≤ 20) ∧ (LnOk x3_lines) ∧ (AI 0 99 x3_change) ∧ (AI 0 35 x5_edgeA) ∧ (AI 0 35 x5_edgeB) ∧ (AI 0 19 x5_edgeLine) ∧ (0 ≤ x5_edgeCount ∧ x5_edgeCount ≤ 60) from ⟨h_x2_lineCount, h_x2_goodsCount, h_x2_workCount, h_x2_years, h_x2_lines, h_x2_goods, h_x2_works, h_x2_change, h_x2_coin, h_x3_lineCount, h_x3_lines, h_x3_change, h_x5_edgeA, h_x5_edgeB, h_x5_edgeLine, h_x5_edgeCount⟩)
set_option maxHeartbeats 1000000 in
theorem sX6_first {n : Nat} {x0_refused : (Nat → Int32)} {x0_isKept x0_gone x0_spent : Int32} {x1_gained : (Nat → Int32)} {x2_lineCount x2_goodsCount x2_workCount x2_years : Int32} {x2_lines x2_goods x2_works x2_change x2_coin x2_knownFree : (Nat → Int32)} {x2_isKnown x3_lineCount x3_goodsCount x3_workCount x3_years : Int32} {x3_lines x3_goods x3_works x3_change x3_coin x3_knownFree : (Nat → Int32)} {x3_isKnown : Int32} {x4_left x4_earned : (Nat → Int32)} {x4_turnCost x4_turnWayless : Int32} {x5_edgeA x5_edgeB x5_edgeCost x5_edgeLine x5_change x5_away x5_steps x5_nodes : (Nat → Int32)} {x5_stepCount : Int32} {x5_open : (Nat → Int32)} {x5_openCount : Int32} {x5_seen : Int64} {x5_edgeCount x5_aim : Int32} (hn : 1000000000000 ≤ n) (h_x2_lineCount : (0 ≤ x2_lineCount ∧ x2_lineCount ≤ 20)) (h_x2_goodsCount : (0 ≤ x2_goodsCount ∧ x2_goodsCount ≤ 8)) (h_x2_workCount : (0 ≤ x2_workCount ∧ x2_workCount ≤ 7)) (h_x2_years : (1 ≤ x2_years ∧ x2_years ≤ 30)) (h_x2_lines : (LnOk x2_lines)) (h_x2_goods : (GdOk x2_goods)) (h_x2_works : (WkOk x2_works)) (h_x2_change : (AI 0 99 x2_change)) (h_x2_coin : (AI 0 9 x2_coin)) (h_x3_lineCount : (0 ≤ x3_lineCount ∧ x3_lineCount ≤ 20)) (h_x3_goodsCount : (0 ≤ x3_goodsCount ∧ x3_goodsCount ≤ 8)) (h_x3_workCount : (0 ≤ x3_workCount ∧ x3_workCount ≤ 7)) (h_x3_years : (1 ≤ x3_years ∧ x3_years ≤ 30)) (h_x3_lines : (LnOk x3_lines)) (h_x3_goods : (GdOk x3_goods)) (h_x3_works : (WkOk x3_works)) (h_x3_change : (AI 0 99 x3_change)) (h_x3_coin : (AI 0 9 x3_coin)) (h_x5_edgeA : (AI 0 35 x5_edgeA)) (h_x5_edgeB : (AI 0 35 x5_edgeB)) (h_x5_edgeLine : (AI 0 19 x5_edgeLine)) (h_x5_steps : (AI 0 22 x5_steps)) (h_x5_nodes : (AI 0 35 x5_nodes)) (h_x5_stepCount : (0 ≤ x5_stepCount ∧ x5_stepCount ≤ 36)) (h_x5_open : (AI 0 35 x5_open)) (h_x5_openCount : (0 ≤ x5_openCount ∧ x5_openCount ≤ 36)) (h_x5_edgeCount : (0 ≤ x5_edgeCount ∧ x5_edgeCount ≤ 60)) : Sf (fX6_first n (x0_refused, x0_isKept, x0_gone, x0_spent) x1_gained (x2_lineCount, x2_goodsCount, x2_workCount, x2_years, x2_lines, x2_goods, x2_works, x2_change, x2_coin, x2_knownFree, x2_isKnown) (x3_lineCount, x3_goodsCount, x3_workCount, x3_years, x3_lines, x3_goods, x3_works, x3_change, x3_coin, x3_knownFree, x3_isKnown) (x4_left, x4_earned, x4_turnCost, x4_turnWayless) (x5_edgeA, x5_edgeB, x5_edgeCost, x5_edgeLine, x5_change, x5_away, x5_steps, x5_nodes, x5_stepCount, x5_open, x5_openCount, x5_seen, x5_edgeCount, x5_aim)) (fun r => (0 ≤ r.2.1.1 ∧ r.2.1.1 ≤ 20) ∧ (0 ≤ r.2.1.2.1 ∧ r.2.1.2.1 ≤ 8) ∧ (0 ≤ r.2.1.2.2.1 ∧ r.2.1.2.2.1 ≤ 7) ∧ (1 ≤ r.2.1.2.2.2.1 ∧ r.2.1.2.2.2.1 ≤ 30) ∧ (LnOk r.2.1.2.2.2.2.1) ∧ (GdOk r.2.1.2.2.2.2.2.1) ∧ (WkOk r.2.1.2.2.2.2.2.2.1) ∧ (AI 0 99 r.2.1.2.2.2.2.2.2.2.1) ∧ (AI 0 9 r.2.1.2.2.2.2.2.2.2.2.1) ∧ (0 ≤ r.2.2.1.1 ∧ r.2.2.1.1 ≤ 20) ∧ (LnOk r.2.2.1.2.1) ∧ (AI 0 99 r.2.2.1.2.2.1) ∧ (AI 0 35 r.2.2.2.1) ∧ (AI 0 35 r.2.2.2.2.1) ∧ (AI 0 19 r.2.2.2.2.2.2.1) ∧ (0 ≤ r.2.2.2.2.2.2.2.2.2.1 ∧ r.2.2.2.2.2.2.2.2.2.1 ≤ 60)) := by
  unfold fX6_first
  dsimp only [u11, u14, u4]
  refine Sf.bind (sX0_firstOf hn h_x5_edgeA h_x5_edgeB h_x5_edgeLine h_x5_steps h_x5_nodes h_x5_stepCount h_x5_open h_x5_openCount h_x5_edgeCount h_x2_lineCount h_x2_goodsCount h_x2_workCount h_x2_years h_x2_lines h_x2_goods h_x2_works h_x2_change h_x2_coin h_x3_lineCount h_x3_goodsCount h_x3_workCount h_x3_years h_x3_lines h_x3_goods h_x3_works h_x3_change h_x3_coin) ?_
  rintro ⟨v1, ⟨g3, g4, g5, g6, g7, g8, g9, g10⟩, ⟨g12, g13, g14, g15, g16, g17, g18, g19, g20, g21⟩, ⟨g23, g24, g25, g26, g27⟩⟩ hr1
  obtain ⟨h_v1, h_g3, h_g4, h_g6, h_g9, h_g12, h_g13, h_g14, h_g15, h_g16, h_g17, h_g18, h_g19, h_g20, h_g23, h_g24, h_g25⟩ : ((-1) ≤ v1 ∧ v1 ≤ 6) ∧ (AI 0 35 g3) ∧ (AI 0 35 g4) ∧ (AI 0 19 g6) ∧ (0 ≤ g9 ∧ g9 ≤ 60) ∧ (0 ≤ g12 ∧ g12 ≤ 20) ∧ (0 ≤ g13 ∧ g13 ≤ 8) ∧ (0 ≤ g14 ∧ g14 ≤ 7) ∧ (1 ≤ g15 ∧ g15 ≤ 30) ∧ (LnOk g16) ∧ (GdOk g17) ∧ (WkOk g18) ∧ (AI 0 99 g19) ∧ (AI 0 9 g20) ∧ (0 ≤ g23 ∧ g23 ≤ 20) ∧ (LnOk g24) ∧ (AI 0 99 g25) := hr1
  dsimp only [u10, u4, u5, u8]
  exact Sf.ok (show (0 ≤ g12 ∧ g12 ≤ 20) ∧ (0 ≤ g13 ∧ g13 ≤ 8) ∧ (0 ≤ g14 ∧ g14 ≤ 7) ∧ (1 ≤ g15 ∧ g15 ≤ 30) ∧ (LnOk g16) ∧ (GdOk g17) ∧ (WkOk g18) ∧ (AI 0 99 g19) ∧ (AI 0 9 g20) ∧ (0 ≤ g23 ∧ g23 ≤ 20) ∧ (LnOk g24) ∧ (AI 0 99 g25) ∧ (AI 0 35 g3) ∧ (AI 0 35 g4) ∧ (AI 0 19 g6) ∧ (0 ≤ g9 ∧ g9 ≤ 60) from ⟨h_g12, h_g13, h_g14, h_g15, h_g16, h_g17, h_g18, h_g19, h_g20, h_g23, h_g24, h_g25, h_g3, h_g4, h_g6, h_g9⟩)
set_option maxHeartbeats 1000000 in
theorem sX6_greedy {n : Nat} {x0_refused : (Nat → Int32)} {x0_isKept x0_gone x0_spent : Int32} {x1_gained : (Nat → Int32)} {x2_lineCount x2_goodsCount x2_workCount x2_years : Int32} {x2_lines x2_goods x2_works x2_change x2_coin x2_knownFree : (Nat → Int32)} {x2_isKnown x3_lineCount x3_goodsCount x3_workCount x3_years : Int32} {x3_lines x3_goods x3_works x3_change x3_coin x3_knownFree : (Nat → Int32)} {x3_isKnown x4_lineCount x4_goodsCount x4_workCount x4_years : Int32} {x4_lines x4_goods x4_works x4_change x4_coin x4_knownFree : (Nat → Int32)} {x4_isKnown : Int32} {x5_left x5_earned : (Nat → Int32)} {x5_turnCost x5_turnWayless : Int32} {x6_edgeA x6_edgeB x6_edgeCost x6_edgeLine x6_change x6_away x6_steps x6_nodes : (Nat → Int32)} {x6_stepCount : Int32} {x6_open : (Nat → Int32)} {x6_openCount : Int32} {x6_seen : Int64} {x6_edgeCount x6_aim : Int32} (hn : 1000000000000 ≤ n) (h_x2_lineCount : (0 ≤ x2_lineCount ∧ x2_lineCount ≤ 20)) (h_x2_goodsCount : (0 ≤ x2_goodsCount ∧ x2_goodsCount ≤ 8)) (h_x2_workCount : (0 ≤ x2_workCount ∧ x2_workCount ≤ 7)) (h_x2_years : (1 ≤ x2_years ∧ x2_years ≤ 30)) (h_x2_lines : (LnOk x2_lines)) (h_x2_goods : (GdOk x2_goods)) (h_x2_works : (WkOk x2_works)) (h_x2_change : (AI 0 99 x2_change)) (h_x2_coin : (AI 0 9 x2_coin)) (h_x3_lineCount : (0 ≤ x3_lineCount ∧ x3_lineCount ≤ 20)) (h_x3_goodsCount : (0 ≤ x3_goodsCount ∧ x3_goodsCount ≤ 8)) (h_x3_workCount : (0 ≤ x3_workCount ∧ x3_workCount ≤ 7)) (h_x3_years : (1 ≤ x3_years ∧ x3_years ≤ 30)) (h_x3_lines : (LnOk x3_lines)) (h_x3_goods : (GdOk x3_goods)) (h_x3_works : (WkOk x3_works)) (h_x3_change : (AI 0 99 x3_change)) (h_x3_coin : (AI 0 9 x3_coin)) (h_x4_lineCount : (0 ≤ x4_lineCount ∧ x4_lineCount ≤ 20)) (h_x4_goodsCount : (0 ≤ x4_goodsCount ∧ x4_goodsCount ≤ 8)) (h_x4_workCount : (0 ≤ x4_workCount ∧ x4_workCount ≤ 7)) (h_x4_years : (1 ≤ x4_years ∧ x4_years ≤ 30)) (h_x4_lines : (LnOk x4_lines)) (h_x4_goods : (GdOk x4_goods)) (h_x4_works : (WkOk x4_works)) (h_x4_change : (AI 0 99 x4_change)) (h_x4_coin : (AI 0 9 x4_coin)) (h_x6_edgeA : (AI 0 35 x6_edgeA)) (h_x6_edgeB : (AI 0 35 x6_edgeB)) (h_x6_edgeLine : (AI 0 19 x6_edgeLine)) (h_x6_steps : (AI 0 22 x6_steps)) (h_x6_nodes : (AI 0 35 x6_nodes)) (h_x6_stepCount : (0 ≤ x6_stepCount ∧ x6_stepCount ≤ 36)) (h_x6_open : (AI 0 35 x6_open)) (h_x6_openCount : (0 ≤ x6_openCount ∧ x6_openCount ≤ 36)) (h_x6_edgeCount : (0 ≤ x6_edgeCount ∧ x6_edgeCount ≤ 60)) : Sf (fX6_greedy n (x0_refused, x0_isKept, x0_gone, x0_spent) x1_gained (x2_lineCount, x2_goodsCount, x2_workCount, x2_years, x2_lines, x2_goods, x2_works, x2_change, x2_coin, x2_knownFree, x2_isKnown) (x3_lineCount, x3_goodsCount, x3_workCount, x3_years, x3_lines, x3_goods, x3_works, x3_change, x3_coin, x3_knownFree, x3_isKnown) (x4_lineCount, x4_goodsCount, x4_workCount, x4_years, x4_lines, x4_goods, x4_works, x4_change, x4_coin, x4_knownFree, x4_isKnown) (x5_left, x5_earned, x5_turnCost, x5_turnWayless) (x6_edgeA, x6_edgeB, x6_edgeCost, x6_edgeLine, x6_change, x6_away, x6_steps, x6_nodes, x6_stepCount, x6_open, x6_openCount, x6_seen, x6_edgeCount, x6_aim)) (fun r => (0 ≤ r.2.1.1 ∧ r.2.1.1 ≤ 20) ∧ (0 ≤ r.2.1.2.1 ∧ r.2.1.2.1 ≤ 8) ∧ (0 ≤ r.2.1.2.2.1 ∧ r.2.1.2.2.1 ≤ 7) ∧ (1 ≤ r.2.1.2.2.2.1 ∧ r.2.1.2.2.2.1 ≤ 30) ∧ (LnOk r.2.1.2.2.2.2.1) ∧ (GdOk r.2.1.2.2.2.2.2.1) ∧ (WkOk r.2.1.2.2.2.2.2.2.1) ∧ (AI 0 99 r.2.1.2.2.2.2.2.2.2.1) ∧ (AI 0 9 r.2.1.2.2.2.2.2.2.2.2.1) ∧ (0 ≤ r.2.2.1.1 ∧ r.2.2.1.1 ≤ 20) ∧ (0 ≤ r.2.2.1.2.1 ∧ r.2.2.1.2.1 ≤ 8) ∧ (0 ≤ r.2.2.1.2.2.1 ∧ r.2.2.1.2.2.1 ≤ 7) ∧ (1 ≤ r.2.2.1.2.2.2.1 ∧ r.2.2.1.2.2.2.1 ≤ 30) ∧ (LnOk r.2.2.1.2.2.2.2.1) ∧ (GdOk r.2.2.1.2.2.2.2.2.1) ∧ (WkOk r.2.2.1.2.2.2.2.2.2.1) ∧ (AI 0 99 r.2.2.1.2.2.2.2.2.2.2.1) ∧ (AI 0 9 r.2.2.1.2.2.2.2.2.2.2.2.1) ∧ (AI 0 35 r.2.2.2.1) ∧ (AI 0 35 r.2.2.2.2.1) ∧ (AI 0 19 r.2.2.2.2.2.2.1) ∧ (0 ≤ r.2.2.2.2.2.2.2.2.2.1 ∧ r.2.2.2.2.2.2.2.2.2.1 ≤ 60)) := by
  unfold fX6_greedy
  dsimp only [u11, u14, u4]
  refine Sf.bind (sX0_greedyOf hn h_x2_lineCount h_x2_goodsCount h_x2_workCount h_x2_years h_x2_lines h_x2_goods h_x2_works h_x2_change h_x2_coin h_x6_edgeA h_x6_edgeB h_x6_edgeLine h_x6_steps h_x6_nodes h_x6_stepCount h_x6_open h_x6_openCount h_x6_edgeCount h_x3_lineCount h_x3_goodsCount h_x3_workCount h_x3_years h_x3_lines h_x3_goods h_x3_works h_x3_change h_x3_coin h_x4_lineCount h_x4_goodsCount h_x4_workCount h_x4_years h_x4_lines h_x4_goods h_x4_works h_x4_change h_x4_coin) ?_
  rintro ⟨v1, ⟨g3, g4, g5, g6, g7, g8, g9, g10, g11, g12, g13⟩, ⟨g15, g16, g17, g18, g19, g20, g21, g22⟩, ⟨g24, g25, g26, g27, g28, g29, g30, g31, g32, g33⟩⟩ hr1
  obtain ⟨h_g3, h_g4, h_g5, h_g6, h_g7, h_g8, h_g9, h_g10, h_g11, h_g15, h_g16, h_g18, h_g21, h_g24, h_g25, h_g26, h_g27, h_g28, h_g29, h_g30, h_g31, h_g32⟩ : (0 ≤ g3 ∧ g3 ≤ 20) ∧ (0 ≤ g4 ∧ g4 ≤ 8) ∧ (0 ≤ g5 ∧ g5 ≤ 7) ∧ (1 ≤ g6 ∧ g6 ≤ 30) ∧ (LnOk g7) ∧ (GdOk g8) ∧ (WkOk g9) ∧ (AI 0 99 g10) ∧ (AI 0 9 g11) ∧ (AI 0 35 g15) ∧ (AI 0 35 g16) ∧ (AI 0 19 g18) ∧ (0 ≤ g21 ∧ g21 ≤ 60) ∧ (0 ≤ g24 ∧ g24 ≤ 20) ∧ (0 ≤ g25 ∧ g25 ≤ 8) ∧ (0 ≤ g26 ∧ g26 ≤ 7) ∧ (1 ≤ g27 ∧ g27 ≤ 30) ∧ (LnOk g28) ∧ (GdOk g29) ∧ (WkOk g30) ∧ (AI 0 99 g31) ∧ (AI 0 9 g32) := hr1
  dsimp only [u10, u11, u4, u8]
  exact Sf.ok (show (0 ≤ g3 ∧ g3 ≤ 20) ∧ (0 ≤ g4 ∧ g4 ≤ 8) ∧ (0 ≤ g5 ∧ g5 ≤ 7) ∧ (1 ≤ g6 ∧ g6 ≤ 30) ∧ (LnOk g7) ∧ (GdOk g8) ∧ (WkOk g9) ∧ (AI 0 99 g10) ∧ (AI 0 9 g11) ∧ (0 ≤ g24 ∧ g24 ≤ 20) ∧ (0 ≤ g25 ∧ g25 ≤ 8) ∧ (0 ≤ g26 ∧ g26 ≤ 7) ∧ (1 ≤ g27 ∧ g27 ≤ 30) ∧ (LnOk g28) ∧ (GdOk g29) ∧ (WkOk g30) ∧ (AI 0 99 g31) ∧ (AI 0 9 g32) ∧ (AI 0 35 g15) ∧ (AI 0 35 g16) ∧ (AI 0 19 g18) ∧ (0 ≤ g21 ∧ g21 ≤ 60) from ⟨h_g3, h_g4, h_g5, h_g6, h_g7, h_g8, h_g9, h_g10, h_g11, h_g24, h_g25, h_g26, h_g27, h_g28, h_g29, h_g30, h_g31, h_g32, h_g15, h_g16, h_g18, h_g21⟩)
set_option maxHeartbeats 1000000 in
theorem sX6_gap {n : Nat} {x0_refused : (Nat → Int32)} {x0_isKept x0_gone x0_spent : Int32} {x1_gained : (Nat → Int32)} {x2_lineCount x2_goodsCount x2_workCount x2_years : Int32} {x2_lines x2_goods x2_works x2_change x2_coin x2_knownFree : (Nat → Int32)} {x2_isKnown x3_lineCount x3_goodsCount x3_workCount x3_years : Int32} {x3_lines x3_goods x3_works x3_change x3_coin x3_knownFree : (Nat → Int32)} {x3_isKnown x4_lineCount x4_goodsCount x4_workCount x4_years : Int32} {x4_lines x4_goods x4_works x4_change x4_coin x4_knownFree : (Nat → Int32)} {x4_isKnown : Int32} {x5_left x5_earned : (Nat → Int32)} {x5_turnCost x5_turnWayless : Int32} {x6_edgeA x6_edgeB x6_edgeCost x6_edgeLine x6_change x6_away x6_steps x6_nodes : (Nat → Int32)} {x6_stepCount : Int32} {x6_open : (Nat → Int32)} {x6_openCount : Int32} {x6_seen : Int64} {x6_edgeCount x6_aim : Int32} (hn : 1000000000000 ≤ n) (h_x2_lineCount : (0 ≤ x2_lineCount ∧ x2_lineCount ≤ 20)) (h_x2_goodsCount : (0 ≤ x2_goodsCount ∧ x2_goodsCount ≤ 8)) (h_x2_workCount : (0 ≤ x2_workCount ∧ x2_workCount ≤ 7)) (h_x2_years : (1 ≤ x2_years ∧ x2_years ≤ 30)) (h_x2_lines : (LnOk x2_lines)) (h_x2_goods : (GdOk x2_goods)) (h_x2_works : (WkOk x2_works)) (h_x2_change : (AI 0 99 x2_change)) (h_x2_coin : (AI 0 9 x2_coin)) (h_x3_lineCount : (0 ≤ x3_lineCount ∧ x3_lineCount ≤ 20)) (h_x3_goodsCount : (0 ≤ x3_goodsCount ∧ x3_goodsCount ≤ 8)) (h_x3_workCount : (0 ≤ x3_workCount ∧ x3_workCount ≤ 7)) (h_x3_years : (1 ≤ x3_years ∧ x3_years ≤ 30)) (h_x3_lines : (LnOk x3_lines)) (h_x3_goods : (GdOk x3_goods)) (h_x3_works : (WkOk x3_works)) (h_x3_change : (AI 0 99 x3_change)) (h_x3_coin : (AI 0 9 x3_coin)) (h_x4_lineCount : (0 ≤ x4_lineCount ∧ x4_lineCount ≤ 20)) (h_x4_goodsCount : (0 ≤ x4_goodsCount ∧ x4_goodsCount ≤ 8)) (h_x4_workCount : (0 ≤ x4_workCount ∧ x4_workCount ≤ 7)) (h_x4_years : (1 ≤ x4_years ∧ x4_years ≤ 30)) (h_x4_lines : (LnOk x4_lines)) (h_x4_goods : (GdOk x4_goods)) (h_x4_works : (WkOk x4_works)) (h_x4_change : (AI 0 99 x4_change)) (h_x4_coin : (AI 0 9 x4_coin)) (h_x6_edgeA : (AI 0 35 x6_edgeA)) (h_x6_edgeB : (AI 0 35 x6_edgeB)) (h_x6_edgeLine : (AI 0 19 x6_edgeLine)) (h_x6_steps : (AI 0 22 x6_steps)) (h_x6_nodes : (AI 0 35 x6_nodes)) (h_x6_stepCount : (0 ≤ x6_stepCount ∧ x6_stepCount ≤ 36)) (h_x6_open : (AI 0 35 x6_open)) (h_x6_openCount : (0 ≤ x6_openCount ∧ x6_openCount ≤ 36)) (h_x6_edgeCount : (0 ≤ x6_edgeCount ∧ x6_edgeCount ≤ 60)) : Sf (fX6_gap n (x0_refused, x0_isKept, x0_gone, x0_spent) x1_gained (x2_lineCount, x2_goodsCount, x2_workCount, x2_years, x2_lines, x2_goods, x2_works, x2_change, x2_coin, x2_knownFree, x2_isKnown) (x3_lineCount, x3_goodsCount, x3_workCount, x3_years, x3_lines, x3_goods, x3_works, x3_change, x3_coin, x3_knownFree, x3_isKnown) (x4_lineCount, x4_goodsCount, x4_workCount, x4_years, x4_lines, x4_goods, x4_works, x4_change, x4_coin, x4_knownFree, x4_isKnown) (x5_left, x5_earned, x5_turnCost, x5_turnWayless) (x6_edgeA, x6_edgeB, x6_edgeCost, x6_edgeLine, x6_change, x6_away, x6_steps, x6_nodes, x6_stepCount, x6_open, x6_openCount, x6_seen, x6_edgeCount, x6_aim)) (fun r => (0 ≤ r.2.1.1 ∧ r.2.1.1 ≤ 20) ∧ (0 ≤ r.2.1.2.1 ∧ r.2.1.2.1 ≤ 8) ∧ (0 ≤ r.2.1.2.2.1 ∧ r.2.1.2.2.1 ≤ 7) ∧ (1 ≤ r.2.1.2.2.2.1 ∧ r.2.1.2.2.2.1 ≤ 30) ∧ (LnOk r.2.1.2.2.2.2.1) ∧ (GdOk r.2.1.2.2.2.2.2.1) ∧ (WkOk r.2.1.2.2.2.2.2.2.1) ∧ (AI 0 99 r.2.1.2.2.2.2.2.2.2.1) ∧ (AI 0 9 r.2.1.2.2.2.2.2.2.2.2.1) ∧ (0 ≤ r.2.2.1.1 ∧ r.2.2.1.1 ≤ 20) ∧ (0 ≤ r.2.2.1.2.1 ∧ r.2.2.1.2.1 ≤ 8) ∧ (0 ≤ r.2.2.1.2.2.1 ∧ r.2.2.1.2.2.1 ≤ 7) ∧ (1 ≤ r.2.2.1.2.2.2.1 ∧ r.2.2.1.2.2.2.1 ≤ 30) ∧ (LnOk r.2.2.1.2.2.2.2.1) ∧ (GdOk r.2.2.1.2.2.2.2.2.1) ∧ (WkOk r.2.2.1.2.2.2.2.2.2.1) ∧ (AI 0 99 r.2.2.1.2.2.2.2.2.2.2.1) ∧ (AI 0 9 r.2.2.1.2.2.2.2.2.2.2.2.1) ∧ (0 ≤ r.2.2.2.1.1 ∧ r.2.2.2.1.1 ≤ 20) ∧ (LnOk r.2.2.2.1.2.1) ∧ (AI 0 99 r.2.2.2.1.2.2.1) ∧ (AI 0 35 r.2.2.2.2.1) ∧ (AI 0 35 r.2.2.2.2.2.1) ∧ (AI 0 19 r.2.2.2.2.2.2.2.1) ∧ (0 ≤ r.2.2.2.2.2.2.2.2.2.2.1 ∧ r.2.2.2.2.2.2.2.2.2.2.1 ≤ 60)) := by
  unfold fX6_gap
  dsimp only [u11, u14, u4]
  refine Sf.bind (sX0_greedyOf hn h_x2_lineCount h_x2_goodsCount h_x2_workCount h_x2_years h_x2_lines h_x2_goods h_x2_works h_x2_change h_x2_coin h_x6_edgeA h_x6_edgeB h_x6_edgeLine h_x6_steps h_x6_nodes h_x6_stepCount h_x6_open h_x6_openCount h_x6_edgeCount h_x3_lineCount h_x3_goodsCount h_x3_workCount h_x3_years h_x3_lines h_x3_goods h_x3_works h_x3_change h_x3_coin h_x4_lineCount h_x4_goodsCount h_x4_workCount h_x4_years h_x4_lines h_x4_goods h_x4_works h_x4_change h_x4_coin) ?_
  rintro ⟨v1, ⟨g3, g4, g5, g6, g7, g8, g9, g10, g11, g12, g13⟩, ⟨g15, g16, g17, g18, g19, g20, g21, g22⟩, ⟨g24, g25, g26, g27, g28, g29, g30, g31, g32, g33⟩⟩ hr1
  obtain ⟨h_g3, h_g4, h_g5, h_g6, h_g7, h_g8, h_g9, h_g10, h_g11, h_g15, h_g16, h_g18, h_g21, h_g24, h_g25, h_g26, h_g27, h_g28, h_g29, h_g30, h_g31, h_g32⟩ : (0 ≤ g3 ∧ g3 ≤ 20) ∧ (0 ≤ g4 ∧ g4 ≤ 8) ∧ (0 ≤ g5 ∧ g5 ≤ 7) ∧ (1 ≤ g6 ∧ g6 ≤ 30) ∧ (LnOk g7) ∧ (GdOk g8) ∧ (WkOk g9) ∧ (AI 0 99 g10) ∧ (AI 0 9 g11) ∧ (AI 0 35 g15) ∧ (AI 0 35 g16) ∧ (AI 0 19 g18) ∧ (0 ≤ g21 ∧ g21 ≤ 60) ∧ (0 ≤ g24 ∧ g24 ≤ 20) ∧ (0 ≤ g25 ∧ g25 ≤ 8) ∧ (0 ≤ g26 ∧ g26 ≤ 7) ∧ (1 ≤ g27 ∧ g27 ≤ 30) ∧ (LnOk g28) ∧ (GdOk g29) ∧ (WkOk g30) ∧ (AI 0 99 g31) ∧ (AI 0 9 g32) := hr1
  dsimp only [u10, u11, u4, u8]
  refine Sf.bind (sX0_totalOf hn h_g15 h_g16 h_g18 h_x6_steps h_x6_nodes h_x6_stepCount h_x6_open h_x6_openCount h_g21 h_g24 h_g25 h_g26 h_g27 h_g28 h_g29 h_g30 h_g31 h_g32 h_x4_lineCount h_x4_goodsCount h_x4_workCount h_x4_years h_x4_lines h_x4_goods h_x4_works h_x4_change h_x4_coin) ?_
  rintro ⟨v35, ⟨g37, g38, g39, g40, g41, g42, g43, g44⟩, ⟨g46, g47, g48, g49, g50, g51, g52, g53, g54, g55⟩, ⟨g57, g58, g59, g60, g61⟩⟩ hr2
  obtain ⟨h_g37, h_g38, h_g40, h_g43, h_g46, h_g47, h_g48, h_g49, h_g50, h_g51, h_g52, h_g53, h_g54, h_g57, h_g58, h_g59⟩ : (AI 0 35 g37) ∧ (AI 0 35 g38) ∧ (AI 0 19 g40) ∧ (0 ≤ g43 ∧ g43 ≤ 60) ∧ (0 ≤ g46 ∧ g46 ≤ 20) ∧ (0 ≤ g47 ∧ g47 ≤ 8) ∧ (0 ≤ g48 ∧ g48 ≤ 7) ∧ (1 ≤ g49 ∧ g49 ≤ 30) ∧ (LnOk g50) ∧ (GdOk g51) ∧ (WkOk g52) ∧ (AI 0 99 g53) ∧ (AI 0 9 g54) ∧ (0 ≤ g57 ∧ g57 ≤ 20) ∧ (LnOk g58) ∧ (AI 0 99 g59) := hr2
  dsimp only [u10, u4, u5, u8]
  refine Sf.bind (sX0_bestOf hn h_g37 h_g38 h_g40 h_x6_steps h_x6_nodes h_x6_stepCount h_x6_open h_x6_openCount h_g43 h_g46 h_g47 h_g48 h_g49 h_g50 h_g51 h_g52 h_g53 h_g54 h_g57 h_x4_goodsCount h_x4_workCount h_x4_years h_g58 h_x4_goods h_x4_works h_g59 h_x4_coin) ?_
  rintro ⟨v63, ⟨g65, g66, g67, g68, g69, g70, g71, g72⟩, ⟨g74, g75, g76, g77, g78, g79, g80, g81, g82, g83⟩, ⟨g85, g86, g87, g88, g89⟩⟩ hr3
  obtain ⟨h_g65, h_g66, h_g68, h_g71, h_g74, h_g75, h_g76, h_g77, h_g78, h_g79, h_g80, h_g81, h_g82, h_g85, h_g86, h_g87⟩ : (AI 0 35 g65) ∧ (AI 0 35 g66) ∧ (AI 0 19 g68) ∧ (0 ≤ g71 ∧ g71 ≤ 60) ∧ (0 ≤ g74 ∧ g74 ≤ 20) ∧ (0 ≤ g75 ∧ g75 ≤ 8) ∧ (0 ≤ g76 ∧ g76 ≤ 7) ∧ (1 ≤ g77 ∧ g77 ≤ 30) ∧ (LnOk g78) ∧ (GdOk g79) ∧ (WkOk g80) ∧ (AI 0 99 g81) ∧ (AI 0 9 g82) ∧ (0 ≤ g85 ∧ g85 ≤ 20) ∧ (LnOk g86) ∧ (AI 0 99 g87) := hr3
  dsimp only [u10, u4, u5, u8]
  refine Sf.bind (sX0_totalOf hn h_g65 h_g66 h_g68 h_x6_steps h_x6_nodes h_x6_stepCount h_x6_open h_x6_openCount h_g71 h_g74 h_g75 h_g76 h_g77 h_g78 h_g79 h_g80 h_g81 h_g82 h_g85 h_x4_goodsCount h_x4_workCount h_x4_years h_g86 h_x4_goods h_x4_works h_g87 h_x4_coin) ?_
  rintro ⟨v91, ⟨g93, g94, g95, g96, g97, g98, g99, g100⟩, ⟨g102, g103, g104, g105, g106, g107, g108, g109, g110, g111⟩, ⟨g113, g114, g115, g116, g117⟩⟩ hr4
  obtain ⟨h_g93, h_g94, h_g96, h_g99, h_g102, h_g103, h_g104, h_g105, h_g106, h_g107, h_g108, h_g109, h_g110, h_g113, h_g114, h_g115⟩ : (AI 0 35 g93) ∧ (AI 0 35 g94) ∧ (AI 0 19 g96) ∧ (0 ≤ g99 ∧ g99 ≤ 60) ∧ (0 ≤ g102 ∧ g102 ≤ 20) ∧ (0 ≤ g103 ∧ g103 ≤ 8) ∧ (0 ≤ g104 ∧ g104 ≤ 7) ∧ (1 ≤ g105 ∧ g105 ≤ 30) ∧ (LnOk g106) ∧ (GdOk g107) ∧ (WkOk g108) ∧ (AI 0 99 g109) ∧ (AI 0 9 g110) ∧ (0 ≤ g113 ∧ g113 ≤ 20) ∧ (LnOk g114) ∧ (AI 0 99 g115) := hr4
  dsimp only [u10, u4, u5, u8]
  exact Sf.ok (show (0 ≤ g3 ∧ g3 ≤ 20) ∧ (0 ≤ g4 ∧ g4 ≤ 8) ∧ (0 ≤ g5 ∧ g5 ≤ 7) ∧ (1 ≤ g6 ∧ g6 ≤ 30) ∧ (LnOk g7) ∧ (GdOk g8) ∧ (WkOk g9) ∧ (AI 0 99 g10) ∧ (AI 0 9 g11) ∧ (0 ≤ g102 ∧ g102 ≤ 20) ∧ (0 ≤ g103 ∧ g103 ≤ 8) ∧ (0 ≤ g104 ∧ g104 ≤ 7) ∧ (1 ≤ g105 ∧ g105 ≤ 30) ∧ (LnOk g106) ∧ (GdOk g107) ∧ (WkOk g108) ∧ (AI 0 99 g109) ∧ (AI 0 9 g110) ∧ (0 ≤ g113 ∧ g113 ≤ 20) ∧ (LnOk g114) ∧ (AI 0 99 g115) ∧ (AI 0 35 g93) ∧ (AI 0 35 g94) ∧ (AI 0 19 g96) ∧ (0 ≤ g99 ∧ g99 ≤ 60) from ⟨h_g3, h_g4, h_g5, h_g6, h_g7, h_g8, h_g9, h_g10, h_g11, h_g102, h_g103, h_g104, h_g105, h_g106, h_g107, h_g108, h_g109, h_g110, h_g113, h_g114, h_g115, h_g93, h_g94, h_g96, h_g99⟩)
theorem TX6_edge_s18 {n : Nat} {p1 : Int32} {x1_gained x2_knownFree : (Nat → Int32)} {x3_goodsCount x3_workCount x3_years : Int32} {x3_goods x3_works x3_coin x4_left x4_earned : (Nat → Int32)} {x4_turnCost x4_turnWayless : Int32} {x5_steps x5_nodes : (Nat → Int32)} {x5_stepCount : Int32} {x5_open : (Nat → Int32)} {x5_openCount : Int32} {x5_seen : Int64} {z4 z5 z6 z7 z8 : Int32} {z9 z10 z11 z12 z13 : (Nat → Int32)} {z14 z15 : Int32} {z16 z17 z18 : (Nat → Int32)} {z19 : Int32} {z20 z21 z22 z23 z24 z25 : (Nat → Int32)} {z26 z27 : Int32} (hn : 1000000000000 ≤ n) (h_p1 : (0 ≤ p1 ∧ p1 ≤ 6)) (h_x3_goodsCount : (0 ≤ x3_goodsCount ∧ x3_goodsCount ≤ 8)) (h_x3_workCount : (0 ≤ x3_workCount ∧ x3_workCount ≤ 7)) (h_x3_years : (1 ≤ x3_years ∧ x3_years ≤ 30)) (h_x3_goods : (GdOk x3_goods)) (h_x3_works : (WkOk x3_works)) (h_x3_coin : (AI 0 9 x3_coin)) (h_x5_steps : (AI 0 22 x5_steps)) (h_x5_nodes : (AI 0 35 x5_nodes)) (h_x5_stepCount : (0 ≤ x5_stepCount ∧ x5_stepCount ≤ 36)) (h_x5_open : (AI 0 35 x5_open)) (h_x5_openCount : (0 ≤ x5_openCount ∧ x5_openCount ≤ 36)) (h_z4 : (0 ≤ z4)) (h_z5 : (0 ≤ z5 ∧ z5 ≤ 20)) (h_z6 : (0 ≤ z6 ∧ z6 ≤ 8)) (h_z7 : (0 ≤ z7 ∧ z7 ≤ 7)) (h_z8 : (1 ≤ z8 ∧ z8 ≤ 30)) (h_z9 : (LnOk z9)) (h_z10 : (GdOk z10)) (h_z11 : (WkOk z11)) (h_z12 : (AI 0 99 z12)) (h_z13 : (AI 0 9 z13)) (h_z15 : (0 ≤ z15 ∧ z15 ≤ 20)) (h_z16 : (LnOk z16)) (h_z17 : (AI 0 99 z17)) (h_z20 : (AI 0 35 z20)) (h_z21 : (AI 0 35 z21)) (h_z23 : (AI 0 19 z23)) (h_z26 : (0 ≤ z26 ∧ z26 ≤ 60)) : Sf (fX6_edge_s18 n p1 x1_gained x2_knownFree x3_goodsCount x3_workCount x3_years x3_goods x3_works x3_coin x4_left x4_earned x4_turnCost x4_turnWayless x5_steps x5_nodes x5_stepCount x5_open x5_openCount x5_seen z4 z5 z6 z7 z8 z9 z10 z11 z12 z13 z14 z15 z16 z17 z18 z19 z20 z21 z22 z23 z24 z25 z26 z27) (LQ (u24 (fun z4 z5 z6 z7 z8 z9 z10 z11 z12 z13 z14 z15 z16 z17 z18 z19 z20 z21 z22 z23 z24 z25 z26 z27 => (0 ≤ z4) ∧ (0 ≤ z5 ∧ z5 ≤ 20) ∧ (0 ≤ z6 ∧ z6 ≤ 8) ∧ (0 ≤ z7 ∧ z7 ≤ 7) ∧ (1 ≤ z8 ∧ z8 ≤ 30) ∧ (LnOk z9) ∧ (GdOk z10) ∧ (WkOk z11) ∧ (AI 0 99 z12) ∧ (AI 0 9 z13) ∧ (0 ≤ z15 ∧ z15 ≤ 20) ∧ (LnOk z16) ∧ (AI 0 99 z17) ∧ (AI 0 35 z20) ∧ (AI 0 35 z21) ∧ (AI 0 19 z23) ∧ (0 ≤ z26 ∧ z26 ≤ 60))) (u24 (fun z4 z5 z6 z7 z8 z9 z10 z11 z12 z13 z14 z15 z16 z17 z18 z19 z20 z21 z22 z23 z24 z25 z26 z27 => muUp z4)) (muUp z4) ((Sum.elim (fun a => (0 ≤ a.1) ∧ (0 ≤ a.2.1 ∧ a.2.1 ≤ 20) ∧ (0 ≤ a.2.2.1 ∧ a.2.2.1 ≤ 8) ∧ (0 ≤ a.2.2.2.1 ∧ a.2.2.2.1 ≤ 7) ∧ (1 ≤ a.2.2.2.2.1 ∧ a.2.2.2.2.1 ≤ 30) ∧ (LnOk a.2.2.2.2.2.1) ∧ (GdOk a.2.2.2.2.2.2.1) ∧ (WkOk a.2.2.2.2.2.2.2.1) ∧ (AI 0 99 a.2.2.2.2.2.2.2.2.1) ∧ (AI 0 9 a.2.2.2.2.2.2.2.2.2.1) ∧ (0 ≤ a.2.2.2.2.2.2.2.2.2.2.2.1 ∧ a.2.2.2.2.2.2.2.2.2.2.2.1 ≤ 20) ∧ (LnOk a.2.2.2.2.2.2.2.2.2.2.2.2.1) ∧ (AI 0 99 a.2.2.2.2.2.2.2.2.2.2.2.2.2.1) ∧ (AI 0 35 a.2.2.2.2.2.2.2.2.2.2.2.2.2.2.2.2.1) ∧ (AI 0 35 a.2.2.2.2.2.2.2.2.2.2.2.2.2.2.2.2.2.1) ∧ (AI 0 19 a.2.2.2.2.2.2.2.2.2.2.2.2.2.2.2.2.2.2.2.1) ∧ (0 ≤ a.2.2.2.2.2.2.2.2.2.2.2.2.2.2.2.2.2.2.2.2.2.2.1 ∧ a.2.2.2.2.2.2.2.2.2.2.2.2.2.2.2.2.2.2.2.2.2.2.1 ≤ 60)) (fun a => (0 ≤ a.1 ∧ a.1 ≤ 20) ∧ (0 ≤ a.2.1 ∧ a.2.1 ≤ 8) ∧ (0 ≤ a.2.2.1 ∧ a.2.2.1 ≤ 7) ∧ (1 ≤ a.2.2.2.1 ∧ a.2.2.2.1 ≤ 30) ∧ (LnOk a.2.2.2.2.1) ∧ (GdOk a.2.2.2.2.2.1) ∧ (WkOk a.2.2.2.2.2.2.1) ∧ (AI 0 99 a.2.2.2.2.2.2.2.1) ∧ (AI 0 9 a.2.2.2.2.2.2.2.2.1) ∧ (0 ≤ a.2.2.2.2.2.2.2.2.2.2.1 ∧ a.2.2.2.2.2.2.2.2.2.2.1 ≤ 20) ∧ (LnOk a.2.2.2.2.2.2.2.2.2.2.2.1) ∧ (AI 0 99 a.2.2.2.2.2.2.2.2.2.2.2.2.1) ∧ (AI 0 35 a.2.2.2.2.2.2.2.2.2.2.2.2.2.2.2.1) ∧ (AI 0 35 a.2.2.2.2.2.2.2.2.2.2.2.2.2.2.2.2.1) ∧ (AI 0 19 a.2.2.2.2.2.2.2.2.2.2.2.2.2.2.2.2.2.2.1) ∧ (0 ≤ a.2.2.2.2.2.2.2.2.2.2.2.2.2.2.2.2.2.2.2.2.2.1 ∧ a.2.2.2.2.2.2.2.2.2.2.2.2.2.2.2.2.2.2.2.2.2.1 ≤ 60))))) := by
  unfold fX6_edge_s18
  refine Sf.ite (fun hc1 => ?_) (fun hc1 => ?_)
  · exact Sf.inr (show (0 ≤ z5 ∧ z5 ≤ 20) ∧ (0 ≤ z6 ∧ z6 ≤ 8) ∧ (0 ≤ z7 ∧ z7 ≤ 7) ∧ (1 ≤ z8 ∧ z8 ≤ 30) ∧ (LnOk z9) ∧ (GdOk z10) ∧ (WkOk z11) ∧ (AI 0 99 z12) ∧ (AI 0 9 z13) ∧ (0 ≤ z15 ∧ z15 ≤ 20) ∧ (LnOk z16) ∧ (AI 0 99 z17) ∧ (AI 0 35 z20) ∧ (AI 0 35 z21) ∧ (AI 0 19 z23) ∧ (0 ≤ z26 ∧ z26 ≤ 60) from ⟨h_z5, h_z6, h_z7, h_z8, h_z9, h_z10, h_z11, h_z12, h_z13, h_z15, h_z16, h_z17, h_z20, h_z21, h_z23, h_z26⟩)
  · refine Sf.bind (sX0_worthIn hn h_z20 h_z21 h_z23 h_x5_steps h_x5_nodes h_x5_stepCount h_x5_open h_x5_openCount h_z26 h_z5 h_z6 h_z7 h_z8 h_z9 h_z10 h_z11 h_z12 h_z13 h_z15 h_x3_goodsCount h_x3_workCount h_x3_years h_z16 h_x3_goods h_x3_works h_z17 h_x3_coin h_p1) ?_
    rintro ⟨v76, ⟨g78, g79, g80, g81, g82, g83, g84, g85⟩, ⟨g87, g88, g89, g90, g91, g92, g93, g94, g95, g96⟩, ⟨g98, g99, g100, g101, g102⟩⟩ hr2
    obtain ⟨h_g78, h_g79, h_g81, h_g84, h_g87, h_g88, h_g89, h_g90, h_g91, h_g92, h_g93, h_g94, h_g95, h_g98, h_g99, h_g100⟩ : (AI 0 35 g78) ∧ (AI 0 35 g79) ∧ (AI 0 19 g81) ∧ (0 ≤ g84 ∧ g84 ≤ 60) ∧ (0 ≤ g87 ∧ g87 ≤ 20) ∧ (0 ≤ g88 ∧ g88 ≤ 8) ∧ (0 ≤ g89 ∧ g89 ≤ 7) ∧ (1 ≤ g90 ∧ g90 ≤ 30) ∧ (LnOk g91) ∧ (GdOk g92) ∧ (WkOk g93) ∧ (AI 0 99 g94) ∧ (AI 0 9 g95) ∧ (0 ≤ g98 ∧ g98 ≤ 20) ∧ (LnOk g99) ∧ (AI 0 99 g100) := hr2
    dsimp only [u10, u4, u5, u8]
    refine Sf.ite (fun hc3 => ?_) (fun hc3 => ?_)
    · exact Sf.inl (show (0 ≤ (z4 + 1)) ∧ (0 ≤ g87 ∧ g87 ≤ 20) ∧ (0 ≤ g88 ∧ g88 ≤ 8) ∧ (0 ≤ g89 ∧ g89 ≤ 7) ∧ (1 ≤ g90 ∧ g90 ≤ 30) ∧ (LnOk g91) ∧ (GdOk g92) ∧ (WkOk g93) ∧ (AI 0 99 g94) ∧ (AI 0 9 g95) ∧ (0 ≤ g98 ∧ g98 ≤ 20) ∧ (LnOk g99) ∧ (AI 0 99 g100) ∧ (AI 0 35 g78) ∧ (AI 0 35 g79) ∧ (AI 0 19 g81) ∧ (0 ≤ g84 ∧ g84 ≤ 60) from ⟨(by grind), h_g87, h_g88, h_g89, h_g90, h_g91, h_g92, h_g93, h_g94, h_g95, h_g98, h_g99, h_g100, h_g78, h_g79, h_g81, h_g84⟩) (muUp_lt' (B := 2147483647) (by grind))
    · exact Sf.inr (show (0 ≤ z4) ∧ (0 ≤ g87 ∧ g87 ≤ 20) ∧ (0 ≤ g88 ∧ g88 ≤ 8) ∧ (0 ≤ g89 ∧ g89 ≤ 7) ∧ (1 ≤ g90 ∧ g90 ≤ 30) ∧ (LnOk g91) ∧ (GdOk g92) ∧ (WkOk g93) ∧ (AI 0 99 g94) ∧ (AI 0 9 g95) ∧ (0 ≤ g98 ∧ g98 ≤ 20) ∧ (LnOk g99) ∧ (AI 0 99 g100) ∧ (AI 0 35 g78) ∧ (AI 0 35 g79) ∧ (AI 0 19 g81) ∧ (0 ≤ g84 ∧ g84 ≤ 60) from ⟨h_z4, h_g87, h_g88, h_g89, h_g90, h_g91, h_g92, h_g93, h_g94, h_g95, h_g98, h_g99, h_g100, h_g78, h_g79, h_g81, h_g84⟩)
theorem LX6_edge_s18 {n : Nat} {p1 : Int32} {x1_gained x2_knownFree : (Nat → Int32)} {x3_goodsCount x3_workCount x3_years : Int32} {x3_goods x3_works x3_coin x4_left x4_earned : (Nat → Int32)} {x4_turnCost x4_turnWayless : Int32} {x5_steps x5_nodes : (Nat → Int32)} {x5_stepCount : Int32} {x5_open : (Nat → Int32)} {x5_openCount : Int32} {x5_seen : Int64} {z4 z5 z6 z7 z8 : Int32} {z9 z10 z11 z12 z13 : (Nat → Int32)} {z14 z15 : Int32} {z16 z17 z18 : (Nat → Int32)} {z19 : Int32} {z20 z21 z22 z23 z24 z25 : (Nat → Int32)} {z26 z27 : Int32} (hn : 1000000000000 ≤ n) (h_p1 : (0 ≤ p1 ∧ p1 ≤ 6)) (h_x3_goodsCount : (0 ≤ x3_goodsCount ∧ x3_goodsCount ≤ 8)) (h_x3_workCount : (0 ≤ x3_workCount ∧ x3_workCount ≤ 7)) (h_x3_years : (1 ≤ x3_years ∧ x3_years ≤ 30)) (h_x3_goods : (GdOk x3_goods)) (h_x3_works : (WkOk x3_works)) (h_x3_coin : (AI 0 9 x3_coin)) (h_x5_steps : (AI 0 22 x5_steps)) (h_x5_nodes : (AI 0 35 x5_nodes)) (h_x5_stepCount : (0 ≤ x5_stepCount ∧ x5_stepCount ≤ 36)) (h_x5_open : (AI 0 35 x5_open)) (h_x5_openCount : (0 ≤ x5_openCount ∧ x5_openCount ≤ 36)) (h_z4 : (0 ≤ z4)) (h_z5 : (0 ≤ z5 ∧ z5 ≤ 20)) (h_z6 : (0 ≤ z6 ∧ z6 ≤ 8)) (h_z7 : (0 ≤ z7 ∧ z7 ≤ 7)) (h_z8 : (1 ≤ z8 ∧ z8 ≤ 30)) (h_z9 : (LnOk z9)) (h_z10 : (GdOk z10)) (h_z11 : (WkOk z11)) (h_z12 : (AI 0 99 z12)) (h_z13 : (AI 0 9 z13)) (h_z15 : (0 ≤ z15 ∧ z15 ≤ 20)) (h_z16 : (LnOk z16)) (h_z17 : (AI 0 99 z17)) (h_z20 : (AI 0 35 z20)) (h_z21 : (AI 0 35 z21)) (h_z23 : (AI 0 19 z23)) (h_z26 : (0 ≤ z26 ∧ z26 ≤ 60)) : Sf (lp (u24 (fX6_edge_s18 n p1 x1_gained x2_knownFree x3_goodsCount x3_workCount x3_years x3_goods x3_works x3_coin x4_left x4_earned x4_turnCost x4_turnWayless x5_steps x5_nodes x5_stepCount x5_open x5_openCount x5_seen)) n (z4, z5, z6, z7, z8, z9, z10, z11, z12, z13, z14, z15, z16, z17, z18, z19, z20, z21, z22, z23, z24, z25, z26, z27)) ((Sum.elim (fun a => (0 ≤ a.1) ∧ (0 ≤ a.2.1 ∧ a.2.1 ≤ 20) ∧ (0 ≤ a.2.2.1 ∧ a.2.2.1 ≤ 8) ∧ (0 ≤ a.2.2.2.1 ∧ a.2.2.2.1 ≤ 7) ∧ (1 ≤ a.2.2.2.2.1 ∧ a.2.2.2.2.1 ≤ 30) ∧ (LnOk a.2.2.2.2.2.1) ∧ (GdOk a.2.2.2.2.2.2.1) ∧ (WkOk a.2.2.2.2.2.2.2.1) ∧ (AI 0 99 a.2.2.2.2.2.2.2.2.1) ∧ (AI 0 9 a.2.2.2.2.2.2.2.2.2.1) ∧ (0 ≤ a.2.2.2.2.2.2.2.2.2.2.2.1 ∧ a.2.2.2.2.2.2.2.2.2.2.2.1 ≤ 20) ∧ (LnOk a.2.2.2.2.2.2.2.2.2.2.2.2.1) ∧ (AI 0 99 a.2.2.2.2.2.2.2.2.2.2.2.2.2.1) ∧ (AI 0 35 a.2.2.2.2.2.2.2.2.2.2.2.2.2.2.2.2.1) ∧ (AI 0 35 a.2.2.2.2.2.2.2.2.2.2.2.2.2.2.2.2.2.1) ∧ (AI 0 19 a.2.2.2.2.2.2.2.2.2.2.2.2.2.2.2.2.2.2.2.1) ∧ (0 ≤ a.2.2.2.2.2.2.2.2.2.2.2.2.2.2.2.2.2.2.2.2.2.2.1 ∧ a.2.2.2.2.2.2.2.2.2.2.2.2.2.2.2.2.2.2.2.2.2.2.1 ≤ 60)) (fun a => (0 ≤ a.1 ∧ a.1 ≤ 20) ∧ (0 ≤ a.2.1 ∧ a.2.1 ≤ 8) ∧ (0 ≤ a.2.2.1 ∧ a.2.2.1 ≤ 7) ∧ (1 ≤ a.2.2.2.1 ∧ a.2.2.2.1 ≤ 30) ∧ (LnOk a.2.2.2.2.1) ∧ (GdOk a.2.2.2.2.2.1) ∧ (WkOk a.2.2.2.2.2.2.1) ∧ (AI 0 99 a.2.2.2.2.2.2.2.1) ∧ (AI 0 9 a.2.2.2.2.2.2.2.2.1) ∧ (0 ≤ a.2.2.2.2.2.2.2.2.2.2.1 ∧ a.2.2.2.2.2.2.2.2.2.2.1 ≤ 20) ∧ (LnOk a.2.2.2.2.2.2.2.2.2.2.2.1) ∧ (AI 0 99 a.2.2.2.2.2.2.2.2.2.2.2.2.1) ∧ (AI 0 35 a.2.2.2.2.2.2.2.2.2.2.2.2.2.2.2.1) ∧ (AI 0 35 a.2.2.2.2.2.2.2.2.2.2.2.2.2.2.2.2.1) ∧ (AI 0 19 a.2.2.2.2.2.2.2.2.2.2.2.2.2.2.2.2.2.2.1) ∧ (0 ≤ a.2.2.2.2.2.2.2.2.2.2.2.2.2.2.2.2.2.2.2.2.2.1 ∧ a.2.2.2.2.2.2.2.2.2.2.2.2.2.2.2.2.2.2.2.2.2.1 ≤ 60)))) :=
  Sf.loop24 (fun z4 z5 z6 z7 z8 z9 z10 z11 z12 z13 z14 z15 z16 z17 z18 z19 z20 z21 z22 z23 z24 z25 z26 z27 => (0 ≤ z4) ∧ (0 ≤ z5 ∧ z5 ≤ 20) ∧ (0 ≤ z6 ∧ z6 ≤ 8) ∧ (0 ≤ z7 ∧ z7 ≤ 7) ∧ (1 ≤ z8 ∧ z8 ≤ 30) ∧ (LnOk z9) ∧ (GdOk z10) ∧ (WkOk z11) ∧ (AI 0 99 z12) ∧ (AI 0 9 z13) ∧ (0 ≤ z15 ∧ z15 ≤ 20) ∧ (LnOk z16) ∧ (AI 0 99 z17) ∧ (AI 0 35 z20) ∧ (AI 0 35 z21) ∧ (AI 0 19 z23) ∧ (0 ≤ z26 ∧ z26 ≤ 60)) (fun z4 z5 z6 z7 z8 z9 z10 z11 z12 z13 z14 z15 z16 z17 z18 z19 z20 z21 z22 z23 z24 z25 z26 z27 => muUp z4) (fun z4 z5 z6 z7 z8 z9 z10 z11 z12 z13 z14 z15 z16 z17 z18 z19 z20 z21 z22 z23 z24 z25 z26 z27 h => TX6_edge_s18 hn h_p1 h_x3_goodsCount h_x3_workCount h_x3_years h_x3_goods h_x3_works h_x3_coin h_x5_steps h_x5_nodes h_x5_stepCount h_x5_open h_x5_openCount h.1 h.2.1 h.2.2.1 h.2.2.2.1 h.2.2.2.2.1 h.2.2.2.2.2.1 h.2.2.2.2.2.2.1 h.2.2.2.2.2.2.2.1 h.2.2.2.2.2.2.2.2.1 h.2.2.2.2.2.2.2.2.2.1 h.2.2.2.2.2.2.2.2.2.2.1 h.2.2.2.2.2.2.2.2.2.2.2.1 h.2.2.2.2.2.2.2.2.2.2.2.2.1 h.2.2.2.2.2.2.2.2.2.2.2.2.2.1 h.2.2.2.2.2.2.2.2.2.2.2.2.2.2.1 h.2.2.2.2.2.2.2.2.2.2.2.2.2.2.2.1 h.2.2.2.2.2.2.2.2.2.2.2.2.2.2.2.2) (show (0 ≤ z4) ∧ (0 ≤ z5 ∧ z5 ≤ 20) ∧ (0 ≤ z6 ∧ z6 ≤ 8) ∧ (0 ≤ z7 ∧ z7 ≤ 7) ∧ (1 ≤ z8 ∧ z8 ≤ 30) ∧ (LnOk z9) ∧ (GdOk z10) ∧ (WkOk z11) ∧ (AI 0 99 z12) ∧ (AI 0 9 z13) ∧ (0 ≤ z15 ∧ z15 ≤ 20) ∧ (LnOk z16) ∧ (AI 0 99 z17) ∧ (AI 0 35 z20) ∧ (AI 0 35 z21) ∧ (AI 0 19 z23) ∧ (0 ≤ z26 ∧ z26 ≤ 60) from ⟨h_z4, h_z5, h_z6, h_z7, h_z8, h_z9, h_z10, h_z11, h_z12, h_z13, h_z15, h_z16, h_z17, h_z20, h_z21, h_z23, h_z26⟩) (muUp_n hn)
set_option maxHeartbeats 1000000 in
theorem sX6_edge {n : Nat} {x0_refused : (Nat → Int32)} {x0_isKept x0_gone x0_spent : Int32} {x1_gained : (Nat → Int32)} {x2_lineCount x2_goodsCount x2_workCount x2_years : Int32} {x2_lines x2_goods x2_works x2_change x2_coin x2_knownFree : (Nat → Int32)} {x2_isKnown x3_lineCount x3_goodsCount x3_workCount x3_years : Int32} {x3_lines x3_goods x3_works x3_change x3_coin x3_knownFree : (Nat → Int32)} {x3_isKnown : Int32} {x4_left x4_earned : (Nat → Int32)} {x4_turnCost x4_turnWayless : Int32} {x5_edgeA x5_edgeB x5_edgeCost x5_edgeLine x5_change x5_away x5_steps x5_nodes : (Nat → Int32)} {x5_stepCount : Int32} {x5_open : (Nat → Int32)} {x5_openCount : Int32} {x5_seen : Int64} {x5_edgeCount x5_aim p1 : Int32} (hn : 1000000000000 ≤ n) (h_x2_lineCount : (0 ≤ x2_lineCount ∧ x2_lineCount ≤ 20)) (h_x2_goodsCount : (0 ≤ x2_goodsCount ∧ x2_goodsCount ≤ 8)) (h_x2_workCount : (0 ≤ x2_workCount ∧ x2_workCount ≤ 7)) (h_x2_years : (1 ≤ x2_years ∧ x2_years ≤ 30)) (h_x2_lines : (LnOk x2_lines)) (h_x2_goods : (GdOk x2_goods)) (h_x2_works : (WkOk x2_works)) (h_x2_change : (AI 0 99 x2_change)) (h_x2_coin : (AI 0 9 x2_coin)) (h_x3_lineCount : (0 ≤ x3_lineCount ∧ x3_lineCount ≤ 20)) (h_x3_goodsCount : (0 ≤ x3_goodsCount ∧ x3_goodsCount ≤ 8)) (h_x3_workCount : (0 ≤ x3_workCount ∧ x3_workCount ≤ 7)) (h_x3_years : (1 ≤ x3_years ∧ x3_years ≤ 30)) (h_x3_lines : (LnOk x3_lines)) (h_x3_goods : (GdOk x3_goods)) (h_x3_works : (WkOk x3_works)) (h_x3_change : (AI 0 99 x3_change)) (h_x3_coin : (AI 0 9 x3_coin)) (h_x5_edgeA : (AI 0 35 x5_edgeA)) (h_x5_edgeB : (AI 0 35 x5_edgeB)) (h_x5_edgeLine : (AI 0 19 x5_edgeLine)) (h_x5_steps : (AI 0 22 x5_steps)) (h_x5_nodes : (AI 0 35 x5_nodes)) (h_x5_stepCount : (0 ≤ x5_stepCount ∧ x5_stepCount ≤ 36)) (h_x5_open : (AI 0 35 x5_open)) (h_x5_openCount : (0 ≤ x5_openCount ∧ x5_openCount ≤ 36)) (h_x5_edgeCount : (0 ≤ x5_edgeCount ∧ x5_edgeCount ≤ 60)) : Sf (fX6_edge n (x0_refused, x0_isKept, x0_gone, x0_spent) x1_gained (x2_lineCount, x2_goodsCount, x2_workCount, x2_years, x2_lines, x2_goods, x2_works, x2_change, x2_coin, x2_knownFree, x2_isKnown) (x3_lineCount, x3_goodsCount, x3_workCount, x3_years, x3_lines, x3_goods, x3_works, x3_change, x3_coin, x3_knownFree, x3_isKnown) (x4_left, x4_earned, x4_turnCost, x4_turnWayless) (x5_edgeA, x5_edgeB, x5_edgeCost, x5_edgeLine, x5_change, x5_away, x5_steps, x5_nodes, x5_stepCount, x5_open, x5_openCount, x5_seen, x5_edgeCount, x5_aim) p1) (fun r => (0 ≤ r.2.2.1.1 ∧ r.2.2.1.1 ≤ 20) ∧ (0 ≤ r.2.2.1.2.1 ∧ r.2.2.1.2.1 ≤ 8) ∧ (0 ≤ r.2.2.1.2.2.1 ∧ r.2.2.1.2.2.1 ≤ 7) ∧ (1 ≤ r.2.2.1.2.2.2.1 ∧ r.2.2.1.2.2.2.1 ≤ 30) ∧ (LnOk r.2.2.1.2.2.2.2.1) ∧ (GdOk r.2.2.1.2.2.2.2.2.1) ∧ (WkOk r.2.2.1.2.2.2.2.2.2.1) ∧ (AI 0 99 r.2.2.1.2.2.2.2.2.2.2.1) ∧ (AI 0 9 r.2.2.1.2.2.2.2.2.2.2.2.1) ∧ (0 ≤ r.2.2.2.1.1 ∧ r.2.2.2.1.1 ≤ 20) ∧ (LnOk r.2.2.2.1.2.1) ∧ (AI 0 99 r.2.2.2.1.2.2.1) ∧ (AI 0 35 r.2.2.2.2.1) ∧ (AI 0 35 r.2.2.2.2.2.1) ∧ (AI 0 19 r.2.2.2.2.2.2.2.1) ∧ (0 ≤ r.2.2.2.2.2.2.2.2.2.2.1 ∧ r.2.2.2.2.2.2.2.2.2.2.1 ≤ 60)) := by
  unfold fX6_edge
  dsimp only [u11, u14, u4]
  refine Sf.bind (sX6_noChoice h_x3_lineCount h_x3_goodsCount h_x3_workCount h_x3_years h_x3_lines h_x3_goods h_x3_works h_x3_change h_x3_coin) ?_
  intro v1 hr1
  have hx_v1 : (v1 ≠ 0 ∨ (0 ≤ p1 ∧ p1 < x3_workCount)) := hr1
  refine Sf.ite (fun hc2 => ?_) (fun hc2 => ?_)
  · refine Sf.bindS (LX6_edge_s18 hn (by grind) h_x3_goodsCount h_x3_workCount h_x3_years h_x3_goods h_x3_works h_x3_coin h_x5_steps h_x5_nodes h_x5_stepCount h_x5_open h_x5_openCount (by decide) h_x2_lineCount h_x2_goodsCount h_x2_workCount h_x2_years h_x2_lines h_x2_goods h_x2_works h_x2_change h_x2_coin h_x3_lineCount h_x3_lines h_x3_change h_x5_edgeA h_x5_edgeB h_x5_edgeLine h_x5_edgeCount) ?_ ?_
    · rintro ⟨w29, w30, w31, w32, w33, w34, w35, w36, w37, w38, w39, w40, w41, w42, w43, w44, w45, w46, w47, w48, w49, w50, w51, w52⟩ hr3
      obtain ⟨h_w29, h_w30, h_w31, h_w32, h_w33, h_w34, h_w35, h_w36, h_w37, h_w38, h_w40, h_w41, h_w42, h_w45, h_w46, h_w48, h_w51⟩ : (0 ≤ w29) ∧ (0 ≤ w30 ∧ w30 ≤ 20) ∧ (0 ≤ w31 ∧ w31 ≤ 8) ∧ (0 ≤ w32 ∧ w32 ≤ 7) ∧ (1 ≤ w33 ∧ w33 ≤ 30) ∧ (LnOk w34) ∧ (GdOk w35) ∧ (WkOk w36) ∧ (AI 0 99 w37) ∧ (AI 0 9 w38) ∧ (0 ≤ w40 ∧ w40 ≤ 20) ∧ (LnOk w41) ∧ (AI 0 99 w42) ∧ (AI 0 35 w45) ∧ (AI 0 35 w46) ∧ (AI 0 19 w48) ∧ (0 ≤ w51 ∧ w51 ≤ 60) := hr3
      dsimp only [u24]
      exact Sf.ok (show (0 ≤ w30 ∧ w30 ≤ 20) ∧ (0 ≤ w31 ∧ w31 ≤ 8) ∧ (0 ≤ w32 ∧ w32 ≤ 7) ∧ (1 ≤ w33 ∧ w33 ≤ 30) ∧ (LnOk w34) ∧ (GdOk w35) ∧ (WkOk w36) ∧ (AI 0 99 w37) ∧ (AI 0 9 w38) ∧ (0 ≤ w40 ∧ w40 ≤ 20) ∧ (LnOk w41) ∧ (AI 0 99 w42) ∧ (AI 0 35 w45) ∧ (AI 0 35 w46) ∧ (AI 0 19 w48) ∧ (0 ≤ w51 ∧ w51 ≤ 60) from ⟨h_w30, h_w31, h_w32, h_w33, h_w34, h_w35, h_w36, h_w37, h_w38, h_w40, h_w41, h_w42, h_w45, h_w46, h_w48, h_w51⟩)
    · rintro ⟨w53, w54, w55, w56, w57, w58, w59, w60, w61, w62, w63, w64, w65, w66, w67, w68, w69, w70, w71, w72, w73, w74, w75⟩ hr4
      obtain ⟨h_w53, h_w54, h_w55, h_w56, h_w57, h_w58, h_w59, h_w60, h_w61, h_w63, h_w64, h_w65, h_w68, h_w69, h_w71, h_w74⟩ : (0 ≤ w53 ∧ w53 ≤ 20) ∧ (0 ≤ w54 ∧ w54 ≤ 8) ∧ (0 ≤ w55 ∧ w55 ≤ 7) ∧ (1 ≤ w56 ∧ w56 ≤ 30) ∧ (LnOk w57) ∧ (GdOk w58) ∧ (WkOk w59) ∧ (AI 0 99 w60) ∧ (AI 0 9 w61) ∧ (0 ≤ w63 ∧ w63 ≤ 20) ∧ (LnOk w64) ∧ (AI 0 99 w65) ∧ (AI 0 35 w68) ∧ (AI 0 35 w69) ∧ (AI 0 19 w71) ∧ (0 ≤ w74 ∧ w74 ≤ 60) := hr4
      dsimp only [u23]
      exact Sf.ok (show (0 ≤ w53 ∧ w53 ≤ 20) ∧ (0 ≤ w54 ∧ w54 ≤ 8) ∧ (0 ≤ w55 ∧ w55 ≤ 7) ∧ (1 ≤ w56 ∧ w56 ≤ 30) ∧ (LnOk w57) ∧ (GdOk w58) ∧ (WkOk w59) ∧ (AI 0 99 w60) ∧ (AI 0 9 w61) ∧ (0 ≤ w63 ∧ w63 ≤ 20) ∧ (LnOk w64) ∧ (AI 0 99 w65) ∧ (AI 0 35 w68) ∧ (AI 0 35 w69) ∧ (AI 0 19 w71) ∧ (0 ≤ w74 ∧ w74 ≤ 60) from ⟨h_w53, h_w54, h_w55, h_w56, h_w57, h_w58, h_w59, h_w60, h_w61, h_w63, h_w64, h_w65, h_w68, h_w69, h_w71, h_w74⟩)
  · refine Sf.bind (sX6_refuse ) ?_
    rintro ⟨v104, g105⟩ hr5
    dsimp only [u2]
    exact Sf.ok (show (0 ≤ x2_lineCount ∧ x2_lineCount ≤ 20) ∧ (0 ≤ x2_goodsCount ∧ x2_goodsCount ≤ 8) ∧ (0 ≤ x2_workCount ∧ x2_workCount ≤ 7) ∧ (1 ≤ x2_years ∧ x2_years ≤ 30) ∧ (LnOk x2_lines) ∧ (GdOk x2_goods) ∧ (WkOk x2_works) ∧ (AI 0 99 x2_change) ∧ (AI 0 9 x2_coin) ∧ (0 ≤ x3_lineCount ∧ x3_lineCount ≤ 20) ∧ (LnOk x3_lines) ∧ (AI 0 99 x3_change) ∧ (AI 0 35 x5_edgeA) ∧ (AI 0 35 x5_edgeB) ∧ (AI 0 19 x5_edgeLine) ∧ (0 ≤ x5_edgeCount ∧ x5_edgeCount ≤ 60) from ⟨h_x2_lineCount, h_x2_goodsCount, h_x2_workCount, h_x2_years, h_x2_lines, h_x2_goods, h_x2_works, h_x2_change, h_x2_coin, h_x3_lineCount, h_x3_lines, h_x3_change, h_x5_edgeA, h_x5_edgeB, h_x5_edgeLine, h_x5_edgeCount⟩)
set_option maxHeartbeats 1000000 in
theorem sX6_never {n : Nat} {x0_refused : (Nat → Int32)} {x0_isKept x0_gone x0_spent : Int32} {x1_gained : (Nat → Int32)} {x2_lineCount x2_goodsCount x2_workCount x2_years : Int32} {x2_lines x2_goods x2_works x2_change x2_coin x2_knownFree : (Nat → Int32)} {x2_isKnown x3_lineCount x3_goodsCount x3_workCount x3_years : Int32} {x3_lines x3_goods x3_works x3_change x3_coin x3_knownFree : (Nat → Int32)} {x3_isKnown : Int32} {x4_left x4_earned : (Nat → Int32)} {x4_turnCost x4_turnWayless : Int32} {x5_edgeA x5_edgeB x5_edgeCost x5_edgeLine x5_change x5_away x5_steps x5_nodes : (Nat → Int32)} {x5_stepCount : Int32} {x5_open : (Nat → Int32)} {x5_openCount : Int32} {x5_seen : Int64} {x5_edgeCount x5_aim : Int32} (hn : 1000000000000 ≤ n) (h_x2_lineCount : (0 ≤ x2_lineCount ∧ x2_lineCount ≤ 20)) (h_x2_goodsCount : (0 ≤ x2_goodsCount ∧ x2_goodsCount ≤ 8)) (h_x2_workCount : (0 ≤ x2_workCount ∧ x2_workCount ≤ 7)) (h_x2_years : (1 ≤ x2_years ∧ x2_years ≤ 30)) (h_x2_lines : (LnOk x2_lines)) (h_x2_goods : (GdOk x2_goods)) (h_x2_works : (WkOk x2_works)) (h_x2_change : (AI 0 99 x2_change)) (h_x2_coin : (AI 0 9 x2_coin)) (h_x3_lineCount : (0 ≤ x3_lineCount ∧ x3_lineCount ≤ 20)) (h_x3_goodsCount : (0 ≤ x3_goodsCount ∧ x3_goodsCount ≤ 8)) (h_x3_workCount : (0 ≤ x3_workCount ∧ x3_workCount ≤ 7)) (h_x3_years : (1 ≤ x3_years ∧ x3_years ≤ 30)) (h_x3_lines : (LnOk x3_lines)) (h_x3_goods : (GdOk x3_goods)) (h_x3_works : (WkOk x3_works)) (h_x3_change : (AI 0 99 x3_change)) (h_x3_coin : (AI 0 9 x3_coin)) (h_x5_edgeA : (AI 0 35 x5_edgeA)) (h_x5_edgeB : (AI 0 35 x5_edgeB)) (h_x5_edgeLine : (AI 0 19 x5_edgeLine)) (h_x5_steps : (AI 0 22 x5_steps)) (h_x5_nodes : (AI 0 35 x5_nodes)) (h_x5_stepCount : (0 ≤ x5_stepCount ∧ x5_stepCount ≤ 36)) (h_x5_open : (AI 0 35 x5_open)) (h_x5_openCount : (0 ≤ x5_openCount ∧ x5_openCount ≤ 36)) (h_x5_edgeCount : (0 ≤ x5_edgeCount ∧ x5_edgeCount ≤ 60)) : Sf (fX6_never n (x0_refused, x0_isKept, x0_gone, x0_spent) x1_gained (x2_lineCount, x2_goodsCount, x2_workCount, x2_years, x2_lines, x2_goods, x2_works, x2_change, x2_coin, x2_knownFree, x2_isKnown) (x3_lineCount, x3_goodsCount, x3_workCount, x3_years, x3_lines, x3_goods, x3_works, x3_change, x3_coin, x3_knownFree, x3_isKnown) (x4_left, x4_earned, x4_turnCost, x4_turnWayless) (x5_edgeA, x5_edgeB, x5_edgeCost, x5_edgeLine, x5_change, x5_away, x5_steps, x5_nodes, x5_stepCount, x5_open, x5_openCount, x5_seen, x5_edgeCount, x5_aim)) (fun r => (0 ≤ r.2.1.1 ∧ r.2.1.1 ≤ 20) ∧ (0 ≤ r.2.1.2.1 ∧ r.2.1.2.1 ≤ 8) ∧ (0 ≤ r.2.1.2.2.1 ∧ r.2.1.2.2.1 ≤ 7) ∧ (1 ≤ r.2.1.2.2.2.1 ∧ r.2.1.2.2.2.1 ≤ 30) ∧ (LnOk r.2.1.2.2.2.2.1) ∧ (GdOk r.2.1.2.2.2.2.2.1) ∧ (WkOk r.2.1.2.2.2.2.2.2.1) ∧ (AI 0 99 r.2.1.2.2.2.2.2.2.2.1) ∧ (AI 0 9 r.2.1.2.2.2.2.2.2.2.2.1) ∧ (0 ≤ r.2.2.1.1 ∧ r.2.2.1.1 ≤ 20) ∧ (LnOk r.2.2.1.2.1) ∧ (AI 0 99 r.2.2.1.2.2.1) ∧ (AI 0 35 r.2.2.2.1) ∧ (AI 0 35 r.2.2.2.2.1) ∧ (AI 0 19 r.2.2.2.2.2.2.1) ∧ (0 ≤ r.2.2.2.2.2.2.2.2.2.1 ∧ r.2.2.2.2.2.2.2.2.2.1 ≤ 60)) := by
  unfold fX6_never
  dsimp only [u11, u14, u4]
  refine Sf.bind (sX0_neverOf hn h_x5_edgeA h_x5_edgeB h_x5_edgeLine h_x5_steps h_x5_nodes h_x5_stepCount h_x5_open h_x5_openCount h_x5_edgeCount h_x2_lineCount h_x2_goodsCount h_x2_workCount h_x2_years h_x2_lines h_x2_goods h_x2_works h_x2_change h_x2_coin h_x3_lineCount h_x3_goodsCount h_x3_workCount h_x3_years h_x3_lines h_x3_goods h_x3_works h_x3_change h_x3_coin) ?_
  rintro ⟨v1, ⟨g3, g4, g5, g6, g7, g8, g9, g10⟩, ⟨g12, g13, g14, g15, g16, g17, g18, g19, g20, g21⟩, ⟨g23, g24, g25, g26, g27⟩⟩ hr1
  obtain ⟨h_g3, h_g4, h_g6, h_g9, h_g12, h_g13, h_g14, h_g15, h_g16, h_g17, h_g18, h_g19, h_g20, h_g23, h_g24, h_g25⟩ : (AI 0 35 g3) ∧ (AI 0 35 g4) ∧ (AI 0 19 g6) ∧ (0 ≤ g9 ∧ g9 ≤ 60) ∧ (0 ≤ g12 ∧ g12 ≤ 20) ∧ (0 ≤ g13 ∧ g13 ≤ 8) ∧ (0 ≤ g14 ∧ g14 ≤ 7) ∧ (1 ≤ g15 ∧ g15 ≤ 30) ∧ (LnOk g16) ∧ (GdOk g17) ∧ (WkOk g18) ∧ (AI 0 99 g19) ∧ (AI 0 9 g20) ∧ (0 ≤ g23 ∧ g23 ≤ 20) ∧ (LnOk g24) ∧ (AI 0 99 g25) := hr1
  dsimp only [u10, u4, u5, u8]
  exact Sf.ok (show (0 ≤ g12 ∧ g12 ≤ 20) ∧ (0 ≤ g13 ∧ g13 ≤ 8) ∧ (0 ≤ g14 ∧ g14 ≤ 7) ∧ (1 ≤ g15 ∧ g15 ≤ 30) ∧ (LnOk g16) ∧ (GdOk g17) ∧ (WkOk g18) ∧ (AI 0 99 g19) ∧ (AI 0 9 g20) ∧ (0 ≤ g23 ∧ g23 ≤ 20) ∧ (LnOk g24) ∧ (AI 0 99 g25) ∧ (AI 0 35 g3) ∧ (AI 0 35 g4) ∧ (AI 0 19 g6) ∧ (0 ≤ g9 ∧ g9 ≤ 60) from ⟨h_g12, h_g13, h_g14, h_g15, h_g16, h_g17, h_g18, h_g19, h_g20, h_g23, h_g24, h_g25, h_g3, h_g4, h_g6, h_g9⟩)
set_option maxHeartbeats 1000000 in
theorem sX6_one {n : Nat} {x0_refused : (Nat → Int32)} {x0_isKept x0_gone x0_spent : Int32} {x1_gained : (Nat → Int32)} {x2_lineCount x2_goodsCount x2_workCount x2_years : Int32} {x2_lines x2_goods x2_works x2_change x2_coin x2_knownFree : (Nat → Int32)} {x2_isKnown x3_lineCount x3_goodsCount x3_workCount x3_years : Int32} {x3_lines x3_goods x3_works x3_change x3_coin x3_knownFree : (Nat → Int32)} {x3_isKnown : Int32} {x4_left x4_earned : (Nat → Int32)} {x4_turnCost x4_turnWayless : Int32} {x5_edgeA x5_edgeB x5_edgeCost x5_edgeLine x5_change x5_away x5_steps x5_nodes : (Nat → Int32)} {x5_stepCount : Int32} {x5_open : (Nat → Int32)} {x5_openCount : Int32} {x5_seen : Int64} {x5_edgeCount x5_aim p1 p2 : Int32} (hn : 1000000000000 ≤ n) (h_x2_lineCount : (0 ≤ x2_lineCount ∧ x2_lineCount ≤ 20)) (h_x2_goodsCount : (0 ≤ x2_goodsCount ∧ x2_goodsCount ≤ 8)) (h_x2_workCount : (0 ≤ x2_workCount ∧ x2_workCount ≤ 7)) (h_x2_years : (1 ≤ x2_years ∧ x2_years ≤ 30)) (h_x2_lines : (LnOk x2_lines)) (h_x2_goods : (GdOk x2_goods)) (h_x2_works : (WkOk x2_works)) (h_x2_change : (AI 0 99 x2_change)) (h_x2_coin : (AI 0 9 x2_coin)) (h_x3_lineCount : (0 ≤ x3_lineCount ∧ x3_lineCount ≤ 20)) (h_x3_goodsCount : (0 ≤ x3_goodsCount ∧ x3_goodsCount ≤ 8)) (h_x3_workCount : (0 ≤ x3_workCount ∧ x3_workCount ≤ 7)) (h_x3_years : (1 ≤ x3_years ∧ x3_years ≤ 30)) (h_x3_lines : (LnOk x3_lines)) (h_x3_goods : (GdOk x3_goods)) (h_x3_works : (WkOk x3_works)) (h_x3_change : (AI 0 99 x3_change)) (h_x3_coin : (AI 0 9 x3_coin)) (h_x5_edgeA : (AI 0 35 x5_edgeA)) (h_x5_edgeB : (AI 0 35 x5_edgeB)) (h_x5_edgeLine : (AI 0 19 x5_edgeLine)) (h_x5_steps : (AI 0 22 x5_steps)) (h_x5_nodes : (AI 0 35 x5_nodes)) (h_x5_stepCount : (0 ≤ x5_stepCount ∧ x5_stepCount ≤ 36)) (h_x5_open : (AI 0 35 x5_open)) (h_x5_openCount : (0 ≤ x5_openCount ∧ x5_openCount ≤ 36)) (h_x5_edgeCount : (0 ≤ x5_edgeCount ∧ x5_edgeCount ≤ 60)) : Sf (fX6_one n (x0_refused, x0_isKept, x0_gone, x0_spent) x1_gained (x2_lineCount, x2_goodsCount, x2_workCount, x2_years, x2_lines, x2_goods, x2_works, x2_change, x2_coin, x2_knownFree, x2_isKnown) (x3_lineCount, x3_goodsCount, x3_workCount, x3_years, x3_lines, x3_goods, x3_works, x3_change, x3_coin, x3_knownFree, x3_isKnown) (x4_left, x4_earned, x4_turnCost, x4_turnWayless) (x5_edgeA, x5_edgeB, x5_edgeCost, x5_edgeLine, x5_change, x5_away, x5_steps, x5_nodes, x5_stepCount, x5_open, x5_openCount, x5_seen, x5_edgeCount, x5_aim) p1 p2) (fun r => (0 ≤ r.2.2.1.1 ∧ r.2.2.1.1 ≤ 20) ∧ (0 ≤ r.2.2.1.2.1 ∧ r.2.2.1.2.1 ≤ 8) ∧ (0 ≤ r.2.2.1.2.2.1 ∧ r.2.2.1.2.2.1 ≤ 7) ∧ (1 ≤ r.2.2.1.2.2.2.1 ∧ r.2.2.1.2.2.2.1 ≤ 30) ∧ (LnOk r.2.2.1.2.2.2.2.1) ∧ (GdOk r.2.2.1.2.2.2.2.2.1) ∧ (WkOk r.2.2.1.2.2.2.2.2.2.1) ∧ (AI 0 99 r.2.2.1.2.2.2.2.2.2.2.1) ∧ (AI 0 9 r.2.2.1.2.2.2.2.2.2.2.2.1) ∧ (AI 0 35 r.2.2.2.1) ∧ (AI 0 35 r.2.2.2.2.1) ∧ (AI 0 19 r.2.2.2.2.2.2.1) ∧ (0 ≤ r.2.2.2.2.2.2.2.2.2.1 ∧ r.2.2.2.2.2.2.2.2.2.1 ≤ 60)) := by
  unfold fX6_one
  dsimp only [u11, u14, u4]
  refine Sf.bind (sX6_within ) ?_
  intro v1 hr1
  have hx_v1 : ((v1 = 1 ∧ 0 ≤ p1 ∧ p1 ≤ 2) ∨ (v1 = 0 ∧ (p1 < 0 ∨ 2 < p1))) := hr1
  refine Sf.ite (fun hc2 => ?_) (fun hc2 => ?_)
  · refine Sf.bind (sX6_refuse ) ?_
    rintro ⟨v3, g4⟩ hr3
    dsimp only [u2]
    exact Sf.ok (show (0 ≤ x2_lineCount ∧ x2_lineCount ≤ 20) ∧ (0 ≤ x2_goodsCount ∧ x2_goodsCount ≤ 8) ∧ (0 ≤ x2_workCount ∧ x2_workCount ≤ 7) ∧ (1 ≤ x2_years ∧ x2_years ≤ 30) ∧ (LnOk x2_lines) ∧ (GdOk x2_goods) ∧ (WkOk x2_works) ∧ (AI 0 99 x2_change) ∧ (AI 0 9 x2_coin) ∧ (AI 0 35 x5_edgeA) ∧ (AI 0 35 x5_edgeB) ∧ (AI 0 19 x5_edgeLine) ∧ (0 ≤ x5_edgeCount ∧ x5_edgeCount ≤ 60) from ⟨h_x2_lineCount, h_x2_goodsCount, h_x2_workCount, h_x2_years, h_x2_lines, h_x2_goods, h_x2_works, h_x2_change, h_x2_coin, h_x5_edgeA, h_x5_edgeB, h_x5_edgeLine, h_x5_edgeCount⟩)
  · refine Sf.bind (sX6_within ) ?_
    intro v6 hr4
    have hx_v6 : ((v6 = 1 ∧ 0 ≤ p2 ∧ p2 ≤ 99) ∨ (v6 = 0 ∧ (p2 < 0 ∨ 99 < p2))) := hr4
    refine Sf.ite (fun hc5 => ?_) (fun hc5 => ?_)
    · refine Sf.bind (sX6_refuse ) ?_
      rintro ⟨v30, g31⟩ hr6
      dsimp only [u2]
      exact Sf.ok (show (0 ≤ x2_lineCount ∧ x2_lineCount ≤ 20) ∧ (0 ≤ x2_goodsCount ∧ x2_goodsCount ≤ 8) ∧ (0 ≤ x2_workCount ∧ x2_workCount ≤ 7) ∧ (1 ≤ x2_years ∧ x2_years ≤ 30) ∧ (LnOk x2_lines) ∧ (GdOk x2_goods) ∧ (WkOk x2_works) ∧ (AI 0 99 x2_change) ∧ (AI 0 9 x2_coin) ∧ (AI 0 35 x5_edgeA) ∧ (AI 0 35 x5_edgeB) ∧ (AI 0 19 x5_edgeLine) ∧ (0 ≤ x5_edgeCount ∧ x5_edgeCount ≤ 60) from ⟨h_x2_lineCount, h_x2_goodsCount, h_x2_workCount, h_x2_years, h_x2_lines, h_x2_goods, h_x2_works, h_x2_change, h_x2_coin, h_x5_edgeA, h_x5_edgeB, h_x5_edgeLine, h_x5_edgeCount⟩)
    · refine Sf.bind (sX0_costOfWidth hn h_x5_edgeA h_x5_edgeB h_x5_edgeLine h_x5_steps h_x5_nodes h_x5_stepCount h_x5_open h_x5_openCount h_x5_edgeCount h_x2_lineCount h_x2_goodsCount h_x2_workCount h_x2_years h_x2_lines h_x2_goods h_x2_works h_x2_change h_x2_coin h_x3_lineCount h_x3_goodsCount h_x3_workCount h_x3_years h_x3_lines h_x3_goods h_x3_works h_x3_change h_x3_coin (by grind)) ?_
      rintro ⟨v8, ⟨g10, g11, g12, g13, g14, g15, g16, g17⟩, ⟨g19, g20, g21, g22, g23, g24, g25, g26, g27, g28⟩⟩ hr7
      obtain ⟨h_g10, h_g11, h_g13, h_g16, h_g19, h_g20, h_g21, h_g22, h_g23, h_g24, h_g25, h_g26, h_g27⟩ : (AI 0 35 g10) ∧ (AI 0 35 g11) ∧ (AI 0 19 g13) ∧ (0 ≤ g16 ∧ g16 ≤ 60) ∧ (0 ≤ g19 ∧ g19 ≤ 20) ∧ (0 ≤ g20 ∧ g20 ≤ 8) ∧ (0 ≤ g21 ∧ g21 ≤ 7) ∧ (1 ≤ g22 ∧ g22 ≤ 30) ∧ (LnOk g23) ∧ (GdOk g24) ∧ (WkOk g25) ∧ (AI 0 99 g26) ∧ (AI 0 9 g27) := hr7
      dsimp only [u10, u3, u8]
      exact Sf.ok (show (0 ≤ g19 ∧ g19 ≤ 20) ∧ (0 ≤ g20 ∧ g20 ≤ 8) ∧ (0 ≤ g21 ∧ g21 ≤ 7) ∧ (1 ≤ g22 ∧ g22 ≤ 30) ∧ (LnOk g23) ∧ (GdOk g24) ∧ (WkOk g25) ∧ (AI 0 99 g26) ∧ (AI 0 9 g27) ∧ (AI 0 35 g10) ∧ (AI 0 35 g11) ∧ (AI 0 19 g13) ∧ (0 ≤ g16 ∧ g16 ≤ 60) from ⟨h_g19, h_g20, h_g21, h_g22, h_g23, h_g24, h_g25, h_g26, h_g27, h_g10, h_g11, h_g13, h_g16⟩)
theorem TX6_which_s36 {n : Nat} {p1 : Int32} {x1_gained x2_knownFree : (Nat → Int32)} {x3_lineCount x3_goodsCount x3_workCount x3_years : Int32} {x3_lines x3_goods x3_works x3_change x3_coin x3_knownFree : (Nat → Int32)} {x3_isKnown : Int32} {x4_left x4_earned : (Nat → Int32)} {x4_turnCost x4_turnWayless : Int32} {x5_steps x5_nodes : (Nat → Int32)} {x5_stepCount : Int32} {x5_open : (Nat → Int32)} {x5_openCount : Int32} {x5_seen : Int64} {z26 z27 z28 z29 z30 z31 z32 : Int32} {z33 z34 z35 z36 z37 : (Nat → Int32)} {z38 : Int32} {z39 z40 z41 z42 z43 z44 : (Nat → Int32)} {z45 z46 : Int32} (hn : 1000000000000 ≤ n) (h_x3_lineCount : (0 ≤ x3_lineCount ∧ x3_lineCount ≤ 20)) (h_x3_goodsCount : (0 ≤ x3_goodsCount ∧ x3_goodsCount ≤ 8)) (h_x3_workCount : (0 ≤ x3_workCount ∧ x3_workCount ≤ 7)) (h_x3_years : (1 ≤ x3_years ∧ x3_years ≤ 30)) (h_x3_lines : (LnOk x3_lines)) (h_x3_goods : (GdOk x3_goods)) (h_x3_works : (WkOk x3_works)) (h_x3_change : (AI 0 99 x3_change)) (h_x3_coin : (AI 0 9 x3_coin)) (h_x5_steps : (AI 0 22 x5_steps)) (h_x5_nodes : (AI 0 35 x5_nodes)) (h_x5_stepCount : (0 ≤ x5_stepCount ∧ x5_stepCount ≤ 36)) (h_x5_open : (AI 0 35 x5_open)) (h_x5_openCount : (0 ≤ x5_openCount ∧ x5_openCount ≤ 36)) (h_z28 : (0 ≤ z28)) (h_z29 : (0 ≤ z29 ∧ z29 ≤ 20)) (h_z30 : (0 ≤ z30 ∧ z30 ≤ 8)) (h_z31 : (0 ≤ z31 ∧ z31 ≤ 7)) (h_z32 : (1 ≤ z32 ∧ z32 ≤ 30)) (h_z33 : (LnOk z33)) (h_z34 : (GdOk z34)) (h_z35 : (WkOk z35)) (h_z36 : (AI 0 99 z36)) (h_z37 : (AI 0 9 z37)) (h_z39 : (AI 0 35 z39)) (h_z40 : (AI 0 35 z40)) (h_z42 : (AI 0 19 z42)) (h_z45 : (0 ≤ z45 ∧ z45 ≤ 60)) : Sf (fX6_which_s36 n p1 x1_gained x2_knownFree x3_lineCount x3_goodsCount x3_workCount x3_years x3_lines x3_goods x3_works x3_change x3_coin x3_knownFree x3_isKnown x4_left x4_earned x4_turnCost x4_turnWayless x5_steps x5_nodes x5_stepCount x5_open x5_openCount x5_seen z26 z27 z28 z29 z30 z31 z32 z33 z34 z35 z36 z37 z38 z39 z40 z41 z42 z43 z44 z45 z46) (LQ (u21 (fun z26 z27 z28 z29 z30 z31 z32 z33 z34 z35 z36 z37 z38 z39 z40 z41 z42 z43 z44 z45 z46 => (0 ≤ z28) ∧ (0 ≤ z29 ∧ z29 ≤ 20) ∧ (0 ≤ z30 ∧ z30 ≤ 8) ∧ (0 ≤ z31 ∧ z31 ≤ 7) ∧ (1 ≤ z32 ∧ z32 ≤ 30) ∧ (LnOk z33) ∧ (GdOk z34) ∧ (WkOk z35) ∧ (AI 0 99 z36) ∧ (AI 0 9 z37) ∧ (AI 0 35 z39) ∧ (AI 0 35 z40) ∧ (AI 0 19 z42) ∧ (0 ≤ z45 ∧ z45 ≤ 60))) (u21 (fun z26 z27 z28 z29 z30 z31 z32 z33 z34 z35 z36 z37 z38 z39 z40 z41 z42 z43 z44 z45 z46 => muUp z28)) (muUp z28) (fun e => (0 ≤ e.2.1 ∧ e.2.1 ≤ 20) ∧ (0 ≤ e.2.2.1 ∧ e.2.2.1 ≤ 8) ∧ (0 ≤ e.2.2.2.1 ∧ e.2.2.2.1 ≤ 7) ∧ (1 ≤ e.2.2.2.2.1 ∧ e.2.2.2.2.1 ≤ 30) ∧ (LnOk e.2.2.2.2.2.1) ∧ (GdOk e.2.2.2.2.2.2.1) ∧ (WkOk e.2.2.2.2.2.2.2.1) ∧ (AI 0 99 e.2.2.2.2.2.2.2.2.1) ∧ (AI 0 9 e.2.2.2.2.2.2.2.2.2.1) ∧ (AI 0 35 e.2.2.2.2.2.2.2.2.2.2.2.1) ∧ (AI 0 35 e.2.2.2.2.2.2.2.2.2.2.2.2.1) ∧ (AI 0 19 e.2.2.2.2.2.2.2.2.2.2.2.2.2.2.1) ∧ (0 ≤ e.2.2.2.2.2.2.2.2.2.2.2.2.2.2.2.2.2.1 ∧ e.2.2.2.2.2.2.2.2.2.2.2.2.2.2.2.2.2.1 ≤ 60))) := by
  unfold fX6_which_s36
  refine Sf.ite (fun hc1 => ?_) (fun hc1 => ?_)
  · exact Sf.inr (show (0 ≤ z29 ∧ z29 ≤ 20) ∧ (0 ≤ z30 ∧ z30 ≤ 8) ∧ (0 ≤ z31 ∧ z31 ≤ 7) ∧ (1 ≤ z32 ∧ z32 ≤ 30) ∧ (LnOk z33) ∧ (GdOk z34) ∧ (WkOk z35) ∧ (AI 0 99 z36) ∧ (AI 0 9 z37) ∧ (AI 0 35 z39) ∧ (AI 0 35 z40) ∧ (AI 0 19 z42) ∧ (0 ≤ z45 ∧ z45 ≤ 60) from ⟨h_z29, h_z30, h_z31, h_z32, h_z33, h_z34, h_z35, h_z36, h_z37, h_z39, h_z40, h_z42, h_z45⟩)
  · refine Sf.bind (sX0_costOfWidth hn h_z39 h_z40 h_z42 h_x5_steps h_x5_nodes h_x5_stepCount h_x5_open h_x5_openCount h_z45 h_z29 h_z30 h_z31 h_z32 h_z33 h_z34 h_z35 h_z36 h_z37 h_x3_lineCount h_x3_goodsCount h_x3_workCount h_x3_years h_x3_lines h_x3_goods h_x3_works h_x3_change h_x3_coin (by grind)) ?_
    rintro ⟨v67, ⟨g69, g70, g71, g72, g73, g74, g75, g76⟩, ⟨g78, g79, g80, g81, g82, g83, g84, g85, g86, g87⟩⟩ hr2
    obtain ⟨h_g69, h_g70, h_g72, h_g75, h_g78, h_g79, h_g80, h_g81, h_g82, h_g83, h_g84, h_g85, h_g86⟩ : (AI 0 35 g69) ∧ (AI 0 35 g70) ∧ (AI 0 19 g72) ∧ (0 ≤ g75 ∧ g75 ≤ 60) ∧ (0 ≤ g78 ∧ g78 ≤ 20) ∧ (0 ≤ g79 ∧ g79 ≤ 8) ∧ (0 ≤ g80 ∧ g80 ≤ 7) ∧ (1 ≤ g81 ∧ g81 ≤ 30) ∧ (LnOk g82) ∧ (GdOk g83) ∧ (WkOk g84) ∧ (AI 0 99 g85) ∧ (AI 0 9 g86) := hr2
    dsimp only [u10, u3, u8]
    refine Sf.ite (fun hc3 => ?_) (fun hc3 => ?_)
    · exact Sf.inl (show (0 ≤ (z28 + 1)) ∧ (0 ≤ g78 ∧ g78 ≤ 20) ∧ (0 ≤ g79 ∧ g79 ≤ 8) ∧ (0 ≤ g80 ∧ g80 ≤ 7) ∧ (1 ≤ g81 ∧ g81 ≤ 30) ∧ (LnOk g82) ∧ (GdOk g83) ∧ (WkOk g84) ∧ (AI 0 99 g85) ∧ (AI 0 9 g86) ∧ (AI 0 35 g69) ∧ (AI 0 35 g70) ∧ (AI 0 19 g72) ∧ (0 ≤ g75 ∧ g75 ≤ 60) from ⟨(by grind), h_g78, h_g79, h_g80, h_g81, h_g82, h_g83, h_g84, h_g85, h_g86, h_g69, h_g70, h_g72, h_g75⟩) (muUp_lt hc1)
    · exact Sf.inl (show (0 ≤ (z28 + 1)) ∧ (0 ≤ g78 ∧ g78 ≤ 20) ∧ (0 ≤ g79 ∧ g79 ≤ 8) ∧ (0 ≤ g80 ∧ g80 ≤ 7) ∧ (1 ≤ g81 ∧ g81 ≤ 30) ∧ (LnOk g82) ∧ (GdOk g83) ∧ (WkOk g84) ∧ (AI 0 99 g85) ∧ (AI 0 9 g86) ∧ (AI 0 35 g69) ∧ (AI 0 35 g70) ∧ (AI 0 19 g72) ∧ (0 ≤ g75 ∧ g75 ≤ 60) from ⟨(by grind), h_g78, h_g79, h_g80, h_g81, h_g82, h_g83, h_g84, h_g85, h_g86, h_g69, h_g70, h_g72, h_g75⟩) (muUp_lt hc1)
theorem LX6_which_s36 {n : Nat} {p1 : Int32} {x1_gained x2_knownFree : (Nat → Int32)} {x3_lineCount x3_goodsCount x3_workCount x3_years : Int32} {x3_lines x3_goods x3_works x3_change x3_coin x3_knownFree : (Nat → Int32)} {x3_isKnown : Int32} {x4_left x4_earned : (Nat → Int32)} {x4_turnCost x4_turnWayless : Int32} {x5_steps x5_nodes : (Nat → Int32)} {x5_stepCount : Int32} {x5_open : (Nat → Int32)} {x5_openCount : Int32} {x5_seen : Int64} {z26 z27 z28 z29 z30 z31 z32 : Int32} {z33 z34 z35 z36 z37 : (Nat → Int32)} {z38 : Int32} {z39 z40 z41 z42 z43 z44 : (Nat → Int32)} {z45 z46 : Int32} (hn : 1000000000000 ≤ n) (h_x3_lineCount : (0 ≤ x3_lineCount ∧ x3_lineCount ≤ 20)) (h_x3_goodsCount : (0 ≤ x3_goodsCount ∧ x3_goodsCount ≤ 8)) (h_x3_workCount : (0 ≤ x3_workCount ∧ x3_workCount ≤ 7)) (h_x3_years : (1 ≤ x3_years ∧ x3_years ≤ 30)) (h_x3_lines : (LnOk x3_lines)) (h_x3_goods : (GdOk x3_goods)) (h_x3_works : (WkOk x3_works)) (h_x3_change : (AI 0 99 x3_change)) (h_x3_coin : (AI 0 9 x3_coin)) (h_x5_steps : (AI 0 22 x5_steps)) (h_x5_nodes : (AI 0 35 x5_nodes)) (h_x5_stepCount : (0 ≤ x5_stepCount ∧ x5_stepCount ≤ 36)) (h_x5_open : (AI 0 35 x5_open)) (h_x5_openCount : (0 ≤ x5_openCount ∧ x5_openCount ≤ 36)) (h_z28 : (0 ≤ z28)) (h_z29 : (0 ≤ z29 ∧ z29 ≤ 20)) (h_z30 : (0 ≤ z30 ∧ z30 ≤ 8)) (h_z31 : (0 ≤ z31 ∧ z31 ≤ 7)) (h_z32 : (1 ≤ z32 ∧ z32 ≤ 30)) (h_z33 : (LnOk z33)) (h_z34 : (GdOk z34)) (h_z35 : (WkOk z35)) (h_z36 : (AI 0 99 z36)) (h_z37 : (AI 0 9 z37)) (h_z39 : (AI 0 35 z39)) (h_z40 : (AI 0 35 z40)) (h_z42 : (AI 0 19 z42)) (h_z45 : (0 ≤ z45 ∧ z45 ≤ 60)) : Sf (lp (u21 (fX6_which_s36 n p1 x1_gained x2_knownFree x3_lineCount x3_goodsCount x3_workCount x3_years x3_lines x3_goods x3_works x3_change x3_coin x3_knownFree x3_isKnown x4_left x4_earned x4_turnCost x4_turnWayless x5_steps x5_nodes x5_stepCount x5_open x5_openCount x5_seen)) n (z26, z27, z28, z29, z30, z31, z32, z33, z34, z35, z36, z37, z38, z39, z40, z41, z42, z43, z44, z45, z46)) (fun e => (0 ≤ e.2.1 ∧ e.2.1 ≤ 20) ∧ (0 ≤ e.2.2.1 ∧ e.2.2.1 ≤ 8) ∧ (0 ≤ e.2.2.2.1 ∧ e.2.2.2.1 ≤ 7) ∧ (1 ≤ e.2.2.2.2.1 ∧ e.2.2.2.2.1 ≤ 30) ∧ (LnOk e.2.2.2.2.2.1) ∧ (GdOk e.2.2.2.2.2.2.1) ∧ (WkOk e.2.2.2.2.2.2.2.1) ∧ (AI 0 99 e.2.2.2.2.2.2.2.2.1) ∧ (AI 0 9 e.2.2.2.2.2.2.2.2.2.1) ∧ (AI 0 35 e.2.2.2.2.2.2.2.2.2.2.2.1) ∧ (AI 0 35 e.2.2.2.2.2.2.2.2.2.2.2.2.1) ∧ (AI 0 19 e.2.2.2.2.2.2.2.2.2.2.2.2.2.2.1) ∧ (0 ≤ e.2.2.2.2.2.2.2.2.2.2.2.2.2.2.2.2.2.1 ∧ e.2.2.2.2.2.2.2.2.2.2.2.2.2.2.2.2.2.1 ≤ 60)) :=
  Sf.loop21 (fun z26 z27 z28 z29 z30 z31 z32 z33 z34 z35 z36 z37 z38 z39 z40 z41 z42 z43 z44 z45 z46 => (0 ≤ z28) ∧ (0 ≤ z29 ∧ z29 ≤ 20) ∧ (0 ≤ z30 ∧ z30 ≤ 8) ∧ (0 ≤ z31 ∧ z31 ≤ 7) ∧ (1 ≤ z32 ∧ z32 ≤ 30) ∧ (LnOk z33) ∧ (GdOk z34) ∧ (WkOk z35) ∧ (AI 0 99 z36) ∧ (AI 0 9 z37) ∧ (AI 0 35 z39) ∧ (AI 0 35 z40) ∧ (AI 0 19 z42) ∧ (0 ≤ z45 ∧ z45 ≤ 60)) (fun z26 z27 z28 z29 z30 z31 z32 z33 z34 z35 z36 z37 z38 z39 z40 z41 z42 z43 z44 z45 z46 => muUp z28) (fun z26 z27 z28 z29 z30 z31 z32 z33 z34 z35 z36 z37 z38 z39 z40 z41 z42 z43 z44 z45 z46 h => TX6_which_s36 hn h_x3_lineCount h_x3_goodsCount h_x3_workCount h_x3_years h_x3_lines h_x3_goods h_x3_works h_x3_change h_x3_coin h_x5_steps h_x5_nodes h_x5_stepCount h_x5_open h_x5_openCount h.1 h.2.1 h.2.2.1 h.2.2.2.1 h.2.2.2.2.1 h.2.2.2.2.2.1 h.2.2.2.2.2.2.1 h.2.2.2.2.2.2.2.1 h.2.2.2.2.2.2.2.2.1 h.2.2.2.2.2.2.2.2.2.1 h.2.2.2.2.2.2.2.2.2.2.1 h.2.2.2.2.2.2.2.2.2.2.2.1 h.2.2.2.2.2.2.2.2.2.2.2.2.1 h.2.2.2.2.2.2.2.2.2.2.2.2.2) (show (0 ≤ z28) ∧ (0 ≤ z29 ∧ z29 ≤ 20) ∧ (0 ≤ z30 ∧ z30 ≤ 8) ∧ (0 ≤ z31 ∧ z31 ≤ 7) ∧ (1 ≤ z32 ∧ z32 ≤ 30) ∧ (LnOk z33) ∧ (GdOk z34) ∧ (WkOk z35) ∧ (AI 0 99 z36) ∧ (AI 0 9 z37) ∧ (AI 0 35 z39) ∧ (AI 0 35 z40) ∧ (AI 0 19 z42) ∧ (0 ≤ z45 ∧ z45 ≤ 60) from ⟨h_z28, h_z29, h_z30, h_z31, h_z32, h_z33, h_z34, h_z35, h_z36, h_z37, h_z39, h_z40, h_z42, h_z45⟩) (muUp_n hn)
set_option maxHeartbeats 1000000 in
theorem sX6_which {n : Nat} {x0_refused : (Nat → Int32)} {x0_isKept x0_gone x0_spent : Int32} {x1_gained : (Nat → Int32)} {x2_lineCount x2_goodsCount x2_workCount x2_years : Int32} {x2_lines x2_goods x2_works x2_change x2_coin x2_knownFree : (Nat → Int32)} {x2_isKnown x3_lineCount x3_goodsCount x3_workCount x3_years : Int32} {x3_lines x3_goods x3_works x3_change x3_coin x3_knownFree : (Nat → Int32)} {x3_isKnown : Int32} {x4_left x4_earned : (Nat → Int32)} {x4_turnCost x4_turnWayless : Int32} {x5_edgeA x5_edgeB x5_edgeCost x5_edgeLine x5_change x5_away x5_steps x5_nodes : (Nat → Int32)} {x5_stepCount : Int32} {x5_open : (Nat → Int32)} {x5_openCount : Int32} {x5_seen : Int64} {x5_edgeCount x5_aim p1 : Int32} (hn : 1000000000000 ≤ n) (h_x2_lineCount : (0 ≤ x2_lineCount ∧ x2_lineCount ≤ 20)) (h_x2_goodsCount : (0 ≤ x2_goodsCount ∧ x2_goodsCount ≤ 8)) (h_x2_workCount : (0 ≤ x2_workCount ∧ x2_workCount ≤ 7)) (h_x2_years : (1 ≤ x2_years ∧ x2_years ≤ 30)) (h_x2_lines : (LnOk x2_lines)) (h_x2_goods : (GdOk x2_goods)) (h_x2_works : (WkOk x2_works)) (h_x2_change : (AI 0 99 x2_change)) (h_x2_coin : (AI 0 9 x2_coin)) (h_x3_lineCount : (0 ≤ x3_lineCount ∧ x3_lineCount ≤ 20)) (h_x3_goodsCount : (0 ≤ x3_goodsCount ∧ x3_goodsCount ≤ 8)) (h_x3_workCount : (0 ≤ x3_workCount ∧ x3_workCount ≤ 7)) (h_x3_years : (1 ≤ x3_years ∧ x3_years ≤ 30)) (h_x3_lines : (LnOk x3_lines)) (h_x3_goods : (GdOk x3_goods)) (h_x3_works : (WkOk x3_works)) (h_x3_change : (AI 0 99 x3_change)) (h_x3_coin : (AI 0 9 x3_coin)) (h_x5_edgeA : (AI 0 35 x5_edgeA)) (h_x5_edgeB : (AI 0 35 x5_edgeB)) (h_x5_edgeLine : (AI 0 19 x5_edgeLine)) (h_x5_steps : (AI 0 22 x5_steps)) (h_x5_nodes : (AI 0 35 x5_nodes)) (h_x5_stepCount : (0 ≤ x5_stepCount ∧ x5_stepCount ≤ 36)) (h_x5_open : (AI 0 35 x5_open)) (h_x5_openCount : (0 ≤ x5_openCount ∧ x5_openCount ≤ 36)) (h_x5_edgeCount : (0 ≤ x5_edgeCount ∧ x5_edgeCount ≤ 60)) : Sf (fX6_which n (x0_refused, x0_isKept, x0_gone, x0_spent) x1_gained (x2_lineCount, x2_goodsCount, x2_workCount, x2_years, x2_lines, x2_goods, x2_works, x2_change, x2_coin, x2_knownFree, x2_isKnown) (x3_lineCount, x3_goodsCount, x3_workCount, x3_years, x3_lines, x3_goods, x3_works, x3_change, x3_coin, x3_knownFree, x3_isKnown) (x4_left, x4_earned, x4_turnCost, x4_turnWayless) (x5_edgeA, x5_edgeB, x5_edgeCost, x5_edgeLine, x5_change, x5_away, x5_steps, x5_nodes, x5_stepCount, x5_open, x5_openCount, x5_seen, x5_edgeCount, x5_aim) p1) (fun r => (0 ≤ r.2.2.1.1 ∧ r.2.2.1.1 ≤ 20) ∧ (0 ≤ r.2.2.1.2.1 ∧ r.2.2.1.2.1 ≤ 8) ∧ (0 ≤ r.2.2.1.2.2.1 ∧ r.2.2.1.2.2.1 ≤ 7) ∧ (1 ≤ r.2.2.1.2.2.2.1 ∧ r.2.2.1.2.2.2.1 ≤ 30) ∧ (LnOk r.2.2.1.2.2.2.2.1) ∧ (GdOk r.2.2.1.2.2.2.2.2.1) ∧ (WkOk r.2.2.1.2.2.2.2.2.2.1) ∧ (AI 0 99 r.2.2.1.2.2.2.2.2.2.2.1) ∧ (AI 0 9 r.2.2.1.2.2.2.2.2.2.2.2.1) ∧ (AI 0 35 r.2.2.2.1) ∧ (AI 0 35 r.2.2.2.2.1) ∧ (AI 0 19 r.2.2.2.2.2.2.1) ∧ (0 ≤ r.2.2.2.2.2.2.2.2.2.1 ∧ r.2.2.2.2.2.2.2.2.2.1 ≤ 60)) := by
  unfold fX6_which
  dsimp only [u11, u14, u4]
  refine Sf.bind (sX6_within ) ?_
  intro v1 hr1
  have hx_v1 : ((v1 = 1 ∧ 0 ≤ p1 ∧ p1 ≤ 99) ∨ (v1 = 0 ∧ (p1 < 0 ∨ 99 < p1))) := hr1
  refine Sf.ite (fun hc2 => ?_) (fun hc2 => ?_)
  · refine Sf.bind (sX6_refuse ) ?_
    rintro ⟨v89, g90⟩ hr3
    dsimp only [u2]
    exact Sf.ok (show (0 ≤ x2_lineCount ∧ x2_lineCount ≤ 20) ∧ (0 ≤ x2_goodsCount ∧ x2_goodsCount ≤ 8) ∧ (0 ≤ x2_workCount ∧ x2_workCount ≤ 7) ∧ (1 ≤ x2_years ∧ x2_years ≤ 30) ∧ (LnOk x2_lines) ∧ (GdOk x2_goods) ∧ (WkOk x2_works) ∧ (AI 0 99 x2_change) ∧ (AI 0 9 x2_coin) ∧ (AI 0 35 x5_edgeA) ∧ (AI 0 35 x5_edgeB) ∧ (AI 0 19 x5_edgeLine) ∧ (0 ≤ x5_edgeCount ∧ x5_edgeCount ≤ 60) from ⟨h_x2_lineCount, h_x2_goodsCount, h_x2_workCount, h_x2_years, h_x2_lines, h_x2_goods, h_x2_works, h_x2_change, h_x2_coin, h_x5_edgeA, h_x5_edgeB, h_x5_edgeLine, h_x5_edgeCount⟩)
  · refine Sf.bind (sX0_costOfWidth hn h_x5_edgeA h_x5_edgeB h_x5_edgeLine h_x5_steps h_x5_nodes h_x5_stepCount h_x5_open h_x5_openCount h_x5_edgeCount h_x2_lineCount h_x2_goodsCount h_x2_workCount h_x2_years h_x2_lines h_x2_goods h_x2_works h_x2_change h_x2_coin h_x3_lineCount h_x3_goodsCount h_x3_workCount h_x3_years h_x3_lines h_x3_goods h_x3_works h_x3_change h_x3_coin (by decide)) ?_
    rintro ⟨v3, ⟨g5, g6, g7, g8, g9, g10, g11, g12⟩, ⟨g14, g15, g16, g17, g18, g19, g20, g21, g22, g23⟩⟩ hr4
    obtain ⟨h_g5, h_g6, h_g8, h_g11, h_g14, h_g15, h_g16, h_g17, h_g18, h_g19, h_g20, h_g21, h_g22⟩ : (AI 0 35 g5) ∧ (AI 0 35 g6) ∧ (AI 0 19 g8) ∧ (0 ≤ g11 ∧ g11 ≤ 60) ∧ (0 ≤ g14 ∧ g14 ≤ 20) ∧ (0 ≤ g15 ∧ g15 ≤ 8) ∧ (0 ≤ g16 ∧ g16 ≤ 7) ∧ (1 ≤ g17 ∧ g17 ≤ 30) ∧ (LnOk g18) ∧ (GdOk g19) ∧ (WkOk g20) ∧ (AI 0 99 g21) ∧ (AI 0 9 g22) := hr4
    dsimp only [u10, u3, u8]
    refine Sf.bind (LX6_which_s36 hn h_x3_lineCount h_x3_goodsCount h_x3_workCount h_x3_years h_x3_lines h_x3_goods h_x3_works h_x3_change h_x3_coin h_x5_steps h_x5_nodes h_x5_stepCount h_x5_open h_x5_openCount (by decide) h_g14 h_g15 h_g16 h_g17 h_g18 h_g19 h_g20 h_g21 h_g22 h_g5 h_g6 h_g8 h_g11) ?_
    rintro ⟨w48, w49, w50, w51, w52, w53, w54, w55, w56, w57, w58, w59, w60, w61, w62, w63, w64, w65, w66⟩ hr5
    obtain ⟨h_w49, h_w50, h_w51, h_w52, h_w53, h_w54, h_w55, h_w56, h_w57, h_w59, h_w60, h_w62, h_w65⟩ : (0 ≤ w49 ∧ w49 ≤ 20) ∧ (0 ≤ w50 ∧ w50 ≤ 8) ∧ (0 ≤ w51 ∧ w51 ≤ 7) ∧ (1 ≤ w52 ∧ w52 ≤ 30) ∧ (LnOk w53) ∧ (GdOk w54) ∧ (WkOk w55) ∧ (AI 0 99 w56) ∧ (AI 0 9 w57) ∧ (AI 0 35 w59) ∧ (AI 0 35 w60) ∧ (AI 0 19 w62) ∧ (0 ≤ w65 ∧ w65 ≤ 60) := hr5
    dsimp only [u19]
    exact Sf.ok (show (0 ≤ w49 ∧ w49 ≤ 20) ∧ (0 ≤ w50 ∧ w50 ≤ 8) ∧ (0 ≤ w51 ∧ w51 ≤ 7) ∧ (1 ≤ w52 ∧ w52 ≤ 30) ∧ (LnOk w53) ∧ (GdOk w54) ∧ (WkOk w55) ∧ (AI 0 99 w56) ∧ (AI 0 9 w57) ∧ (AI 0 35 w59) ∧ (AI 0 35 w60) ∧ (AI 0 19 w62) ∧ (0 ≤ w65 ∧ w65 ≤ 60) from ⟨h_w49, h_w50, h_w51, h_w52, h_w53, h_w54, h_w55, h_w56, h_w57, h_w59, h_w60, h_w62, h_w65⟩)
set_option maxHeartbeats 1000000 in
theorem sX6_earns {n : Nat} {x0_refused : (Nat → Int32)} {x0_isKept x0_gone x0_spent x1_lineCount x1_goodsCount x1_workCount x1_years : Int32} {x1_lines x1_goods x1_works x1_change x1_coin x1_knownFree : (Nat → Int32)} {x1_isKnown : Int32} {x2_left x2_earned : (Nat → Int32)} {x2_turnCost x2_turnWayless : Int32} {x3_edgeA x3_edgeB x3_edgeCost x3_edgeLine x3_change x3_away x3_steps x3_nodes : (Nat → Int32)} {x3_stepCount : Int32} {x3_open : (Nat → Int32)} {x3_openCount : Int32} {x3_seen : Int64} {x3_edgeCount x3_aim p1 : Int32} (hn : 1000000000000 ≤ n) (h_x1_lineCount : (0 ≤ x1_lineCount ∧ x1_lineCount ≤ 20)) (h_x1_goodsCount : (0 ≤ x1_goodsCount ∧ x1_goodsCount ≤ 8)) (h_x1_workCount : (0 ≤ x1_workCount ∧ x1_workCount ≤ 7)) (h_x1_years : (1 ≤ x1_years ∧ x1_years ≤ 30)) (h_x1_lines : (LnOk x1_lines)) (h_x1_goods : (GdOk x1_goods)) (h_x1_works : (WkOk x1_works)) (h_x1_change : (AI 0 99 x1_change)) (h_x1_coin : (AI 0 9 x1_coin)) (h_x3_edgeA : (AI 0 35 x3_edgeA)) (h_x3_edgeB : (AI 0 35 x3_edgeB)) (h_x3_edgeLine : (AI 0 19 x3_edgeLine)) (h_x3_steps : (AI 0 22 x3_steps)) (h_x3_nodes : (AI 0 35 x3_nodes)) (h_x3_stepCount : (0 ≤ x3_stepCount ∧ x3_stepCount ≤ 36)) (h_x3_open : (AI 0 35 x3_open)) (h_x3_openCount : (0 ≤ x3_openCount ∧ x3_openCount ≤ 36)) (h_x3_edgeCount : (0 ≤ x3_edgeCount ∧ x3_edgeCount ≤ 60)) : Sf (fX6_earns n (x0_refused, x0_isKept, x0_gone, x0_spent) (x1_lineCount, x1_goodsCount, x1_workCount, x1_years, x1_lines, x1_goods, x1_works, x1_change, x1_coin, x1_knownFree, x1_isKnown) (x2_left, x2_earned, x2_turnCost, x2_turnWayless) (x3_edgeA, x3_edgeB, x3_edgeCost, x3_edgeLine, x3_change, x3_away, x3_steps, x3_nodes, x3_stepCount, x3_open, x3_openCount, x3_seen, x3_edgeCount, x3_aim) p1) (fun r => (AI 0 35 r.2.2.2.1) ∧ (AI 0 35 r.2.2.2.2.1) ∧ (AI 0 19 r.2.2.2.2.2.2.1) ∧ (AI 0 22 r.2.2.2.2.2.2.2.2.2.1) ∧ (AI 0 35 r.2.2.2.2.2.2.2.2.2.2.1) ∧ (0 ≤ r.2.2.2.2.2.2.2.2.2.2.2.1 ∧ r.2.2.2.2.2.2.2.2.2.2.2.1 ≤ 36) ∧ (AI 0 35 r.2.2.2.2.2.2.2.2.2.2.2.2.1) ∧ (0 ≤ r.2.2.2.2.2.2.2.2.2.2.2.2.2.1 ∧ r.2.2.2.2.2.2.2.2.2.2.2.2.2.1 ≤ 36) ∧ (0 ≤ r.2.2.2.2.2.2.2.2.2.2.2.2.2.2.2.1 ∧ r.2.2.2.2.2.2.2.2.2.2.2.2.2.2.2.1 ≤ 60)) := by
  unfold fX6_earns
  dsimp only [u11, u14, u4]
  refine Sf.bind (sX6_within ) ?_
  intro v1 hr1
  have hx_v1 : ((v1 = 1 ∧ 0 ≤ p1 ∧ p1 ≤ 5) ∨ (v1 = 0 ∧ (p1 < 0 ∨ 5 < p1))) := hr1
  refine Sf.ite (fun hc2 => ?_) (fun hc2 => ?_)
  · refine Sf.bind (sX6_refuse ) ?_
    rintro ⟨v21, g22⟩ hr3
    dsimp only [u2]
    exact Sf.ok (show (AI 0 35 x3_edgeA) ∧ (AI 0 35 x3_edgeB) ∧ (AI 0 19 x3_edgeLine) ∧ (AI 0 22 x3_steps) ∧ (AI 0 35 x3_nodes) ∧ (0 ≤ x3_stepCount ∧ x3_stepCount ≤ 36) ∧ (AI 0 35 x3_open) ∧ (0 ≤ x3_openCount ∧ x3_openCount ≤ 36) ∧ (0 ≤ x3_edgeCount ∧ x3_edgeCount ≤ 60) from ⟨h_x3_edgeA, h_x3_edgeB, h_x3_edgeLine, h_x3_steps, h_x3_nodes, h_x3_stepCount, h_x3_open, h_x3_openCount, h_x3_edgeCount⟩)
  · refine Sf.bind (sX4_earnB hn h_x3_edgeA h_x3_edgeB h_x3_edgeLine h_x3_steps h_x3_nodes h_x3_stepCount h_x3_open h_x3_openCount h_x3_edgeCount h_x1_lineCount h_x1_goodsCount h_x1_workCount h_x1_years h_x1_lines h_x1_goods h_x1_works h_x1_change h_x1_coin) ?_
    rintro ⟨g3, ⟨g5, g6, g7, g8, g9, g10, g11, g12, g13, g14, g15, g16, g17, g18⟩⟩ hr4
    obtain ⟨h_g5, h_g6, h_g8, h_g11, h_g12, h_g13, h_g14, h_g15, h_g17⟩ : (AI 0 35 g5) ∧ (AI 0 35 g6) ∧ (AI 0 19 g8) ∧ (AI 0 22 g11) ∧ (AI 0 35 g12) ∧ (0 ≤ g13 ∧ g13 ≤ 36) ∧ (AI 0 35 g14) ∧ (0 ≤ g15 ∧ g15 ≤ 36) ∧ (0 ≤ g17 ∧ g17 ≤ 60) := hr4
    dsimp only [u14, u2]
    refine Sf.rdb 6 rfl (by grind) (fun v20 e_v20 => ?_)
    clear e_v20
    exact Sf.ok (show (AI 0 35 g5) ∧ (AI 0 35 g6) ∧ (AI 0 19 g8) ∧ (AI 0 22 g11) ∧ (AI 0 35 g12) ∧ (0 ≤ g13 ∧ g13 ≤ 36) ∧ (AI 0 35 g14) ∧ (0 ≤ g15 ∧ g15 ≤ 36) ∧ (0 ≤ g17 ∧ g17 ≤ 60) from ⟨h_g5, h_g6, h_g8, h_g11, h_g12, h_g13, h_g14, h_g15, h_g17⟩)
set_option maxHeartbeats 1000000 in
theorem sX6_gains {n : Nat} {x0_refused : (Nat → Int32)} {x0_isKept x0_gone x0_spent : Int32} {x1_gained : (Nat → Int32)} {x2_lineCount x2_goodsCount x2_workCount x2_years : Int32} {x2_lines x2_goods x2_works x2_change x2_coin x2_knownFree : (Nat → Int32)} {x2_isKnown x3_lineCount x3_goodsCount x3_workCount x3_years : Int32} {x3_lines x3_goods x3_works x3_change x3_coin x3_knownFree : (Nat → Int32)} {x3_isKnown : Int32} {x4_left x4_earned : (Nat → Int32)} {x4_turnCost x4_turnWayless : Int32} {x5_edgeA x5_edgeB x5_edgeCost x5_edgeLine x5_change x5_away x5_steps x5_nodes : (Nat → Int32)} {x5_stepCount : Int32} {x5_open : (Nat → Int32)} {x5_openCount : Int32} {x5_seen : Int64} {x5_edgeCount x5_aim p1 p2 : Int32} (hn : 1000000000000 ≤ n) (h_x2_lineCount : (0 ≤ x2_lineCount ∧ x2_lineCount ≤ 20)) (h_x2_goodsCount : (0 ≤ x2_goodsCount ∧ x2_goodsCount ≤ 8)) (h_x2_workCount : (0 ≤ x2_workCount ∧ x2_workCount ≤ 7)) (h_x2_years : (1 ≤ x2_years ∧ x2_years ≤ 30)) (h_x2_lines : (LnOk x2_lines)) (h_x2_goods : (GdOk x2_goods)) (h_x2_works : (WkOk x2_works)) (h_x2_change : (AI 0 99 x2_change)) (h_x2_coin : (AI 0 9 x2_coin)) (h_x3_lineCount : (0 ≤ x3_lineCount ∧ x3_lineCount ≤ 20)) (h_x3_goodsCount : (0 ≤ x3_goodsCount ∧ x3_goodsCount ≤ 8)) (h_x3_workCount : (0 ≤ x3_workCount ∧ x3_workCount ≤ 7)) (h_x3_years : (1 ≤ x3_years ∧ x3_years ≤ 30)) (h_x3_lines : (LnOk x3_lines)) (h_x3_goods : (GdOk x3_goods)) (h_x3_works : (WkOk x3_works)) (h_x3_change : (AI 0 99 x3_change)) (h_x3_coin : (AI 0 9 x3_coin)) (h_x5_edgeA : (AI 0 35 x5_edgeA)) (h_x5_edgeB : (AI 0 35 x5_edgeB)) (h_x5_edgeLine : (AI 0 19 x5_edgeLine)) (h_x5_steps : (AI 0 22 x5_steps)) (h_x5_nodes : (AI 0 35 x5_nodes)) (h_x5_stepCount : (0 ≤ x5_stepCount ∧ x5_stepCount ≤ 36)) (h_x5_open : (AI 0 35 x5_open)) (h_x5_openCount : (0 ≤ x5_openCount ∧ x5_openCount ≤ 36)) (h_x5_edgeCount : (0 ≤ x5_edgeCount ∧ x5_edgeCount ≤ 60)) : Sf (fX6_gains n (x0_refused, x0_isKept, x0_gone, x0_spent) x1_gained (x2_lineCount, x2_goodsCount, x2_workCount, x2_years, x2_lines, x2_goods, x2_works, x2_change, x2_coin, x2_knownFree, x2_isKnown) (x3_lineCount, x3_goodsCount, x3_workCount, x3_years, x3_lines, x3_goods, x3_works, x3_change, x3_coin, x3_knownFree, x3_isKnown) (x4_left, x4_earned, x4_turnCost, x4_turnWayless) (x5_edgeA, x5_edgeB, x5_edgeCost, x5_edgeLine, x5_change, x5_away, x5_steps, x5_nodes, x5_stepCount, x5_open, x5_openCount, x5_seen, x5_edgeCount, x5_aim) p1 p2) (fun r => (0 ≤ r.2.2.2.1.1 ∧ r.2.2.2.1.1 ≤ 20) ∧ (0 ≤ r.2.2.2.1.2.1 ∧ r.2.2.2.1.2.1 ≤ 8) ∧ (0 ≤ r.2.2.2.1.2.2.1 ∧ r.2.2.2.1.2.2.1 ≤ 7) ∧ (1 ≤ r.2.2.2.1.2.2.2.1 ∧ r.2.2.2.1.2.2.2.1 ≤ 30) ∧ (LnOk r.2.2.2.1.2.2.2.2.1) ∧ (GdOk r.2.2.2.1.2.2.2.2.2.1) ∧ (WkOk r.2.2.2.1.2.2.2.2.2.2.1) ∧ (AI 0 99 r.2.2.2.1.2.2.2.2.2.2.2.1) ∧ (AI 0 9 r.2.2.2.1.2.2.2.2.2.2.2.2.1) ∧ (AI 0 35 r.2.2.2.2.2.1) ∧ (AI 0 35 r.2.2.2.2.2.2.1) ∧ (AI 0 19 r.2.2.2.2.2.2.2.2.1) ∧ (AI 0 22 r.2.2.2.2.2.2.2.2.2.2.2.1) ∧ (AI 0 35 r.2.2.2.2.2.2.2.2.2.2.2.2.1) ∧ (0 ≤ r.2.2.2.2.2.2.2.2.2.2.2.2.2.1 ∧ r.2.2.2.2.2.2.2.2.2.2.2.2.2.1 ≤ 36) ∧ (AI 0 35 r.2.2.2.2.2.2.2.2.2.2.2.2.2.2.1) ∧ (0 ≤ r.2.2.2.2.2.2.2.2.2.2.2.2.2.2.2.1 ∧ r.2.2.2.2.2.2.2.2.2.2.2.2.2.2.2.1 ≤ 36) ∧ (0 ≤ r.2.2.2.2.2.2.2.2.2.2.2.2.2.2.2.2.2.1 ∧ r.2.2.2.2.2.2.2.2.2.2.2.2.2.2.2.2.2.1 ≤ 60)) := by
  unfold fX6_gains
  dsimp only [u11, u14, u4]
  refine Sf.bind (sX6_within ) ?_
  intro v1 hr1
  have hx_v1 : ((v1 = 1 ∧ 0 ≤ p1 ∧ p1 ≤ 5) ∨ (v1 = 0 ∧ (p1 < 0 ∨ 5 < p1))) := hr1
  refine Sf.ite (fun hc2 => ?_) (fun hc2 => ?_)
  · unfold fX6_gains_j19
    refine Sf.ite (fun hc3 => absurd hc3 (by decide)) (fun hc3 => ?_)
    refine Sf.bind (sX6_refuse ) ?_
    rintro ⟨v34, g35⟩ hr4
    dsimp only [u2]
    exact Sf.ok (show (0 ≤ x2_lineCount ∧ x2_lineCount ≤ 20) ∧ (0 ≤ x2_goodsCount ∧ x2_goodsCount ≤ 8) ∧ (0 ≤ x2_workCount ∧ x2_workCount ≤ 7) ∧ (1 ≤ x2_years ∧ x2_years ≤ 30) ∧ (LnOk x2_lines) ∧ (GdOk x2_goods) ∧ (WkOk x2_works) ∧ (AI 0 99 x2_change) ∧ (AI 0 9 x2_coin) ∧ (AI 0 35 x5_edgeA) ∧ (AI 0 35 x5_edgeB) ∧ (AI 0 19 x5_edgeLine) ∧ (AI 0 22 x5_steps) ∧ (AI 0 35 x5_nodes) ∧ (0 ≤ x5_stepCount ∧ x5_stepCount ≤ 36) ∧ (AI 0 35 x5_open) ∧ (0 ≤ x5_openCount ∧ x5_openCount ≤ 36) ∧ (0 ≤ x5_edgeCount ∧ x5_edgeCount ≤ 60) from ⟨h_x2_lineCount, h_x2_goodsCount, h_x2_workCount, h_x2_years, h_x2_lines, h_x2_goods, h_x2_works, h_x2_change, h_x2_coin, h_x5_edgeA, h_x5_edgeB, h_x5_edgeLine, h_x5_steps, h_x5_nodes, h_x5_stepCount, h_x5_open, h_x5_openCount, h_x5_edgeCount⟩)
  · refine Sf.bind (sX6_noChoice h_x3_lineCount h_x3_goodsCount h_x3_workCount h_x3_years h_x3_lines h_x3_goods h_x3_works h_x3_change h_x3_coin) ?_
    intro v37 hr5
    have hx_v37 : (v37 ≠ 0 ∨ (0 ≤ p2 ∧ p2 < x3_workCount)) := hr5
    unfold fX6_gains_j19
    refine Sf.ite (fun hc6 => ?_) (fun hc6 => ?_)
    · refine Sf.bind (sX0_gainBy hn h_x5_edgeA h_x5_edgeB h_x5_edgeLine h_x5_steps h_x5_nodes h_x5_stepCount h_x5_open h_x5_openCount h_x5_edgeCount h_x2_lineCount h_x2_goodsCount h_x2_workCount h_x2_years h_x2_lines h_x2_goods h_x2_works h_x2_change h_x2_coin h_x3_lineCount h_x3_goodsCount h_x3_workCount h_x3_years h_x3_lines h_x3_goods h_x3_works h_x3_change h_x3_coin) ?_
      rintro ⟨g4, g5, ⟨g7, g8, g9, g10, g11, g12, g13, g14, g15, g16, g17, g18, g19, g20⟩, ⟨g22, g23, g24, g25, g26, g27, g28, g29, g30, g31⟩⟩ hr7
      obtain ⟨h_g7, h_g8, h_g10, h_g13, h_g14, h_g15, h_g16, h_g17, h_g19, h_g22, h_g23, h_g24, h_g25, h_g26, h_g27, h_g28, h_g29, h_g30⟩ : (AI 0 35 g7) ∧ (AI 0 35 g8) ∧ (AI 0 19 g10) ∧ (AI 0 22 g13) ∧ (AI 0 35 g14) ∧ (0 ≤ g15 ∧ g15 ≤ 36) ∧ (AI 0 35 g16) ∧ (0 ≤ g17 ∧ g17 ≤ 36) ∧ (0 ≤ g19 ∧ g19 ≤ 60) ∧ (0 ≤ g22 ∧ g22 ≤ 20) ∧ (0 ≤ g23 ∧ g23 ≤ 8) ∧ (0 ≤ g24 ∧ g24 ≤ 7) ∧ (1 ≤ g25 ∧ g25 ≤ 30) ∧ (LnOk g26) ∧ (GdOk g27) ∧ (WkOk g28) ∧ (AI 0 99 g29) ∧ (AI 0 9 g30) := hr7
      dsimp only [u10, u14, u4]
      refine Sf.rdb 6 rfl (by grind) (fun v33 e_v33 => ?_)
      clear e_v33
      exact Sf.ok (show (0 ≤ g22 ∧ g22 ≤ 20) ∧ (0 ≤ g23 ∧ g23 ≤ 8) ∧ (0 ≤ g24 ∧ g24 ≤ 7) ∧ (1 ≤ g25 ∧ g25 ≤ 30) ∧ (LnOk g26) ∧ (GdOk g27) ∧ (WkOk g28) ∧ (AI 0 99 g29) ∧ (AI 0 9 g30) ∧ (AI 0 35 g7) ∧ (AI 0 35 g8) ∧ (AI 0 19 g10) ∧ (AI 0 22 g13) ∧ (AI 0 35 g14) ∧ (0 ≤ g15 ∧ g15 ≤ 36) ∧ (AI 0 35 g16) ∧ (0 ≤ g17 ∧ g17 ≤ 36) ∧ (0 ≤ g19 ∧ g19 ≤ 60) from ⟨h_g22, h_g23, h_g24, h_g25, h_g26, h_g27, h_g28, h_g29, h_g30, h_g7, h_g8, h_g10, h_g13, h_g14, h_g15, h_g16, h_g17, h_g19⟩)
    · refine Sf.bind (sX6_refuse ) ?_
      rintro ⟨v34, g35⟩ hr8
      dsimp only [u2]
      exact Sf.ok (show (0 ≤ x2_lineCount ∧ x2_lineCount ≤ 20) ∧ (0 ≤ x2_goodsCount ∧ x2_goodsCount ≤ 8) ∧ (0 ≤ x2_workCount ∧ x2_workCount ≤ 7) ∧ (1 ≤ x2_years ∧ x2_years ≤ 30) ∧ (LnOk x2_lines) ∧ (GdOk x2_goods) ∧ (WkOk x2_works) ∧ (AI 0 99 x2_change) ∧ (AI 0 9 x2_coin) ∧ (AI 0 35 x5_edgeA) ∧ (AI 0 35 x5_edgeB) ∧ (AI 0 19 x5_edgeLine) ∧ (AI 0 22 x5_steps) ∧ (AI 0 35 x5_nodes) ∧ (0 ≤ x5_stepCount ∧ x5_stepCount ≤ 36) ∧ (AI 0 35 x5_open) ∧ (0 ≤ x5_openCount ∧ x5_openCount ≤ 36) ∧ (0 ≤ x5_edgeCount ∧ x5_edgeCount ≤ 60) from ⟨h_x2_lineCount, h_x2_goodsCount, h_x2_workCount, h_x2_years, h_x2_lines, h_x2_goods, h_x2_works, h_x2_change, h_x2_coin, h_x5_edgeA, h_x5_edgeB, h_x5_edgeLine, h_x5_steps, h_x5_nodes, h_x5_stepCount, h_x5_open, h_x5_openCount, h_x5_edgeCount⟩)
theorem TX6_losers_s33 {g3 : (Nat → Int32)} {z33 z34 : Int32}  (h_z34 : (0 ≤ z34)) : Sf (fX6_losers_s33 g3 z33 z34) (LQ (u2 (fun z33 z34 => (0 ≤ z34))) (u2 (fun z33 z34 => muUp z34)) (muUp z34) (fun e => True)) := by
  unfold fX6_losers_s33
  refine Sf.ite (fun hc1 => ?_) (fun hc1 => ?_)
  · exact Sf.inr trivial
  · refine Sf.rdb 6 rfl (by grind) (fun v37 e_v37 => ?_)
    clear e_v37
    refine Sf.ite (fun hc2 => ?_) (fun hc2 => ?_)
    · exact Sf.inl (show (0 ≤ (z34 + 1)) from (by grind)) (muUp_lt hc1)
    · refine Sf.someb (fun t38 e_t38 => ?_)
      exact Sf.inl (show (0 ≤ (z34 + 1)) from (by grind)) (muUp_lt hc1)
theorem LX6_losers_s33 {n : Nat} {g3 : (Nat → Int32)} {z33 z34 : Int32} (hn : 1000000000000 ≤ n) (h_z34 : (0 ≤ z34)) : Sf (lp (u2 (fX6_losers_s33 g3)) n (z33, z34)) (fun e => True) :=
  Sf.loop2 (fun z33 z34 => (0 ≤ z34)) (fun z33 z34 => muUp z34) (fun z33 z34 h => TX6_losers_s33 h) h_z34 (muUp_n hn)
set_option maxHeartbeats 1000000 in
theorem sX6_losers {n : Nat} {x0_refused : (Nat → Int32)} {x0_isKept x0_gone x0_spent : Int32} {x1_gained : (Nat → Int32)} {x2_lineCount x2_goodsCount x2_workCount x2_years : Int32} {x2_lines x2_goods x2_works x2_change x2_coin x2_knownFree : (Nat → Int32)} {x2_isKnown x3_lineCount x3_goodsCount x3_workCount x3_years : Int32} {x3_lines x3_goods x3_works x3_change x3_coin x3_knownFree : (Nat → Int32)} {x3_isKnown : Int32} {x4_left x4_earned : (Nat → Int32)} {x4_turnCost x4_turnWayless : Int32} {x5_edgeA x5_edgeB x5_edgeCost x5_edgeLine x5_change x5_away x5_steps x5_nodes : (Nat → Int32)} {x5_stepCount : Int32} {x5_open : (Nat → Int32)} {x5_openCount : Int32} {x5_seen : Int64} {x5_edgeCount x5_aim p1 : Int32} (hn : 1000000000000 ≤ n) (h_x2_lineCount : (0 ≤ x2_lineCount ∧ x2_lineCount ≤ 20)) (h_x2_goodsCount : (0 ≤ x2_goodsCount ∧ x2_goodsCount ≤ 8)) (h_x2_workCount : (0 ≤ x2_workCount ∧ x2_workCount ≤ 7)) (h_x2_years : (1 ≤ x2_years ∧ x2_years ≤ 30)) (h_x2_lines : (LnOk x2_lines)) (h_x2_goods : (GdOk x2_goods)) (h_x2_works : (WkOk x2_works)) (h_x2_change : (AI 0 99 x2_change)) (h_x2_coin : (AI 0 9 x2_coin)) (h_x3_lineCount : (0 ≤ x3_lineCount ∧ x3_lineCount ≤ 20)) (h_x3_goodsCount : (0 ≤ x3_goodsCount ∧ x3_goodsCount ≤ 8)) (h_x3_workCount : (0 ≤ x3_workCount ∧ x3_workCount ≤ 7)) (h_x3_years : (1 ≤ x3_years ∧ x3_years ≤ 30)) (h_x3_lines : (LnOk x3_lines)) (h_x3_goods : (GdOk x3_goods)) (h_x3_works : (WkOk x3_works)) (h_x3_change : (AI 0 99 x3_change)) (h_x3_coin : (AI 0 9 x3_coin)) (h_x5_edgeA : (AI 0 35 x5_edgeA)) (h_x5_edgeB : (AI 0 35 x5_edgeB)) (h_x5_edgeLine : (AI 0 19 x5_edgeLine)) (h_x5_steps : (AI 0 22 x5_steps)) (h_x5_nodes : (AI 0 35 x5_nodes)) (h_x5_stepCount : (0 ≤ x5_stepCount ∧ x5_stepCount ≤ 36)) (h_x5_open : (AI 0 35 x5_open)) (h_x5_openCount : (0 ≤ x5_openCount ∧ x5_openCount ≤ 36)) (h_x5_edgeCount : (0 ≤ x5_edgeCount ∧ x5_edgeCount ≤ 60)) : Sf (fX6_losers n (x0_refused, x0_isKept, x0_gone, x0_spent) x1_gained (x2_lineCount, x2_goodsCount, x2_workCount, x2_years, x2_lines, x2_goods, x2_works, x2_change, x2_coin, x2_knownFree, x2_isKnown) (x3_lineCount, x3_goodsCount, x3_workCount, x3_years, x3_lines, x3_goods, x3_works, x3_change, x3_coin, x3_knownFree, x3_isKnown) (x4_left, x4_earned, x4_turnCost, x4_turnWayless) (x5_edgeA, x5_edgeB, x5_edgeCost, x5_edgeLine, x5_change, x5_away, x5_steps, x5_nodes, x5_stepCount, x5_open, x5_openCount, x5_seen, x5_edgeCount, x5_aim) p1) (fun r => (0 ≤ r.2.2.2.1.1 ∧ r.2.2.2.1.1 ≤ 20) ∧ (0 ≤ r.2.2.2.1.2.1 ∧ r.2.2.2.1.2.1 ≤ 8) ∧ (0 ≤ r.2.2.2.1.2.2.1 ∧ r.2.2.2.1.2.2.1 ≤ 7) ∧ (1 ≤ r.2.2.2.1.2.2.2.1 ∧ r.2.2.2.1.2.2.2.1 ≤ 30) ∧ (LnOk r.2.2.2.1.2.2.2.2.1) ∧ (GdOk r.2.2.2.1.2.2.2.2.2.1) ∧ (WkOk r.2.2.2.1.2.2.2.2.2.2.1) ∧ (AI 0 99 r.2.2.2.1.2.2.2.2.2.2.2.1) ∧ (AI 0 9 r.2.2.2.1.2.2.2.2.2.2.2.2.1) ∧ (AI 0 35 r.2.2.2.2.2.1) ∧ (AI 0 35 r.2.2.2.2.2.2.1) ∧ (AI 0 19 r.2.2.2.2.2.2.2.2.1) ∧ (AI 0 22 r.2.2.2.2.2.2.2.2.2.2.2.1) ∧ (AI 0 35 r.2.2.2.2.2.2.2.2.2.2.2.2.1) ∧ (0 ≤ r.2.2.2.2.2.2.2.2.2.2.2.2.2.1 ∧ r.2.2.2.2.2.2.2.2.2.2.2.2.2.1 ≤ 36) ∧ (AI 0 35 r.2.2.2.2.2.2.2.2.2.2.2.2.2.2.1) ∧ (0 ≤ r.2.2.2.2.2.2.2.2.2.2.2.2.2.2.2.1 ∧ r.2.2.2.2.2.2.2.2.2.2.2.2.2.2.2.1 ≤ 36) ∧ (0 ≤ r.2.2.2.2.2.2.2.2.2.2.2.2.2.2.2.2.2.1 ∧ r.2.2.2.2.2.2.2.2.2.2.2.2.2.2.2.2.2.1 ≤ 60)) := by
  unfold fX6_losers
  dsimp only [u11, u14, u4]
  refine Sf.bind (sX6_noChoice h_x3_lineCount h_x3_goodsCount h_x3_workCount h_x3_years h_x3_lines h_x3_goods h_x3_works h_x3_change h_x3_coin) ?_
  intro v1 hr1
  have hx_v1 : (v1 ≠ 0 ∨ (0 ≤ p1 ∧ p1 < x3_workCount)) := hr1
  refine Sf.ite (fun hc2 => ?_) (fun hc2 => ?_)
  · refine Sf.bind (sX0_gainBy hn h_x5_edgeA h_x5_edgeB h_x5_edgeLine h_x5_steps h_x5_nodes h_x5_stepCount h_x5_open h_x5_openCount h_x5_edgeCount h_x2_lineCount h_x2_goodsCount h_x2_workCount h_x2_years h_x2_lines h_x2_goods h_x2_works h_x2_change h_x2_coin h_x3_lineCount h_x3_goodsCount h_x3_workCount h_x3_years h_x3_lines h_x3_goods h_x3_works h_x3_change h_x3_coin) ?_
    rintro ⟨g3, g4, ⟨g6, g7, g8, g9, g10, g11, g12, g13, g14, g15, g16, g17, g18, g19⟩, ⟨g21, g22, g23, g24, g25, g26, g27, g28, g29, g30⟩⟩ hr3
    obtain ⟨h_g6, h_g7, h_g9, h_g12, h_g13, h_g14, h_g15, h_g16, h_g18, h_g21, h_g22, h_g23, h_g24, h_g25, h_g26, h_g27, h_g28, h_g29⟩ : (AI 0 35 g6) ∧ (AI 0 35 g7) ∧ (AI 0 19 g9) ∧ (AI 0 22 g12) ∧ (AI 0 35 g13) ∧ (0 ≤ g14 ∧ g14 ≤ 36) ∧ (AI 0 35 g15) ∧ (0 ≤ g16 ∧ g16 ≤ 36) ∧ (0 ≤ g18 ∧ g18 ≤ 60) ∧ (0 ≤ g21 ∧ g21 ≤ 20) ∧ (0 ≤ g22 ∧ g22 ≤ 8) ∧ (0 ≤ g23 ∧ g23 ≤ 7) ∧ (1 ≤ g24 ∧ g24 ≤ 30) ∧ (LnOk g25) ∧ (GdOk g26) ∧ (WkOk g27) ∧ (AI 0 99 g28) ∧ (AI 0 9 g29) := hr3
    dsimp only [u10, u14, u4]
    refine Sf.bind (LX6_losers_s33 hn (by decide)) ?_
    intro w36 hr4
    exact Sf.ok (show (0 ≤ g21 ∧ g21 ≤ 20) ∧ (0 ≤ g22 ∧ g22 ≤ 8) ∧ (0 ≤ g23 ∧ g23 ≤ 7) ∧ (1 ≤ g24 ∧ g24 ≤ 30) ∧ (LnOk g25) ∧ (GdOk g26) ∧ (WkOk g27) ∧ (AI 0 99 g28) ∧ (AI 0 9 g29) ∧ (AI 0 35 g6) ∧ (AI 0 35 g7) ∧ (AI 0 19 g9) ∧ (AI 0 22 g12) ∧ (AI 0 35 g13) ∧ (0 ≤ g14 ∧ g14 ≤ 36) ∧ (AI 0 35 g15) ∧ (0 ≤ g16 ∧ g16 ≤ 36) ∧ (0 ≤ g18 ∧ g18 ≤ 60) from ⟨h_g21, h_g22, h_g23, h_g24, h_g25, h_g26, h_g27, h_g28, h_g29, h_g6, h_g7, h_g9, h_g12, h_g13, h_g14, h_g15, h_g16, h_g18⟩)
  · refine Sf.bind (sX6_refuse ) ?_
    rintro ⟨v39, g40⟩ hr5
    dsimp only [u2]
    exact Sf.ok (show (0 ≤ x2_lineCount ∧ x2_lineCount ≤ 20) ∧ (0 ≤ x2_goodsCount ∧ x2_goodsCount ≤ 8) ∧ (0 ≤ x2_workCount ∧ x2_workCount ≤ 7) ∧ (1 ≤ x2_years ∧ x2_years ≤ 30) ∧ (LnOk x2_lines) ∧ (GdOk x2_goods) ∧ (WkOk x2_works) ∧ (AI 0 99 x2_change) ∧ (AI 0 9 x2_coin) ∧ (AI 0 35 x5_edgeA) ∧ (AI 0 35 x5_edgeB) ∧ (AI 0 19 x5_edgeLine) ∧ (AI 0 22 x5_steps) ∧ (AI 0 35 x5_nodes) ∧ (0 ≤ x5_stepCount ∧ x5_stepCount ≤ 36) ∧ (AI 0 35 x5_open) ∧ (0 ≤ x5_openCount ∧ x5_openCount ≤ 36) ∧ (0 ≤ x5_edgeCount ∧ x5_edgeCount ≤ 60) from ⟨h_x2_lineCount, h_x2_goodsCount, h_x2_workCount, h_x2_years, h_x2_lines, h_x2_goods, h_x2_works, h_x2_change, h_x2_coin, h_x5_edgeA, h_x5_edgeB, h_x5_edgeLine, h_x5_steps, h_x5_nodes, h_x5_stepCount, h_x5_open, h_x5_openCount, h_x5_edgeCount⟩)
set_option maxHeartbeats 1000000 in
theorem sX6_port {n : Nat} {x0_refused : (Nat → Int32)} {x0_isKept x0_gone x0_spent x1_lineCount x1_goodsCount x1_workCount x1_years : Int32} {x1_lines x1_goods x1_works x1_change x1_coin x1_knownFree : (Nat → Int32)} {x1_isKnown : Int32} {x2_left x2_earned : (Nat → Int32)} {x2_turnCost x2_turnWayless : Int32} {x3_edgeA x3_edgeB x3_edgeCost x3_edgeLine x3_change x3_away x3_steps x3_nodes : (Nat → Int32)} {x3_stepCount : Int32} {x3_open : (Nat → Int32)} {x3_openCount : Int32} {x3_seen : Int64} {x3_edgeCount x3_aim p1 p2 : Int32} (hn : 1000000000000 ≤ n) (h_x1_lineCount : (0 ≤ x1_lineCount ∧ x1_lineCount ≤ 20)) (h_x1_goodsCount : (0 ≤ x1_goodsCount ∧ x1_goodsCount ≤ 8)) (h_x1_workCount : (0 ≤ x1_workCount ∧ x1_workCount ≤ 7)) (h_x1_years : (1 ≤ x1_years ∧ x1_years ≤ 30)) (h_x1_lines : (LnOk x1_lines)) (h_x1_goods : (GdOk x1_goods)) (h_x1_works : (WkOk x1_works)) (h_x1_change : (AI 0 99 x1_change)) (h_x1_coin : (AI 0 9 x1_coin)) (h_x3_edgeA : (AI 0 35 x3_edgeA)) (h_x3_edgeB : (AI 0 35 x3_edgeB)) (h_x3_edgeLine : (AI 0 19 x3_edgeLine)) (h_x3_steps : (AI 0 22 x3_steps)) (h_x3_nodes : (AI 0 35 x3_nodes)) (h_x3_stepCount : (0 ≤ x3_stepCount ∧ x3_stepCount ≤ 36)) (h_x3_open : (AI 0 35 x3_open)) (h_x3_openCount : (0 ≤ x3_openCount ∧ x3_openCount ≤ 36)) (h_x3_edgeCount : (0 ≤ x3_edgeCount ∧ x3_edgeCount ≤ 60)) : Sf (fX6_port n (x0_refused, x0_isKept, x0_gone, x0_spent) (x1_lineCount, x1_goodsCount, x1_workCount, x1_years, x1_lines, x1_goods, x1_works, x1_change, x1_coin, x1_knownFree, x1_isKnown) (x2_left, x2_earned, x2_turnCost, x2_turnWayless) (x3_edgeA, x3_edgeB, x3_edgeCost, x3_edgeLine, x3_change, x3_away, x3_steps, x3_nodes, x3_stepCount, x3_open, x3_openCount, x3_seen, x3_edgeCount, x3_aim) p1 p2) (fun r => (AI 0 35 r.2.2.1) ∧ (AI 0 35 r.2.2.2.1) ∧ (AI 0 19 r.2.2.2.2.2.1) ∧ (AI 0 22 r.2.2.2.2.2.2.2.2.1) ∧ (AI 0 35 r.2.2.2.2.2.2.2.2.2.1) ∧ (0 ≤ r.2.2.2.2.2.2.2.2.2.2.1 ∧ r.2.2.2.2.2.2.2.2.2.2.1 ≤ 36) ∧ (AI 0 35 r.2.2.2.2.2.2.2.2.2.2.2.1) ∧ (0 ≤ r.2.2.2.2.2.2.2.2.2.2.2.2.1 ∧ r.2.2.2.2.2.2.2.2.2.2.2.2.1 ≤ 36) ∧ (0 ≤ r.2.2.2.2.2.2.2.2.2.2.2.2.2.2.1 ∧ r.2.2.2.2.2.2.2.2.2.2.2.2.2.2.1 ≤ 60)) := by
  unfold fX6_port
  dsimp only [u11, u14, u4]
  refine Sf.bind (sX6_isPlace ) ?_
  intro v1 hr1
  have hx_v1 : ((v1 = 1 ∧ 0 ≤ p1 ∧ p1 ≤ 11) ∨ (v1 = 0 ∧ (p1 < 0 ∨ 11 < p1))) := hr1
  refine Sf.ite (fun hc2 => ?_) (fun hc2 => ?_)
  · refine Sf.bind (sX6_refuse ) ?_
    rintro ⟨v20, g21⟩ hr3
    dsimp only [u2]
    exact Sf.ok (show (AI 0 35 x3_edgeA) ∧ (AI 0 35 x3_edgeB) ∧ (AI 0 19 x3_edgeLine) ∧ (AI 0 22 x3_steps) ∧ (AI 0 35 x3_nodes) ∧ (0 ≤ x3_stepCount ∧ x3_stepCount ≤ 36) ∧ (AI 0 35 x3_open) ∧ (0 ≤ x3_openCount ∧ x3_openCount ≤ 36) ∧ (0 ≤ x3_edgeCount ∧ x3_edgeCount ≤ 60) from ⟨h_x3_edgeA, h_x3_edgeB, h_x3_edgeLine, h_x3_steps, h_x3_nodes, h_x3_stepCount, h_x3_open, h_x3_openCount, h_x3_edgeCount⟩)
  · refine Sf.bind (sX4_tonsAt hn h_x3_edgeA h_x3_edgeB h_x3_edgeLine h_x3_steps h_x3_nodes h_x3_stepCount h_x3_open h_x3_openCount h_x3_edgeCount h_x1_lineCount h_x1_goodsCount h_x1_workCount h_x1_years h_x1_lines h_x1_goods h_x1_works h_x1_change h_x1_coin) ?_
    rintro ⟨v3, ⟨g5, g6, g7, g8, g9, g10, g11, g12, g13, g14, g15, g16, g17, g18⟩⟩ hr4
    obtain ⟨h_g5, h_g6, h_g8, h_g11, h_g12, h_g13, h_g14, h_g15, h_g17⟩ : (AI 0 35 g5) ∧ (AI 0 35 g6) ∧ (AI 0 19 g8) ∧ (AI 0 22 g11) ∧ (AI 0 35 g12) ∧ (0 ≤ g13 ∧ g13 ≤ 36) ∧ (AI 0 35 g14) ∧ (0 ≤ g15 ∧ g15 ≤ 36) ∧ (0 ≤ g17 ∧ g17 ≤ 60) := hr4
    dsimp only [u14, u2]
    exact Sf.ok (show (AI 0 35 g5) ∧ (AI 0 35 g6) ∧ (AI 0 19 g8) ∧ (AI 0 22 g11) ∧ (AI 0 35 g12) ∧ (0 ≤ g13 ∧ g13 ≤ 36) ∧ (AI 0 35 g14) ∧ (0 ≤ g15 ∧ g15 ≤ 36) ∧ (0 ≤ g17 ∧ g17 ≤ 60) from ⟨h_g5, h_g6, h_g8, h_g11, h_g12, h_g13, h_g14, h_g15, h_g17⟩)
set_option maxHeartbeats 1000000 in
theorem sX6_hangs {n : Nat} {x0_refused : (Nat → Int32)} {x0_isKept x0_gone x0_spent x1_lineCount x1_goodsCount x1_workCount x1_years : Int32} {x1_lines x1_goods x1_works x1_change x1_coin x1_knownFree : (Nat → Int32)} {x1_isKnown : Int32} {x2_left x2_earned : (Nat → Int32)} {x2_turnCost x2_turnWayless : Int32} {x3_edgeA x3_edgeB x3_edgeCost x3_edgeLine x3_change x3_away x3_steps x3_nodes : (Nat → Int32)} {x3_stepCount : Int32} {x3_open : (Nat → Int32)} {x3_openCount : Int32} {x3_seen : Int64} {x3_edgeCount x3_aim : Int32} (hn : 1000000000000 ≤ n) (h_x1_lineCount : (0 ≤ x1_lineCount ∧ x1_lineCount ≤ 20)) (h_x1_goodsCount : (0 ≤ x1_goodsCount ∧ x1_goodsCount ≤ 8)) (h_x1_workCount : (0 ≤ x1_workCount ∧ x1_workCount ≤ 7)) (h_x1_years : (1 ≤ x1_years ∧ x1_years ≤ 30)) (h_x1_lines : (LnOk x1_lines)) (h_x1_goods : (GdOk x1_goods)) (h_x1_works : (WkOk x1_works)) (h_x1_change : (AI 0 99 x1_change)) (h_x1_coin : (AI 0 9 x1_coin)) (h_x3_edgeA : (AI 0 35 x3_edgeA)) (h_x3_edgeB : (AI 0 35 x3_edgeB)) (h_x3_edgeLine : (AI 0 19 x3_edgeLine)) (h_x3_steps : (AI 0 22 x3_steps)) (h_x3_nodes : (AI 0 35 x3_nodes)) (h_x3_stepCount : (0 ≤ x3_stepCount ∧ x3_stepCount ≤ 36)) (h_x3_open : (AI 0 35 x3_open)) (h_x3_openCount : (0 ≤ x3_openCount ∧ x3_openCount ≤ 36)) (h_x3_edgeCount : (0 ≤ x3_edgeCount ∧ x3_edgeCount ≤ 60)) : Sf (fX6_hangs n (x0_refused, x0_isKept, x0_gone, x0_spent) (x1_lineCount, x1_goodsCount, x1_workCount, x1_years, x1_lines, x1_goods, x1_works, x1_change, x1_coin, x1_knownFree, x1_isKnown) (x2_left, x2_earned, x2_turnCost, x2_turnWayless) (x3_edgeA, x3_edgeB, x3_edgeCost, x3_edgeLine, x3_change, x3_away, x3_steps, x3_nodes, x3_stepCount, x3_open, x3_openCount, x3_seen, x3_edgeCount, x3_aim)) (fun r => (AI 0 35 r.2.2.1) ∧ (AI 0 35 r.2.2.2.1) ∧ (AI 0 19 r.2.2.2.2.2.1) ∧ (0 ≤ r.2.2.2.2.2.2.2.2.1 ∧ r.2.2.2.2.2.2.2.2.1 ≤ 60)) := by
  unfold fX6_hangs
  dsimp only [u11, u14, u4]
  refine Sf.bind (sX4_dearestLoss hn h_x3_edgeA h_x3_edgeB h_x3_edgeLine h_x3_steps h_x3_nodes h_x3_stepCount h_x3_open h_x3_openCount h_x3_edgeCount h_x1_lineCount h_x1_goodsCount h_x1_workCount h_x1_years h_x1_lines h_x1_goods h_x1_works h_x1_change h_x1_coin) ?_
  rintro ⟨v1, ⟨g3, g4, g5, g6, g7, g8, g9, g10⟩⟩ hr1
  obtain ⟨h_g3, h_g4, h_g6, h_g9⟩ : (AI 0 35 g3) ∧ (AI 0 35 g4) ∧ (AI 0 19 g6) ∧ (0 ≤ g9 ∧ g9 ≤ 60) := hr1
  dsimp only [u2, u8]
  refine Sf.ite (fun hc2 => ?_) (fun hc2 => ?_)
  · refine Sf.bind (sX6_refuse ) ?_
    rintro ⟨v12, g13⟩ hr3
    dsimp only [u2]
    exact Sf.ok (show (AI 0 35 g3) ∧ (AI 0 35 g4) ∧ (AI 0 19 g6) ∧ (0 ≤ g9 ∧ g9 ≤ 60) from ⟨h_g3, h_g4, h_g6, h_g9⟩)
  · exact Sf.ok (show (AI 0 35 g3) ∧ (AI 0 35 g4) ∧ (AI 0 19 g6) ∧ (0 ≤ g9 ∧ g9 ≤ 60) from ⟨h_g3, h_g4, h_g6, h_g9⟩)
set_option maxHeartbeats 1000000 in
theorem sX6_noPlan {x0_refused : (Nat → Int32)} {x0_isKept x0_gone x0_spent : Int32} {x1_elements : (Nat → Nat → Int64)} {x1_held x1_sizes : (Nat → Int32)} {p1 p2 : Int32}  (h_x1_held : (AI (-1) 16 x1_held)) (h_x1_sizes : (AI 0 40 x1_sizes)) : Sf (fX6_noPlan (x0_refused, x0_isKept, x0_gone, x0_spent) (x1_elements, x1_held, x1_sizes) p1 p2) (fun r => (r ≠ 0 ∨ (0 ≤ p1 ∧ p1 ≤ 7))) := by
  unfold fX6_noPlan
  dsimp only [u3, u4]
  refine Sf.bind (sX6_within ) ?_
  intro v1 hr1
  have hx_v1 : ((v1 = 1 ∧ 0 ≤ p2 ∧ p2 ≤ 30) ∨ (v1 = 0 ∧ (p2 < 0 ∨ 30 < p2))) := hr1
  refine Sf.ite (fun hc2 => ?_) (fun hc2 => ?_)
  · exact Sf.ok (show ((-2) ≠ 0 ∨ (0 ≤ p1 ∧ p1 ≤ 7)) from (by grind))
  · refine Sf.bind (sX6_noRow h_x1_held h_x1_sizes) ?_
    intro v3 hr3
    have hx_v3 : (v3 ≠ 0 ∨ (0 ≤ p1 ∧ p1 ≤ 7)) := hr3
    refine Sf.ite (fun hc4 => ?_) (fun hc4 => ?_)
    · refine Sf.rdI 8 rfl h_x1_sizes (by grind) (fun v5 h_v5 e_v5 => ?_)
      clear e_v5
      refine Sf.ite (fun hc5 => ?_) (fun hc5 => ?_)
      · exact Sf.ok (show (0 ≠ 0 ∨ (0 ≤ p1 ∧ p1 ≤ 7)) from (by grind))
      · exact Sf.ok (show ((-2) ≠ 0 ∨ (0 ≤ p1 ∧ p1 ≤ 7)) from (by grind))
    · exact Sf.ok (show (v3 ≠ 0 ∨ (0 ≤ p1 ∧ p1 ≤ 7)) from (by grind))
set_option maxHeartbeats 1000000 in
theorem sX6_plan {n : Nat} {x0_refused : (Nat → Int32)} {x0_isKept x0_gone x0_spent : Int32} {x1_gained : (Nat → Int32)} {x2_lineCount x2_goodsCount x2_workCount x2_years : Int32} {x2_lines x2_goods x2_works x2_change x2_coin x2_knownFree : (Nat → Int32)} {x2_isKnown x3_lineCount x3_goodsCount x3_workCount x3_years : Int32} {x3_lines x3_goods x3_works x3_change x3_coin x3_knownFree : (Nat → Int32)} {x3_isKnown : Int32} {x4_elements : (Nat → Nat → Int64)} {x4_held x4_sizes : (Nat → Int32)} {x5_lineCount x5_goodsCount x5_workCount x5_years : Int32} {x5_lines x5_goods x5_works x5_change x5_coin x5_knownFree : (Nat → Int32)} {x5_isKnown : Int32} {x6_left x6_earned : (Nat → Int32)} {x6_turnCost x6_turnWayless : Int32} {x7_edgeA x7_edgeB x7_edgeCost x7_edgeLine x7_change x7_away x7_steps x7_nodes : (Nat → Int32)} {x7_stepCount : Int32} {x7_open : (Nat → Int32)} {x7_openCount : Int32} {x7_seen : Int64} {x7_edgeCount x7_aim p1 p2 : Int32} (hn : 1000000000000 ≤ n) (h_x2_lineCount : (0 ≤ x2_lineCount ∧ x2_lineCount ≤ 20)) (h_x2_goodsCount : (0 ≤ x2_goodsCount ∧ x2_goodsCount ≤ 8)) (h_x2_workCount : (0 ≤ x2_workCount ∧ x2_workCount ≤ 7)) (h_x2_years : (1 ≤ x2_years ∧ x2_years ≤ 30)) (h_x2_lines : (LnOk x2_lines)) (h_x2_goods : (GdOk x2_goods)) (h_x2_works : (WkOk x2_works)) (h_x2_change : (AI 0 99 x2_change)) (h_x2_coin : (AI 0 9 x2_coin)) (h_x3_lineCount : (0 ≤ x3_lineCount ∧ x3_lineCount ≤ 20)) (h_x3_goodsCount : (0 ≤ x3_goodsCount ∧ x3_goodsCount ≤ 8)) (h_x3_workCount : (0 ≤ x3_workCount ∧ x3_workCount ≤ 7)) (h_x3_years : (1 ≤ x3_years ∧ x3_years ≤ 30)) (h_x3_lines : (LnOk x3_lines)) (h_x3_goods : (GdOk x3_goods)) (h_x3_works : (WkOk x3_works)) (h_x3_change : (AI 0 99 x3_change)) (h_x3_coin : (AI 0 9 x3_coin)) (h_x4_held : (AI (-1) 16 x4_held)) (h_x4_sizes : (AI 0 40 x4_sizes)) (h_x5_lineCount : (0 ≤ x5_lineCount ∧ x5_lineCount ≤ 20)) (h_x5_goodsCount : (0 ≤ x5_goodsCount ∧ x5_goodsCount ≤ 8)) (h_x5_workCount : (0 ≤ x5_workCount ∧ x5_workCount ≤ 7)) (h_x5_years : (1 ≤ x5_years ∧ x5_years ≤ 30)) (h_x5_lines : (LnOk x5_lines)) (h_x5_goods : (GdOk x5_goods)) (h_x5_works : (WkOk x5_works)) (h_x5_change : (AI 0 99 x5_change)) (h_x5_coin : (AI 0 9 x5_coin)) (h_x7_edgeA : (AI 0 35 x7_edgeA)) (h_x7_edgeB : (AI 0 35 x7_edgeB)) (h_x7_edgeLine : (AI 0 19 x7_edgeLine)) (h_x7_steps : (AI 0 22 x7_steps)) (h_x7_nodes : (AI 0 35 x7_nodes)) (h_x7_stepCount : (0 ≤ x7_stepCount ∧ x7_stepCount ≤ 36)) (h_x7_open : (AI 0 35 x7_open)) (h_x7_openCount : (0 ≤ x7_openCount ∧ x7_openCount ≤ 36)) (h_x7_edgeCount : (0 ≤ x7_edgeCount ∧ x7_edgeCount ≤ 60)) : Sf (fX6_plan n (x0_refused, x0_isKept, x0_gone, x0_spent) x1_gained (x2_lineCount, x2_goodsCount, x2_workCount, x2_years, x2_lines, x2_goods, x2_works, x2_change, x2_coin, x2_knownFree, x2_isKnown) (x3_lineCount, x3_goodsCount, x3_workCount, x3_years, x3_lines, x3_goods, x3_works, x3_change, x3_coin, x3_knownFree, x3_isKnown) (x4_elements, x4_held, x4_sizes) (x5_lineCount, x5_goodsCount, x5_workCount, x5_years, x5_lines, x5_goods, x5_works, x5_change, x5_coin, x5_knownFree, x5_isKnown) (x6_left, x6_earned, x6_turnCost, x6_turnWayless) (x7_edgeA, x7_edgeB, x7_edgeCost, x7_edgeLine, x7_change, x7_away, x7_steps, x7_nodes, x7_stepCount, x7_open, x7_openCount, x7_seen, x7_edgeCount, x7_aim) p1 p2) (fun r => (0 ≤ r.2.2.1.1 ∧ r.2.2.1.1 ≤ 20) ∧ (0 ≤ r.2.2.1.2.1 ∧ r.2.2.1.2.1 ≤ 8) ∧ (0 ≤ r.2.2.1.2.2.1 ∧ r.2.2.1.2.2.1 ≤ 7) ∧ (1 ≤ r.2.2.1.2.2.2.1 ∧ r.2.2.1.2.2.2.1 ≤ 30) ∧ (LnOk r.2.2.1.2.2.2.2.1) ∧ (GdOk r.2.2.1.2.2.2.2.2.1) ∧ (WkOk r.2.2.1.2.2.2.2.2.2.1) ∧ (AI 0 99 r.2.2.1.2.2.2.2.2.2.2.1) ∧ (AI 0 9 r.2.2.1.2.2.2.2.2.2.2.2.1) ∧ (0 ≤ r.2.2.2.1.1 ∧ r.2.2.2.1.1 ≤ 20) ∧ (0 ≤ r.2.2.2.1.2.1 ∧ r.2.2.2.1.2.1 ≤ 8) ∧ (0 ≤ r.2.2.2.1.2.2.1 ∧ r.2.2.2.1.2.2.1 ≤ 7) ∧ (1 ≤ r.2.2.2.1.2.2.2.1 ∧ r.2.2.2.1.2.2.2.1 ≤ 30) ∧ (LnOk r.2.2.2.1.2.2.2.2.1) ∧ (GdOk r.2.2.2.1.2.2.2.2.2.1) ∧ (WkOk r.2.2.2.1.2.2.2.2.2.2.1) ∧ (AI 0 99 r.2.2.2.1.2.2.2.2.2.2.2.1) ∧ (AI 0 9 r.2.2.2.1.2.2.2.2.2.2.2.2.1) ∧ (AI 0 35 r.2.2.2.2.1) ∧ (AI 0 35 r.2.2.2.2.2.1) ∧ (AI 0 19 r.2.2.2.2.2.2.2.1) ∧ (0 ≤ r.2.2.2.2.2.2.2.2.2.2.1 ∧ r.2.2.2.2.2.2.2.2.2.2.1 ≤ 60)) := by
  unfold fX6_plan
  dsimp only [u11, u14, u3, u4]
  refine Sf.bind (sX6_noPlan h_x4_held h_x4_sizes) ?_
  intro v1 hr1
  have hx_v1 : (v1 ≠ 0 ∨ (0 ≤ p1 ∧ p1 ≤ 7)) := hr1
  refine Sf.ite (fun hc2 => ?_) (fun hc2 => ?_)
  · refine Sf.ckb 8 rfl (by grind) (fun q3 e_q3 h_q3 => ?_)
    refine Sf.bind (sX0_wrongAt hn h_x5_lineCount h_x5_goodsCount h_x5_workCount h_x5_years h_x5_lines h_x5_goods h_x5_works h_x5_change h_x5_coin) ?_
    intro v4 hr3
    refine Sf.ite (fun hc4 => ?_) (fun hc4 => ?_)
    · refine Sf.ckb 8 rfl (by grind) (fun q6 e_q6 h_q6 => ?_)
      refine Sf.bind (sX0_costOfPlan hn h_x2_lineCount h_x2_goodsCount h_x2_workCount h_x2_years h_x2_lines h_x2_goods h_x2_works h_x2_change h_x2_coin h_x7_edgeA h_x7_edgeB h_x7_edgeLine h_x7_steps h_x7_nodes h_x7_stepCount h_x7_open h_x7_openCount h_x7_edgeCount h_x3_lineCount h_x3_goodsCount h_x3_workCount h_x3_years h_x3_lines h_x3_goods h_x3_works h_x3_change h_x3_coin h_x5_lineCount h_x5_goodsCount h_x5_workCount h_x5_years h_x5_lines h_x5_goods h_x5_works h_x5_change h_x5_coin) ?_
      rintro ⟨v7, ⟨g9, g10, g11, g12, g13, g14, g15, g16, g17, g18, g19⟩, ⟨g21, g22, g23, g24, g25, g26, g27, g28⟩, ⟨g30, g31, g32, g33, g34, g35, g36, g37, g38, g39⟩⟩ hr5
      obtain ⟨h_g9, h_g10, h_g11, h_g12, h_g13, h_g14, h_g15, h_g16, h_g17, h_g21, h_g22, h_g24, h_g27, h_g30, h_g31, h_g32, h_g33, h_g34, h_g35, h_g36, h_g37, h_g38⟩ : (0 ≤ g9 ∧ g9 ≤ 20) ∧ (0 ≤ g10 ∧ g10 ≤ 8) ∧ (0 ≤ g11 ∧ g11 ≤ 7) ∧ (1 ≤ g12 ∧ g12 ≤ 30) ∧ (LnOk g13) ∧ (GdOk g14) ∧ (WkOk g15) ∧ (AI 0 99 g16) ∧ (AI 0 9 g17) ∧ (AI 0 35 g21) ∧ (AI 0 35 g22) ∧ (AI 0 19 g24) ∧ (0 ≤ g27 ∧ g27 ≤ 60) ∧ (0 ≤ g30 ∧ g30 ≤ 20) ∧ (0 ≤ g31 ∧ g31 ≤ 8) ∧ (0 ≤ g32 ∧ g32 ≤ 7) ∧ (1 ≤ g33 ∧ g33 ≤ 30) ∧ (LnOk g34) ∧ (GdOk g35) ∧ (WkOk g36) ∧ (AI 0 99 g37) ∧ (AI 0 9 g38) := hr5
      dsimp only [u10, u11, u4, u8]
      exact Sf.ok (show (0 ≤ g9 ∧ g9 ≤ 20) ∧ (0 ≤ g10 ∧ g10 ≤ 8) ∧ (0 ≤ g11 ∧ g11 ≤ 7) ∧ (1 ≤ g12 ∧ g12 ≤ 30) ∧ (LnOk g13) ∧ (GdOk g14) ∧ (WkOk g15) ∧ (AI 0 99 g16) ∧ (AI 0 9 g17) ∧ (0 ≤ g30 ∧ g30 ≤ 20) ∧ (0 ≤ g31 ∧ g31 ≤ 8) ∧ (0 ≤ g32 ∧ g32 ≤ 7) ∧ (1 ≤ g33 ∧ g33 ≤ 30) ∧ (LnOk g34) ∧ (GdOk g35) ∧ (WkOk g36) ∧ (AI 0 99 g37) ∧ (AI 0 9 g38) ∧ (AI 0 35 g21) ∧ (AI 0 35 g22) ∧ (AI 0 19 g24) ∧ (0 ≤ g27 ∧ g27 ≤ 60) from ⟨h_g9, h_g10, h_g11, h_g12, h_g13, h_g14, h_g15, h_g16, h_g17, h_g30, h_g31, h_g32, h_g33, h_g34, h_g35, h_g36, h_g37, h_g38, h_g21, h_g22, h_g24, h_g27⟩)
    · refine Sf.bind (sX6_refuse ) ?_
      rintro ⟨v41, g42⟩ hr6
      dsimp only [u2]
      exact Sf.ok (show (0 ≤ x2_lineCount ∧ x2_lineCount ≤ 20) ∧ (0 ≤ x2_goodsCount ∧ x2_goodsCount ≤ 8) ∧ (0 ≤ x2_workCount ∧ x2_workCount ≤ 7) ∧ (1 ≤ x2_years ∧ x2_years ≤ 30) ∧ (LnOk x2_lines) ∧ (GdOk x2_goods) ∧ (WkOk x2_works) ∧ (AI 0 99 x2_change) ∧ (AI 0 9 x2_coin) ∧ (0 ≤ x3_lineCount ∧ x3_lineCount ≤ 20) ∧ (0 ≤ x3_goodsCount ∧ x3_goodsCount ≤ 8) ∧ (0 ≤ x3_workCount ∧ x3_workCount ≤ 7) ∧ (1 ≤ x3_years ∧ x3_years ≤ 30) ∧ (LnOk x3_lines) ∧ (GdOk x3_goods) ∧ (WkOk x3_works) ∧ (AI 0 99 x3_change) ∧ (AI 0 9 x3_coin) ∧ (AI 0 35 x7_edgeA) ∧ (AI 0 35 x7_edgeB) ∧ (AI 0 19 x7_edgeLine) ∧ (0 ≤ x7_edgeCount ∧ x7_edgeCount ≤ 60) from ⟨h_x2_lineCount, h_x2_goodsCount, h_x2_workCount, h_x2_years, h_x2_lines, h_x2_goods, h_x2_works, h_x2_change, h_x2_coin, h_x3_lineCount, h_x3_goodsCount, h_x3_workCount, h_x3_years, h_x3_lines, h_x3_goods, h_x3_works, h_x3_change, h_x3_coin, h_x7_edgeA, h_x7_edgeB, h_x7_edgeLine, h_x7_edgeCount⟩)
  · refine Sf.bind (sX6_refuse ) ?_
    rintro ⟨v44, g45⟩ hr7
    dsimp only [u2]
    exact Sf.ok (show (0 ≤ x2_lineCount ∧ x2_lineCount ≤ 20) ∧ (0 ≤ x2_goodsCount ∧ x2_goodsCount ≤ 8) ∧ (0 ≤ x2_workCount ∧ x2_workCount ≤ 7) ∧ (1 ≤ x2_years ∧ x2_years ≤ 30) ∧ (LnOk x2_lines) ∧ (GdOk x2_goods) ∧ (WkOk x2_works) ∧ (AI 0 99 x2_change) ∧ (AI 0 9 x2_coin) ∧ (0 ≤ x3_lineCount ∧ x3_lineCount ≤ 20) ∧ (0 ≤ x3_goodsCount ∧ x3_goodsCount ≤ 8) ∧ (0 ≤ x3_workCount ∧ x3_workCount ≤ 7) ∧ (1 ≤ x3_years ∧ x3_years ≤ 30) ∧ (LnOk x3_lines) ∧ (GdOk x3_goods) ∧ (WkOk x3_works) ∧ (AI 0 99 x3_change) ∧ (AI 0 9 x3_coin) ∧ (AI 0 35 x7_edgeA) ∧ (AI 0 35 x7_edgeB) ∧ (AI 0 19 x7_edgeLine) ∧ (0 ≤ x7_edgeCount ∧ x7_edgeCount ≤ 60) from ⟨h_x2_lineCount, h_x2_goodsCount, h_x2_workCount, h_x2_years, h_x2_lines, h_x2_goods, h_x2_works, h_x2_change, h_x2_coin, h_x3_lineCount, h_x3_goodsCount, h_x3_workCount, h_x3_years, h_x3_lines, h_x3_goods, h_x3_works, h_x3_change, h_x3_coin, h_x7_edgeA, h_x7_edgeB, h_x7_edgeLine, h_x7_edgeCount⟩)
set_option maxHeartbeats 1000000 in
theorem sX6_judge {n : Nat} {x0_refused : (Nat → Int32)} {x0_isKept x0_gone x0_spent : Int32} {x1_gained : (Nat → Int32)} {x2_elements : (Nat → Nat → Int64)} {x2_held x2_sizes : (Nat → Int32)} {x3_lineCount x3_goodsCount x3_workCount x3_years : Int32} {x3_lines x3_goods x3_works x3_change x3_coin x3_knownFree : (Nat → Int32)} {x3_isKnown p1 p2 : Int32} (hn : 1000000000000 ≤ n) (h_x2_held : (AI (-1) 16 x2_held)) (h_x2_sizes : (AI 0 40 x2_sizes)) (h_x3_lineCount : (0 ≤ x3_lineCount ∧ x3_lineCount ≤ 20)) (h_x3_goodsCount : (0 ≤ x3_goodsCount ∧ x3_goodsCount ≤ 8)) (h_x3_workCount : (0 ≤ x3_workCount ∧ x3_workCount ≤ 7)) (h_x3_years : (1 ≤ x3_years ∧ x3_years ≤ 30)) (h_x3_lines : (LnOk x3_lines)) (h_x3_goods : (GdOk x3_goods)) (h_x3_works : (WkOk x3_works)) (h_x3_change : (AI 0 99 x3_change)) (h_x3_coin : (AI 0 9 x3_coin)) : Sf (fX6_judge n (x0_refused, x0_isKept, x0_gone, x0_spent) x1_gained (x2_elements, x2_held, x2_sizes) (x3_lineCount, x3_goodsCount, x3_workCount, x3_years, x3_lines, x3_goods, x3_works, x3_change, x3_coin, x3_knownFree, x3_isKnown) p1 p2) (fun r => True) := by
  unfold fX6_judge
  dsimp only [u11, u3, u4]
  refine Sf.bind (sX6_noPlan h_x2_held h_x2_sizes) ?_
  intro v1 hr1
  have hx_v1 : (v1 ≠ 0 ∨ (0 ≤ p1 ∧ p1 ≤ 7)) := hr1
  refine Sf.ite (fun hc2 => ?_) (fun hc2 => ?_)
  · refine Sf.ckb 8 rfl (by grind) (fun q3 e_q3 h_q3 => ?_)
    refine Sf.bind (sX0_wrongAt hn h_x3_lineCount h_x3_goodsCount h_x3_workCount h_x3_years h_x3_lines h_x3_goods h_x3_works h_x3_change h_x3_coin) ?_
    intro v4 hr3
    exact Sf.ok trivial
  · refine Sf.bind (sX6_refuse ) ?_
    rintro ⟨v6, g7⟩ hr4
    dsimp only [u2]
    exact Sf.ok trivial
set_option maxHeartbeats 1000000 in
theorem sX6_passYear {n : Nat} {x0_refused : (Nat → Int32)} {x0_isKept x0_gone x0_spent : Int32} {x1_gained : (Nat → Int32)} {x2_lineCount x2_goodsCount x2_workCount x2_years : Int32} {x2_lines x2_goods x2_works x2_change x2_coin x2_knownFree : (Nat → Int32)} {x2_isKnown x3_lineCount x3_goodsCount x3_workCount x3_years : Int32} {x3_lines x3_goods x3_works x3_change x3_coin x3_knownFree : (Nat → Int32)} {x3_isKnown : Int32} {x4_left x4_earned : (Nat → Int32)} {x4_turnCost x4_turnWayless : Int32} {x5_edgeA x5_edgeB x5_edgeCost x5_edgeLine x5_change x5_away x5_steps x5_nodes : (Nat → Int32)} {x5_stepCount : Int32} {x5_open : (Nat → Int32)} {x5_openCount : Int32} {x5_seen : Int64} {x5_edgeCount x5_aim p1 : Int32} (hn : 1000000000000 ≤ n) (h_x2_lineCount : (0 ≤ x2_lineCount ∧ x2_lineCount ≤ 20)) (h_x2_goodsCount : (0 ≤ x2_goodsCount ∧ x2_goodsCount ≤ 8)) (h_x2_workCount : (0 ≤ x2_workCount ∧ x2_workCount ≤ 7)) (h_x2_years : (1 ≤ x2_years ∧ x2_years ≤ 30)) (h_x2_lines : (LnOk x2_lines)) (h_x2_goods : (GdOk x2_goods)) (h_x2_works : (WkOk x2_works)) (h_x2_change : (AI 0 99 x2_change)) (h_x2_coin : (AI 0 9 x2_coin)) (h_x3_lineCount : (0 ≤ x3_lineCount ∧ x3_lineCount ≤ 20)) (h_x3_goodsCount : (0 ≤ x3_goodsCount ∧ x3_goodsCount ≤ 8)) (h_x3_workCount : (0 ≤ x3_workCount ∧ x3_workCount ≤ 7)) (h_x3_years : (1 ≤ x3_years ∧ x3_years ≤ 30)) (h_x3_lines : (LnOk x3_lines)) (h_x3_goods : (GdOk x3_goods)) (h_x3_works : (WkOk x3_works)) (h_x3_change : (AI 0 99 x3_change)) (h_x3_coin : (AI 0 9 x3_coin)) (h_x5_edgeA : (AI 0 35 x5_edgeA)) (h_x5_edgeB : (AI 0 35 x5_edgeB)) (h_x5_edgeLine : (AI 0 19 x5_edgeLine)) (h_x5_steps : (AI 0 22 x5_steps)) (h_x5_nodes : (AI 0 35 x5_nodes)) (h_x5_stepCount : (0 ≤ x5_stepCount ∧ x5_stepCount ≤ 36)) (h_x5_open : (AI 0 35 x5_open)) (h_x5_openCount : (0 ≤ x5_openCount ∧ x5_openCount ≤ 36)) (h_x5_edgeCount : (0 ≤ x5_edgeCount ∧ x5_edgeCount ≤ 60)) : Sf (fX6_passYear n (x0_refused, x0_isKept, x0_gone, x0_spent) x1_gained (x2_lineCount, x2_goodsCount, x2_workCount, x2_years, x2_lines, x2_goods, x2_works, x2_change, x2_coin, x2_knownFree, x2_isKnown) (x3_lineCount, x3_goodsCount, x3_workCount, x3_years, x3_lines, x3_goods, x3_works, x3_change, x3_coin, x3_knownFree, x3_isKnown) (x4_left, x4_earned, x4_turnCost, x4_turnWayless) (x5_edgeA, x5_edgeB, x5_edgeCost, x5_edgeLine, x5_change, x5_away, x5_steps, x5_nodes, x5_stepCount, x5_open, x5_openCount, x5_seen, x5_edgeCount, x5_aim) p1) (fun r => (0 ≤ r.2.2.2.1.1 ∧ r.2.2.2.1.1 ≤ 20) ∧ (0 ≤ r.2.2.2.1.2.1 ∧ r.2.2.2.1.2.1 ≤ 8) ∧ (0 ≤ r.2.2.2.1.2.2.1 ∧ r.2.2.2.1.2.2.1 ≤ 7) ∧ (1 ≤ r.2.2.2.1.2.2.2.1 ∧ r.2.2.2.1.2.2.2.1 ≤ 30) ∧ (LnOk r.2.2.2.1.2.2.2.2.1) ∧ (GdOk r.2.2.2.1.2.2.2.2.2.1) ∧ (WkOk r.2.2.2.1.2.2.2.2.2.2.1) ∧ (AI 0 99 r.2.2.2.1.2.2.2.2.2.2.2.1) ∧ (AI 0 9 r.2.2.2.1.2.2.2.2.2.2.2.2.1) ∧ (0 ≤ r.2.2.2.2.1.1 ∧ r.2.2.2.2.1.1 ≤ 20) ∧ (LnOk r.2.2.2.2.1.2.1) ∧ (WkOk r.2.2.2.2.1.2.2.1) ∧ (AI 0 99 r.2.2.2.2.1.2.2.2.1) ∧ (AI 0 35 r.2.2.2.2.2.1) ∧ (AI 0 35 r.2.2.2.2.2.2.1) ∧ (AI 0 19 r.2.2.2.2.2.2.2.2.1) ∧ (0 ≤ r.2.2.2.2.2.2.2.2.2.2.2.1 ∧ r.2.2.2.2.2.2.2.2.2.2.2.1 ≤ 60)) := by
  unfold fX6_passYear
  dsimp only [u11, u14, u4]
  refine Sf.bind (sX0_costOfYear hn h_x5_edgeA h_x5_edgeB h_x5_edgeLine h_x5_steps h_x5_nodes h_x5_stepCount h_x5_open h_x5_openCount h_x5_edgeCount h_x2_lineCount h_x2_goodsCount h_x2_workCount h_x2_years h_x2_lines h_x2_goods h_x2_works h_x2_change h_x2_coin h_x3_lineCount h_x3_goodsCount h_x3_workCount h_x3_years h_x3_lines h_x3_goods h_x3_works h_x3_change h_x3_coin) ?_
  rintro ⟨v1, ⟨g3, g4, g5, g6, g7, g8, g9, g10⟩, ⟨g12, g13, g14, g15, g16, g17, g18, g19, g20, g21⟩, ⟨g23, g24, g25, g26, g27, g28⟩⟩ hr1
  obtain ⟨h_g3, h_g4, h_g6, h_g9, h_g12, h_g13, h_g14, h_g15, h_g16, h_g17, h_g18, h_g19, h_g20, h_g23, h_g24, h_g25, h_g26⟩ : (AI 0 35 g3) ∧ (AI 0 35 g4) ∧ (AI 0 19 g6) ∧ (0 ≤ g9 ∧ g9 ≤ 60) ∧ (0 ≤ g12 ∧ g12 ≤ 20) ∧ (0 ≤ g13 ∧ g13 ≤ 8) ∧ (0 ≤ g14 ∧ g14 ≤ 7) ∧ (1 ≤ g15 ∧ g15 ≤ 30) ∧ (LnOk g16) ∧ (GdOk g17) ∧ (WkOk g18) ∧ (AI 0 99 g19) ∧ (AI 0 9 g20) ∧ (0 ≤ g23 ∧ g23 ≤ 20) ∧ (LnOk g24) ∧ (WkOk g25) ∧ (AI 0 99 g26) := hr1
  dsimp only [u10, u4, u6, u8]
  exact Sf.ok (show (0 ≤ g12 ∧ g12 ≤ 20) ∧ (0 ≤ g13 ∧ g13 ≤ 8) ∧ (0 ≤ g14 ∧ g14 ≤ 7) ∧ (1 ≤ g15 ∧ g15 ≤ 30) ∧ (LnOk g16) ∧ (GdOk g17) ∧ (WkOk g18) ∧ (AI 0 99 g19) ∧ (AI 0 9 g20) ∧ (0 ≤ g23 ∧ g23 ≤ 20) ∧ (LnOk g24) ∧ (WkOk g25) ∧ (AI 0 99 g26) ∧ (AI 0 35 g3) ∧ (AI 0 35 g4) ∧ (AI 0 19 g6) ∧ (0 ≤ g9 ∧ g9 ≤ 60) from ⟨h_g12, h_g13, h_g14, h_g15, h_g16, h_g17, h_g18, h_g19, h_g20, h_g23, h_g24, h_g25, h_g26, h_g3, h_g4, h_g6, h_g9⟩)
set_option maxHeartbeats 1000000 in
theorem sX6_year {n : Nat} {x0_refused : (Nat → Int32)} {x0_isKept x0_gone x0_spent : Int32} {x1_gained : (Nat → Int32)} {x2_lineCount x2_goodsCount x2_workCount x2_years : Int32} {x2_lines x2_goods x2_works x2_change x2_coin x2_knownFree : (Nat → Int32)} {x2_isKnown x3_lineCount x3_goodsCount x3_workCount x3_years : Int32} {x3_lines x3_goods x3_works x3_change x3_coin x3_knownFree : (Nat → Int32)} {x3_isKnown : Int32} {x4_left x4_earned : (Nat → Int32)} {x4_turnCost x4_turnWayless : Int32} {x5_edgeA x5_edgeB x5_edgeCost x5_edgeLine x5_change x5_away x5_steps x5_nodes : (Nat → Int32)} {x5_stepCount : Int32} {x5_open : (Nat → Int32)} {x5_openCount : Int32} {x5_seen : Int64} {x5_edgeCount x5_aim p1 : Int32} (hn : 1000000000000 ≤ n) (h_x2_lineCount : (0 ≤ x2_lineCount ∧ x2_lineCount ≤ 20)) (h_x2_goodsCount : (0 ≤ x2_goodsCount ∧ x2_goodsCount ≤ 8)) (h_x2_workCount : (0 ≤ x2_workCount ∧ x2_workCount ≤ 7)) (h_x2_years : (1 ≤ x2_years ∧ x2_years ≤ 30)) (h_x2_lines : (LnOk x2_lines)) (h_x2_goods : (GdOk x2_goods)) (h_x2_works : (WkOk x2_works)) (h_x2_change : (AI 0 99 x2_change)) (h_x2_coin : (AI 0 9 x2_coin)) (h_x3_lineCount : (0 ≤ x3_lineCount ∧ x3_lineCount ≤ 20)) (h_x3_goodsCount : (0 ≤ x3_goodsCount ∧ x3_goodsCount ≤ 8)) (h_x3_workCount : (0 ≤ x3_workCount ∧ x3_workCount ≤ 7)) (h_x3_years : (1 ≤ x3_years ∧ x3_years ≤ 30)) (h_x3_lines : (LnOk x3_lines)) (h_x3_goods : (GdOk x3_goods)) (h_x3_works : (WkOk x3_works)) (h_x3_change : (AI 0 99 x3_change)) (h_x3_coin : (AI 0 9 x3_coin)) (h_x5_edgeA : (AI 0 35 x5_edgeA)) (h_x5_edgeB : (AI 0 35 x5_edgeB)) (h_x5_edgeLine : (AI 0 19 x5_edgeLine)) (h_x5_steps : (AI 0 22 x5_steps)) (h_x5_nodes : (AI 0 35 x5_nodes)) (h_x5_stepCount : (0 ≤ x5_stepCount ∧ x5_stepCount ≤ 36)) (h_x5_open : (AI 0 35 x5_open)) (h_x5_openCount : (0 ≤ x5_openCount ∧ x5_openCount ≤ 36)) (h_x5_edgeCount : (0 ≤ x5_edgeCount ∧ x5_edgeCount ≤ 60)) : Sf (fX6_year n (x0_refused, x0_isKept, x0_gone, x0_spent) x1_gained (x2_lineCount, x2_goodsCount, x2_workCount, x2_years, x2_lines, x2_goods, x2_works, x2_change, x2_coin, x2_knownFree, x2_isKnown) (x3_lineCount, x3_goodsCount, x3_workCount, x3_years, x3_lines, x3_goods, x3_works, x3_change, x3_coin, x3_knownFree, x3_isKnown) (x4_left, x4_earned, x4_turnCost, x4_turnWayless) (x5_edgeA, x5_edgeB, x5_edgeCost, x5_edgeLine, x5_change, x5_away, x5_steps, x5_nodes, x5_stepCount, x5_open, x5_openCount, x5_seen, x5_edgeCount, x5_aim) p1) (fun r => (0 ≤ r.2.2.2.2.1.1 ∧ r.2.2.2.2.1.1 ≤ 20) ∧ (0 ≤ r.2.2.2.2.1.2.1 ∧ r.2.2.2.2.1.2.1 ≤ 8) ∧ (0 ≤ r.2.2.2.2.1.2.2.1 ∧ r.2.2.2.2.1.2.2.1 ≤ 7) ∧ (1 ≤ r.2.2.2.2.1.2.2.2.1 ∧ r.2.2.2.2.1.2.2.2.1 ≤ 30) ∧ (LnOk r.2.2.2.2.1.2.2.2.2.1) ∧ (GdOk r.2.2.2.2.1.2.2.2.2.2.1) ∧ (WkOk r.2.2.2.2.1.2.2.2.2.2.2.1) ∧ (AI 0 99 r.2.2.2.2.1.2.2.2.2.2.2.2.1) ∧ (AI 0 9 r.2.2.2.2.1.2.2.2.2.2.2.2.2.1) ∧ (0 ≤ r.2.2.2.2.2.1.1 ∧ r.2.2.2.2.2.1.1 ≤ 20) ∧ (LnOk r.2.2.2.2.2.1.2.1) ∧ (WkOk r.2.2.2.2.2.1.2.2.1) ∧ (AI 0 99 r.2.2.2.2.2.1.2.2.2.1) ∧ (AI 0 35 r.2.2.2.2.2.2.1) ∧ (AI 0 35 r.2.2.2.2.2.2.2.1) ∧ (AI 0 19 r.2.2.2.2.2.2.2.2.2.1) ∧ (0 ≤ r.2.2.2.2.2.2.2.2.2.2.2.2.1 ∧ r.2.2.2.2.2.2.2.2.2.2.2.2.1 ≤ 60)) := by
  unfold fX6_year
  dsimp only [u11, u14, u4]
  refine Sf.ite (fun hc1 => ?_) (fun hc1 => ?_)
  · unfold fX6_year_j14
    refine Sf.ite (fun hc2 => ?_) (fun hc2 => absurd (by decide) hc2)
    refine Sf.bind (sX6_passYear hn h_x2_lineCount h_x2_goodsCount h_x2_workCount h_x2_years h_x2_lines h_x2_goods h_x2_works h_x2_change h_x2_coin h_x3_lineCount h_x3_goodsCount h_x3_workCount h_x3_years h_x3_lines h_x3_goods h_x3_works h_x3_change h_x3_coin h_x5_edgeA h_x5_edgeB h_x5_edgeLine h_x5_steps h_x5_nodes h_x5_stepCount h_x5_open h_x5_openCount h_x5_edgeCount) ?_
    rintro ⟨v2, g3, g4, ⟨g6, g7, g8, g9, g10, g11, g12, g13, g14, g15⟩, ⟨g17, g18, g19, g20, g21, g22⟩, ⟨g24, g25, g26, g27, g28, g29, g30, g31⟩⟩ hr3
    obtain ⟨h_g6, h_g7, h_g8, h_g9, h_g10, h_g11, h_g12, h_g13, h_g14, h_g17, h_g18, h_g19, h_g20, h_g24, h_g25, h_g27, h_g30⟩ : (0 ≤ g6 ∧ g6 ≤ 20) ∧ (0 ≤ g7 ∧ g7 ≤ 8) ∧ (0 ≤ g8 ∧ g8 ≤ 7) ∧ (1 ≤ g9 ∧ g9 ≤ 30) ∧ (LnOk g10) ∧ (GdOk g11) ∧ (WkOk g12) ∧ (AI 0 99 g13) ∧ (AI 0 9 g14) ∧ (0 ≤ g17 ∧ g17 ≤ 20) ∧ (LnOk g18) ∧ (WkOk g19) ∧ (AI 0 99 g20) ∧ (AI 0 35 g24) ∧ (AI 0 35 g25) ∧ (AI 0 19 g27) ∧ (0 ≤ g30 ∧ g30 ≤ 60) := hr3
    dsimp only [u10, u6, u8]
    exact Sf.ok (show (0 ≤ g6 ∧ g6 ≤ 20) ∧ (0 ≤ g7 ∧ g7 ≤ 8) ∧ (0 ≤ g8 ∧ g8 ≤ 7) ∧ (1 ≤ g9 ∧ g9 ≤ 30) ∧ (LnOk g10) ∧ (GdOk g11) ∧ (WkOk g12) ∧ (AI 0 99 g13) ∧ (AI 0 9 g14) ∧ (0 ≤ g17 ∧ g17 ≤ 20) ∧ (LnOk g18) ∧ (WkOk g19) ∧ (AI 0 99 g20) ∧ (AI 0 35 g24) ∧ (AI 0 35 g25) ∧ (AI 0 19 g27) ∧ (0 ≤ g30 ∧ g30 ≤ 60) from ⟨h_g6, h_g7, h_g8, h_g9, h_g10, h_g11, h_g12, h_g13, h_g14, h_g17, h_g18, h_g19, h_g20, h_g24, h_g25, h_g27, h_g30⟩)
  · refine Sf.bind (sX6_noChoice h_x3_lineCount h_x3_goodsCount h_x3_workCount h_x3_years h_x3_lines h_x3_goods h_x3_works h_x3_change h_x3_coin) ?_
    intro v36 hr4
    have hx_v36 : (v36 ≠ 0 ∨ (0 ≤ p1 ∧ p1 < x3_workCount)) := hr4
    unfold fX6_year_j14
    refine Sf.ite (fun hc5 => ?_) (fun hc5 => ?_)
    · refine Sf.bind (sX6_passYear hn h_x2_lineCount h_x2_goodsCount h_x2_workCount h_x2_years h_x2_lines h_x2_goods h_x2_works h_x2_change h_x2_coin h_x3_lineCount h_x3_goodsCount h_x3_workCount h_x3_years h_x3_lines h_x3_goods h_x3_works h_x3_change h_x3_coin h_x5_edgeA h_x5_edgeB h_x5_edgeLine h_x5_steps h_x5_nodes h_x5_stepCount h_x5_open h_x5_openCount h_x5_edgeCount) ?_
      rintro ⟨v2, g3, g4, ⟨g6, g7, g8, g9, g10, g11, g12, g13, g14, g15⟩, ⟨g17, g18, g19, g20, g21, g22⟩, ⟨g24, g25, g26, g27, g28, g29, g30, g31⟩⟩ hr6
      obtain ⟨h_g6, h_g7, h_g8, h_g9, h_g10, h_g11, h_g12, h_g13, h_g14, h_g17, h_g18, h_g19, h_g20, h_g24, h_g25, h_g27, h_g30⟩ : (0 ≤ g6 ∧ g6 ≤ 20) ∧ (0 ≤ g7 ∧ g7 ≤ 8) ∧ (0 ≤ g8 ∧ g8 ≤ 7) ∧ (1 ≤ g9 ∧ g9 ≤ 30) ∧ (LnOk g10) ∧ (GdOk g11) ∧ (WkOk g12) ∧ (AI 0 99 g13) ∧ (AI 0 9 g14) ∧ (0 ≤ g17 ∧ g17 ≤ 20) ∧ (LnOk g18) ∧ (WkOk g19) ∧ (AI 0 99 g20) ∧ (AI 0 35 g24) ∧ (AI 0 35 g25) ∧ (AI 0 19 g27) ∧ (0 ≤ g30 ∧ g30 ≤ 60) := hr6
      dsimp only [u10, u6, u8]
      exact Sf.ok (show (0 ≤ g6 ∧ g6 ≤ 20) ∧ (0 ≤ g7 ∧ g7 ≤ 8) ∧ (0 ≤ g8 ∧ g8 ≤ 7) ∧ (1 ≤ g9 ∧ g9 ≤ 30) ∧ (LnOk g10) ∧ (GdOk g11) ∧ (WkOk g12) ∧ (AI 0 99 g13) ∧ (AI 0 9 g14) ∧ (0 ≤ g17 ∧ g17 ≤ 20) ∧ (LnOk g18) ∧ (WkOk g19) ∧ (AI 0 99 g20) ∧ (AI 0 35 g24) ∧ (AI 0 35 g25) ∧ (AI 0 19 g27) ∧ (0 ≤ g30 ∧ g30 ≤ 60) from ⟨h_g6, h_g7, h_g8, h_g9, h_g10, h_g11, h_g12, h_g13, h_g14, h_g17, h_g18, h_g19, h_g20, h_g24, h_g25, h_g27, h_g30⟩)
    · refine Sf.bind (sX6_refuse ) ?_
      rintro ⟨v33, g34⟩ hr7
      dsimp only [u2]
      exact Sf.ok (show (0 ≤ x2_lineCount ∧ x2_lineCount ≤ 20) ∧ (0 ≤ x2_goodsCount ∧ x2_goodsCount ≤ 8) ∧ (0 ≤ x2_workCount ∧ x2_workCount ≤ 7) ∧ (1 ≤ x2_years ∧ x2_years ≤ 30) ∧ (LnOk x2_lines) ∧ (GdOk x2_goods) ∧ (WkOk x2_works) ∧ (AI 0 99 x2_change) ∧ (AI 0 9 x2_coin) ∧ (0 ≤ x3_lineCount ∧ x3_lineCount ≤ 20) ∧ (LnOk x3_lines) ∧ (WkOk x3_works) ∧ (AI 0 99 x3_change) ∧ (AI 0 35 x5_edgeA) ∧ (AI 0 35 x5_edgeB) ∧ (AI 0 19 x5_edgeLine) ∧ (0 ≤ x5_edgeCount ∧ x5_edgeCount ≤ 60) from ⟨h_x2_lineCount, h_x2_goodsCount, h_x2_workCount, h_x2_years, h_x2_lines, h_x2_goods, h_x2_works, h_x2_change, h_x2_coin, h_x3_lineCount, h_x3_lines, h_x3_works, h_x3_change, h_x5_edgeA, h_x5_edgeB, h_x5_edgeLine, h_x5_edgeCount⟩)
theorem TX6_run_s21 {n : Nat} {p1 : Int32} {x0_refused : (Nat → Int32)} {x0_isKept : Int32} {x1_gained x2_knownFree : (Nat → Int32)} {x3_goodsCount x3_workCount x3_years : Int32} {x3_goods x3_coin x4_left x4_earned : (Nat → Int32)} {x4_turnCost x4_turnWayless : Int32} {x5_steps x5_nodes : (Nat → Int32)} {x5_stepCount : Int32} {x5_open : (Nat → Int32)} {x5_openCount : Int32} {x5_seen : Int64} {z4 z5 z6 z7 z8 z9 z10 z11 : Int32} {z12 z13 z14 z15 z16 : (Nat → Int32)} {z17 z18 : Int32} {z19 z20 z21 z22 : (Nat → Int32)} {z23 : Int32} {z24 z25 z26 z27 z28 z29 : (Nat → Int32)} {z30 z31 : Int32} (hn : 1000000000000 ≤ n) (h_x3_goodsCount : (0 ≤ x3_goodsCount ∧ x3_goodsCount ≤ 8)) (h_x3_workCount : (0 ≤ x3_workCount ∧ x3_workCount ≤ 7)) (h_x3_years : (1 ≤ x3_years ∧ x3_years ≤ 30)) (h_x3_goods : (GdOk x3_goods)) (h_x3_coin : (AI 0 9 x3_coin)) (h_x5_steps : (AI 0 22 x5_steps)) (h_x5_nodes : (AI 0 35 x5_nodes)) (h_x5_stepCount : (0 ≤ x5_stepCount ∧ x5_stepCount ≤ 36)) (h_x5_open : (AI 0 35 x5_open)) (h_x5_openCount : (0 ≤ x5_openCount ∧ x5_openCount ≤ 36)) (h_z5 : (0 ≤ z5)) (h_z8 : (0 ≤ z8 ∧ z8 ≤ 20)) (h_z9 : (0 ≤ z9 ∧ z9 ≤ 8)) (h_z10 : (0 ≤ z10 ∧ z10 ≤ 7)) (h_z11 : (1 ≤ z11 ∧ z11 ≤ 30)) (h_z12 : (LnOk z12)) (h_z13 : (GdOk z13)) (h_z14 : (WkOk z14)) (h_z15 : (AI 0 99 z15)) (h_z16 : (AI 0 9 z16)) (h_z18 : (0 ≤ z18 ∧ z18 ≤ 20)) (h_z19 : (LnOk z19)) (h_z20 : (WkOk z20)) (h_z21 : (AI 0 99 z21)) (h_z24 : (AI 0 35 z24)) (h_z25 : (AI 0 35 z25)) (h_z27 : (AI 0 19 z27)) (h_z30 : (0 ≤ z30 ∧ z30 ≤ 60)) : Sf (fX6_run_s21 n p1 x0_refused x0_isKept x1_gained x2_knownFree x3_goodsCount x3_workCount x3_years x3_goods x3_coin x4_left x4_earned x4_turnCost x4_turnWayless x5_steps x5_nodes x5_stepCount x5_open x5_openCount x5_seen z4 z5 z6 z7 z8 z9 z10 z11 z12 z13 z14 z15 z16 z17 z18 z19 z20 z21 z22 z23 z24 z25 z26 z27 z28 z29 z30 z31) (LQ (u28 (fun z4 z5 z6 z7 z8 z9 z10 z11 z12 z13 z14 z15 z16 z17 z18 z19 z20 z21 z22 z23 z24 z25 z26 z27 z28 z29 z30 z31 => (0 ≤ z5) ∧ (0 ≤ z8 ∧ z8 ≤ 20) ∧ (0 ≤ z9 ∧ z9 ≤ 8) ∧ (0 ≤ z10 ∧ z10 ≤ 7) ∧ (1 ≤ z11 ∧ z11 ≤ 30) ∧ (LnOk z12) ∧ (GdOk z13) ∧ (WkOk z14) ∧ (AI 0 99 z15) ∧ (AI 0 9 z16) ∧ (0 ≤ z18 ∧ z18 ≤ 20) ∧ (LnOk z19) ∧ (WkOk z20) ∧ (AI 0 99 z21) ∧ (AI 0 35 z24) ∧ (AI 0 35 z25) ∧ (AI 0 19 z27) ∧ (0 ≤ z30 ∧ z30 ≤ 60))) (u28 (fun z4 z5 z6 z7 z8 z9 z10 z11 z12 z13 z14 z15 z16 z17 z18 z19 z20 z21 z22 z23 z24 z25 z26 z27 z28 z29 z30 z31 => muUp z5)) (muUp z5) (fun e => (0 ≤ e.2.2.2.1 ∧ e.2.2.2.1 ≤ 20) ∧ (0 ≤ e.2.2.2.2.1 ∧ e.2.2.2.2.1 ≤ 8) ∧ (0 ≤ e.2.2.2.2.2.1 ∧ e.2.2.2.2.2.1 ≤ 7) ∧ (1 ≤ e.2.2.2.2.2.2.1 ∧ e.2.2.2.2.2.2.1 ≤ 30) ∧ (LnOk e.2.2.2.2.2.2.2.1) ∧ (GdOk e.2.2.2.2.2.2.2.2.1) ∧ (WkOk e.2.2.2.2.2.2.2.2.2.1) ∧ (AI 0 99 e.2.2.2.2.2.2.2.2.2.2.1) ∧ (AI 0 9 e.2.2.2.2.2.2.2.2.2.2.2.1) ∧ (0 ≤ e.2.2.2.2.2.2.2.2.2.2.2.2.2.1 ∧ e.2.2.2.2.2.2.2.2.2.2.2.2.2.1 ≤ 20) ∧ (LnOk e.2.2.2.2.2.2.2.2.2.2.2.2.2.2.1) ∧ (WkOk e.2.2.2.2.2.2.2.2.2.2.2.2.2.2.2.1) ∧ (AI 0 99 e.2.2.2.2.2.2.2.2.2.2.2.2.2.2.2.2.1) ∧ (AI 0 35 e.2.2.2.2.2.2.2.2.2.2.2.2.2.2.2.2.2.2.2.1) ∧ (AI 0 35 e.2.2.2.2.2.2.2.2.2.2.2.2.2.2.2.2.2.2.2.2.1) ∧ (AI 0 19 e.2.2.2.2.2.2.2.2.2.2.2.2.2.2.2.2.2.2.2.2.2.2.1) ∧ (0 ≤ e.2.2.2.2.2.2.2.2.2.2.2.2.2.2.2.2.2.2.2.2.2.2.2.2.2.1 ∧ e.2.2.2.2.2.2.2.2.2.2.2.2.2.2.2.2.2.2.2.2.2.2.2.2.2.1 ≤ 60))) := by
  unfold fX6_run_s21
  refine Sf.ite (fun hc1 => ?_) (fun hc1 => ?_)
  · exact Sf.inr (show (0 ≤ z8 ∧ z8 ≤ 20) ∧ (0 ≤ z9 ∧ z9 ≤ 8) ∧ (0 ≤ z10 ∧ z10 ≤ 7) ∧ (1 ≤ z11 ∧ z11 ≤ 30) ∧ (LnOk z12) ∧ (GdOk z13) ∧ (WkOk z14) ∧ (AI 0 99 z15) ∧ (AI 0 9 z16) ∧ (0 ≤ z18 ∧ z18 ≤ 20) ∧ (LnOk z19) ∧ (WkOk z20) ∧ (AI 0 99 z21) ∧ (AI 0 35 z24) ∧ (AI 0 35 z25) ∧ (AI 0 19 z27) ∧ (0 ≤ z30 ∧ z30 ≤ 60) from ⟨h_z8, h_z9, h_z10, h_z11, h_z12, h_z13, h_z14, h_z15, h_z16, h_z18, h_z19, h_z20, h_z21, h_z24, h_z25, h_z27, h_z30⟩)
  · refine Sf.bind (sX0_firstOf hn h_z24 h_z25 h_z27 h_x5_steps h_x5_nodes h_x5_stepCount h_x5_open h_x5_openCount h_z30 h_z8 h_z9 h_z10 h_z11 h_z12 h_z13 h_z14 h_z15 h_z16 h_z18 h_x3_goodsCount h_x3_workCount h_x3_years h_z19 h_x3_goods h_z20 h_z21 h_x3_coin) ?_
    rintro ⟨v60, ⟨g62, g63, g64, g65, g66, g67, g68, g69⟩, ⟨g71, g72, g73, g74, g75, g76, g77, g78, g79, g80⟩, ⟨g82, g83, g84, g85, g86⟩⟩ hr2
    obtain ⟨h_v60, h_g62, h_g63, h_g65, h_g68, h_g71, h_g72, h_g73, h_g74, h_g75, h_g76, h_g77, h_g78, h_g79, h_g82, h_g83, h_g84⟩ : ((-1) ≤ v60 ∧ v60 ≤ 6) ∧ (AI 0 35 g62) ∧ (AI 0 35 g63) ∧ (AI 0 19 g65) ∧ (0 ≤ g68 ∧ g68 ≤ 60) ∧ (0 ≤ g71 ∧ g71 ≤ 20) ∧ (0 ≤ g72 ∧ g72 ≤ 8) ∧ (0 ≤ g73 ∧ g73 ≤ 7) ∧ (1 ≤ g74 ∧ g74 ≤ 30) ∧ (LnOk g75) ∧ (GdOk g76) ∧ (WkOk g77) ∧ (AI 0 99 g78) ∧ (AI 0 9 g79) ∧ (0 ≤ g82 ∧ g82 ≤ 20) ∧ (LnOk g83) ∧ (AI 0 99 g84) := hr2
    dsimp only [u10, u4, u5, u8]
    refine Sf.bind (sX6_passYear hn h_g71 h_g72 h_g73 h_g74 h_g75 h_g76 h_g77 h_g78 h_g79 h_g82 h_x3_goodsCount h_x3_workCount h_x3_years h_g83 h_x3_goods h_z20 h_g84 h_x3_coin h_g62 h_g63 h_g65 h_x5_steps h_x5_nodes h_x5_stepCount h_x5_open h_x5_openCount h_g68) ?_
    rintro ⟨v88, g89, g90, ⟨g92, g93, g94, g95, g96, g97, g98, g99, g100, g101⟩, ⟨g103, g104, g105, g106, g107, g108⟩, ⟨g110, g111, g112, g113, g114, g115, g116, g117⟩⟩ hr3
    obtain ⟨h_g92, h_g93, h_g94, h_g95, h_g96, h_g97, h_g98, h_g99, h_g100, h_g103, h_g104, h_g105, h_g106, h_g110, h_g111, h_g113, h_g116⟩ : (0 ≤ g92 ∧ g92 ≤ 20) ∧ (0 ≤ g93 ∧ g93 ≤ 8) ∧ (0 ≤ g94 ∧ g94 ≤ 7) ∧ (1 ≤ g95 ∧ g95 ≤ 30) ∧ (LnOk g96) ∧ (GdOk g97) ∧ (WkOk g98) ∧ (AI 0 99 g99) ∧ (AI 0 9 g100) ∧ (0 ≤ g103 ∧ g103 ≤ 20) ∧ (LnOk g104) ∧ (WkOk g105) ∧ (AI 0 99 g106) ∧ (AI 0 35 g110) ∧ (AI 0 35 g111) ∧ (AI 0 19 g113) ∧ (0 ≤ g116 ∧ g116 ≤ 60) := hr3
    dsimp only [u10, u6, u8]
    exact Sf.inl (show (0 ≤ (z5 + 1)) ∧ (0 ≤ g92 ∧ g92 ≤ 20) ∧ (0 ≤ g93 ∧ g93 ≤ 8) ∧ (0 ≤ g94 ∧ g94 ≤ 7) ∧ (1 ≤ g95 ∧ g95 ≤ 30) ∧ (LnOk g96) ∧ (GdOk g97) ∧ (WkOk g98) ∧ (AI 0 99 g99) ∧ (AI 0 9 g100) ∧ (0 ≤ g103 ∧ g103 ≤ 20) ∧ (LnOk g104) ∧ (WkOk g105) ∧ (AI 0 99 g106) ∧ (AI 0 35 g110) ∧ (AI 0 35 g111) ∧ (AI 0 19 g113) ∧ (0 ≤ g116 ∧ g116 ≤ 60) from ⟨(by grind), h_g92, h_g93, h_g94, h_g95, h_g96, h_g97, h_g98, h_g99, h_g100, h_g103, h_g104, h_g105, h_g106, h_g110, h_g111, h_g113, h_g116⟩) (muUp_lt hc1)
theorem LX6_run_s21 {n : Nat} {p1 : Int32} {x0_refused : (Nat → Int32)} {x0_isKept : Int32} {x1_gained x2_knownFree : (Nat → Int32)} {x3_goodsCount x3_workCount x3_years : Int32} {x3_goods x3_coin x4_left x4_earned : (Nat → Int32)} {x4_turnCost x4_turnWayless : Int32} {x5_steps x5_nodes : (Nat → Int32)} {x5_stepCount : Int32} {x5_open : (Nat → Int32)} {x5_openCount : Int32} {x5_seen : Int64} {z4 z5 z6 z7 z8 z9 z10 z11 : Int32} {z12 z13 z14 z15 z16 : (Nat → Int32)} {z17 z18 : Int32} {z19 z20 z21 z22 : (Nat → Int32)} {z23 : Int32} {z24 z25 z26 z27 z28 z29 : (Nat → Int32)} {z30 z31 : Int32} (hn : 1000000000000 ≤ n) (h_x3_goodsCount : (0 ≤ x3_goodsCount ∧ x3_goodsCount ≤ 8)) (h_x3_workCount : (0 ≤ x3_workCount ∧ x3_workCount ≤ 7)) (h_x3_years : (1 ≤ x3_years ∧ x3_years ≤ 30)) (h_x3_goods : (GdOk x3_goods)) (h_x3_coin : (AI 0 9 x3_coin)) (h_x5_steps : (AI 0 22 x5_steps)) (h_x5_nodes : (AI 0 35 x5_nodes)) (h_x5_stepCount : (0 ≤ x5_stepCount ∧ x5_stepCount ≤ 36)) (h_x5_open : (AI 0 35 x5_open)) (h_x5_openCount : (0 ≤ x5_openCount ∧ x5_openCount ≤ 36)) (h_z5 : (0 ≤ z5)) (h_z8 : (0 ≤ z8 ∧ z8 ≤ 20)) (h_z9 : (0 ≤ z9 ∧ z9 ≤ 8)) (h_z10 : (0 ≤ z10 ∧ z10 ≤ 7)) (h_z11 : (1 ≤ z11 ∧ z11 ≤ 30)) (h_z12 : (LnOk z12)) (h_z13 : (GdOk z13)) (h_z14 : (WkOk z14)) (h_z15 : (AI 0 99 z15)) (h_z16 : (AI 0 9 z16)) (h_z18 : (0 ≤ z18 ∧ z18 ≤ 20)) (h_z19 : (LnOk z19)) (h_z20 : (WkOk z20)) (h_z21 : (AI 0 99 z21)) (h_z24 : (AI 0 35 z24)) (h_z25 : (AI 0 35 z25)) (h_z27 : (AI 0 19 z27)) (h_z30 : (0 ≤ z30 ∧ z30 ≤ 60)) : Sf (lp (u28 (fX6_run_s21 n p1 x0_refused x0_isKept x1_gained x2_knownFree x3_goodsCount x3_workCount x3_years x3_goods x3_coin x4_left x4_earned x4_turnCost x4_turnWayless x5_steps x5_nodes x5_stepCount x5_open x5_openCount x5_seen)) n (z4, z5, z6, z7, z8, z9, z10, z11, z12, z13, z14, z15, z16, z17, z18, z19, z20, z21, z22, z23, z24, z25, z26, z27, z28, z29, z30, z31)) (fun e => (0 ≤ e.2.2.2.1 ∧ e.2.2.2.1 ≤ 20) ∧ (0 ≤ e.2.2.2.2.1 ∧ e.2.2.2.2.1 ≤ 8) ∧ (0 ≤ e.2.2.2.2.2.1 ∧ e.2.2.2.2.2.1 ≤ 7) ∧ (1 ≤ e.2.2.2.2.2.2.1 ∧ e.2.2.2.2.2.2.1 ≤ 30) ∧ (LnOk e.2.2.2.2.2.2.2.1) ∧ (GdOk e.2.2.2.2.2.2.2.2.1) ∧ (WkOk e.2.2.2.2.2.2.2.2.2.1) ∧ (AI 0 99 e.2.2.2.2.2.2.2.2.2.2.1) ∧ (AI 0 9 e.2.2.2.2.2.2.2.2.2.2.2.1) ∧ (0 ≤ e.2.2.2.2.2.2.2.2.2.2.2.2.2.1 ∧ e.2.2.2.2.2.2.2.2.2.2.2.2.2.1 ≤ 20) ∧ (LnOk e.2.2.2.2.2.2.2.2.2.2.2.2.2.2.1) ∧ (WkOk e.2.2.2.2.2.2.2.2.2.2.2.2.2.2.2.1) ∧ (AI 0 99 e.2.2.2.2.2.2.2.2.2.2.2.2.2.2.2.2.1) ∧ (AI 0 35 e.2.2.2.2.2.2.2.2.2.2.2.2.2.2.2.2.2.2.2.1) ∧ (AI 0 35 e.2.2.2.2.2.2.2.2.2.2.2.2.2.2.2.2.2.2.2.2.1) ∧ (AI 0 19 e.2.2.2.2.2.2.2.2.2.2.2.2.2.2.2.2.2.2.2.2.2.2.1) ∧ (0 ≤ e.2.2.2.2.2.2.2.2.2.2.2.2.2.2.2.2.2.2.2.2.2.2.2.2.2.1 ∧ e.2.2.2.2.2.2.2.2.2.2.2.2.2.2.2.2.2.2.2.2.2.2.2.2.2.1 ≤ 60)) :=
  Sf.loop28 (fun z4 z5 z6 z7 z8 z9 z10 z11 z12 z13 z14 z15 z16 z17 z18 z19 z20 z21 z22 z23 z24 z25 z26 z27 z28 z29 z30 z31 => (0 ≤ z5) ∧ (0 ≤ z8 ∧ z8 ≤ 20) ∧ (0 ≤ z9 ∧ z9 ≤ 8) ∧ (0 ≤ z10 ∧ z10 ≤ 7) ∧ (1 ≤ z11 ∧ z11 ≤ 30) ∧ (LnOk z12) ∧ (GdOk z13) ∧ (WkOk z14) ∧ (AI 0 99 z15) ∧ (AI 0 9 z16) ∧ (0 ≤ z18 ∧ z18 ≤ 20) ∧ (LnOk z19) ∧ (WkOk z20) ∧ (AI 0 99 z21) ∧ (AI 0 35 z24) ∧ (AI 0 35 z25) ∧ (AI 0 19 z27) ∧ (0 ≤ z30 ∧ z30 ≤ 60)) (fun z4 z5 z6 z7 z8 z9 z10 z11 z12 z13 z14 z15 z16 z17 z18 z19 z20 z21 z22 z23 z24 z25 z26 z27 z28 z29 z30 z31 => muUp z5) (fun z4 z5 z6 z7 z8 z9 z10 z11 z12 z13 z14 z15 z16 z17 z18 z19 z20 z21 z22 z23 z24 z25 z26 z27 z28 z29 z30 z31 h => TX6_run_s21 hn h_x3_goodsCount h_x3_workCount h_x3_years h_x3_goods h_x3_coin h_x5_steps h_x5_nodes h_x5_stepCount h_x5_open h_x5_openCount h.1 h.2.1 h.2.2.1 h.2.2.2.1 h.2.2.2.2.1 h.2.2.2.2.2.1 h.2.2.2.2.2.2.1 h.2.2.2.2.2.2.2.1 h.2.2.2.2.2.2.2.2.1 h.2.2.2.2.2.2.2.2.2.1 h.2.2.2.2.2.2.2.2.2.2.1 h.2.2.2.2.2.2.2.2.2.2.2.1 h.2.2.2.2.2.2.2.2.2.2.2.2.1 h.2.2.2.2.2.2.2.2.2.2.2.2.2.1 h.2.2.2.2.2.2.2.2.2.2.2.2.2.2.1 h.2.2.2.2.2.2.2.2.2.2.2.2.2.2.2.1 h.2.2.2.2.2.2.2.2.2.2.2.2.2.2.2.2.1 h.2.2.2.2.2.2.2.2.2.2.2.2.2.2.2.2.2) (show (0 ≤ z5) ∧ (0 ≤ z8 ∧ z8 ≤ 20) ∧ (0 ≤ z9 ∧ z9 ≤ 8) ∧ (0 ≤ z10 ∧ z10 ≤ 7) ∧ (1 ≤ z11 ∧ z11 ≤ 30) ∧ (LnOk z12) ∧ (GdOk z13) ∧ (WkOk z14) ∧ (AI 0 99 z15) ∧ (AI 0 9 z16) ∧ (0 ≤ z18 ∧ z18 ≤ 20) ∧ (LnOk z19) ∧ (WkOk z20) ∧ (AI 0 99 z21) ∧ (AI 0 35 z24) ∧ (AI 0 35 z25) ∧ (AI 0 19 z27) ∧ (0 ≤ z30 ∧ z30 ≤ 60) from ⟨h_z5, h_z8, h_z9, h_z10, h_z11, h_z12, h_z13, h_z14, h_z15, h_z16, h_z18, h_z19, h_z20, h_z21, h_z24, h_z25, h_z27, h_z30⟩) (muUp_n hn)
set_option maxHeartbeats 1000000 in
theorem sX6_run {n : Nat} {x0_refused : (Nat → Int32)} {x0_isKept x0_gone x0_spent : Int32} {x1_gained : (Nat → Int32)} {x2_lineCount x2_goodsCount x2_workCount x2_years : Int32} {x2_lines x2_goods x2_works x2_change x2_coin x2_knownFree : (Nat → Int32)} {x2_isKnown x3_lineCount x3_goodsCount x3_workCount x3_years : Int32} {x3_lines x3_goods x3_works x3_change x3_coin x3_knownFree : (Nat → Int32)} {x3_isKnown : Int32} {x4_left x4_earned : (Nat → Int32)} {x4_turnCost x4_turnWayless : Int32} {x5_edgeA x5_edgeB x5_edgeCost x5_edgeLine x5_change x5_away x5_steps x5_nodes : (Nat → Int32)} {x5_stepCount : Int32} {x5_open : (Nat → Int32)} {x5_openCount : Int32} {x5_seen : Int64} {x5_edgeCount x5_aim p1 : Int32} (hn : 1000000000000 ≤ n) (h_x2_lineCount : (0 ≤ x2_lineCount ∧ x2_lineCount ≤ 20)) (h_x2_goodsCount : (0 ≤ x2_goodsCount ∧ x2_goodsCount ≤ 8)) (h_x2_workCount : (0 ≤ x2_workCount ∧ x2_workCount ≤ 7)) (h_x2_years : (1 ≤ x2_years ∧ x2_years ≤ 30)) (h_x2_lines : (LnOk x2_lines)) (h_x2_goods : (GdOk x2_goods)) (h_x2_works : (WkOk x2_works)) (h_x2_change : (AI 0 99 x2_change)) (h_x2_coin : (AI 0 9 x2_coin)) (h_x3_lineCount : (0 ≤ x3_lineCount ∧ x3_lineCount ≤ 20)) (h_x3_goodsCount : (0 ≤ x3_goodsCount ∧ x3_goodsCount ≤ 8)) (h_x3_workCount : (0 ≤ x3_workCount ∧ x3_workCount ≤ 7)) (h_x3_years : (1 ≤ x3_years ∧ x3_years ≤ 30)) (h_x3_lines : (LnOk x3_lines)) (h_x3_goods : (GdOk x3_goods)) (h_x3_works : (WkOk x3_works)) (h_x3_change : (AI 0 99 x3_change)) (h_x3_coin : (AI 0 9 x3_coin)) (h_x5_edgeA : (AI 0 35 x5_edgeA)) (h_x5_edgeB : (AI 0 35 x5_edgeB)) (h_x5_edgeLine : (AI 0 19 x5_edgeLine)) (h_x5_steps : (AI 0 22 x5_steps)) (h_x5_nodes : (AI 0 35 x5_nodes)) (h_x5_stepCount : (0 ≤ x5_stepCount ∧ x5_stepCount ≤ 36)) (h_x5_open : (AI 0 35 x5_open)) (h_x5_openCount : (0 ≤ x5_openCount ∧ x5_openCount ≤ 36)) (h_x5_edgeCount : (0 ≤ x5_edgeCount ∧ x5_edgeCount ≤ 60)) : Sf (fX6_run n (x0_refused, x0_isKept, x0_gone, x0_spent) x1_gained (x2_lineCount, x2_goodsCount, x2_workCount, x2_years, x2_lines, x2_goods, x2_works, x2_change, x2_coin, x2_knownFree, x2_isKnown) (x3_lineCount, x3_goodsCount, x3_workCount, x3_years, x3_lines, x3_goods, x3_works, x3_change, x3_coin, x3_knownFree, x3_isKnown) (x4_left, x4_earned, x4_turnCost, x4_turnWayless) (x5_edgeA, x5_edgeB, x5_edgeCost, x5_edgeLine, x5_change, x5_away, x5_steps, x5_nodes, x5_stepCount, x5_open, x5_openCount, x5_seen, x5_edgeCount, x5_aim) p1) (fun r => (0 ≤ r.2.2.2.2.1.1 ∧ r.2.2.2.2.1.1 ≤ 20) ∧ (0 ≤ r.2.2.2.2.1.2.1 ∧ r.2.2.2.2.1.2.1 ≤ 8) ∧ (0 ≤ r.2.2.2.2.1.2.2.1 ∧ r.2.2.2.2.1.2.2.1 ≤ 7) ∧ (1 ≤ r.2.2.2.2.1.2.2.2.1 ∧ r.2.2.2.2.1.2.2.2.1 ≤ 30) ∧ (LnOk r.2.2.2.2.1.2.2.2.2.1) ∧ (GdOk r.2.2.2.2.1.2.2.2.2.2.1) ∧ (WkOk r.2.2.2.2.1.2.2.2.2.2.2.1) ∧ (AI 0 99 r.2.2.2.2.1.2.2.2.2.2.2.2.1) ∧ (AI 0 9 r.2.2.2.2.1.2.2.2.2.2.2.2.2.1) ∧ (0 ≤ r.2.2.2.2.2.1.1 ∧ r.2.2.2.2.2.1.1 ≤ 20) ∧ (LnOk r.2.2.2.2.2.1.2.1) ∧ (WkOk r.2.2.2.2.2.1.2.2.1) ∧ (AI 0 99 r.2.2.2.2.2.1.2.2.2.1) ∧ (AI 0 35 r.2.2.2.2.2.2.1) ∧ (AI 0 35 r.2.2.2.2.2.2.2.1) ∧ (AI 0 19 r.2.2.2.2.2.2.2.2.2.1) ∧ (0 ≤ r.2.2.2.2.2.2.2.2.2.2.2.2.1 ∧ r.2.2.2.2.2.2.2.2.2.2.2.2.1 ≤ 60)) := by
  unfold fX6_run
  dsimp only [u11, u14, u4]
  refine Sf.bind (sX6_within ) ?_
  intro v1 hr1
  have hx_v1 : ((v1 = 1 ∧ 1 ≤ p1 ∧ p1 ≤ 20) ∨ (v1 = 0 ∧ (p1 < 1 ∨ 20 < p1))) := hr1
  refine Sf.ite (fun hc2 => ?_) (fun hc2 => ?_)
  · refine Sf.bind (sX6_refuse ) ?_
    rintro ⟨v119, g120⟩ hr3
    dsimp only [u2]
    exact Sf.ok (show (0 ≤ x2_lineCount ∧ x2_lineCount ≤ 20) ∧ (0 ≤ x2_goodsCount ∧ x2_goodsCount ≤ 8) ∧ (0 ≤ x2_workCount ∧ x2_workCount ≤ 7) ∧ (1 ≤ x2_years ∧ x2_years ≤ 30) ∧ (LnOk x2_lines) ∧ (GdOk x2_goods) ∧ (WkOk x2_works) ∧ (AI 0 99 x2_change) ∧ (AI 0 9 x2_coin) ∧ (0 ≤ x3_lineCount ∧ x3_lineCount ≤ 20) ∧ (LnOk x3_lines) ∧ (WkOk x3_works) ∧ (AI 0 99 x3_change) ∧ (AI 0 35 x5_edgeA) ∧ (AI 0 35 x5_edgeB) ∧ (AI 0 19 x5_edgeLine) ∧ (0 ≤ x5_edgeCount ∧ x5_edgeCount ≤ 60) from ⟨h_x2_lineCount, h_x2_goodsCount, h_x2_workCount, h_x2_years, h_x2_lines, h_x2_goods, h_x2_works, h_x2_change, h_x2_coin, h_x3_lineCount, h_x3_lines, h_x3_works, h_x3_change, h_x5_edgeA, h_x5_edgeB, h_x5_edgeLine, h_x5_edgeCount⟩)
  · refine Sf.bind (LX6_run_s21 hn h_x3_goodsCount h_x3_workCount h_x3_years h_x3_goods h_x3_coin h_x5_steps h_x5_nodes h_x5_stepCount h_x5_open h_x5_openCount (by decide) h_x2_lineCount h_x2_goodsCount h_x2_workCount h_x2_years h_x2_lines h_x2_goods h_x2_works h_x2_change h_x2_coin h_x3_lineCount h_x3_lines h_x3_works h_x3_change h_x5_edgeA h_x5_edgeB h_x5_edgeLine h_x5_edgeCount) ?_
    rintro ⟨w33, w34, w35, w36, w37, w38, w39, w40, w41, w42, w43, w44, w45, w46, w47, w48, w49, w50, w51, w52, w53, w54, w55, w56, w57, w58, w59⟩ hr4
    obtain ⟨h_w36, h_w37, h_w38, h_w39, h_w40, h_w41, h_w42, h_w43, h_w44, h_w46, h_w47, h_w48, h_w49, h_w52, h_w53, h_w55, h_w58⟩ : (0 ≤ w36 ∧ w36 ≤ 20) ∧ (0 ≤ w37 ∧ w37 ≤ 8) ∧ (0 ≤ w38 ∧ w38 ≤ 7) ∧ (1 ≤ w39 ∧ w39 ≤ 30) ∧ (LnOk w40) ∧ (GdOk w41) ∧ (WkOk w42) ∧ (AI 0 99 w43) ∧ (AI 0 9 w44) ∧ (0 ≤ w46 ∧ w46 ≤ 20) ∧ (LnOk w47) ∧ (WkOk w48) ∧ (AI 0 99 w49) ∧ (AI 0 35 w52) ∧ (AI 0 35 w53) ∧ (AI 0 19 w55) ∧ (0 ≤ w58 ∧ w58 ≤ 60) := hr4
    dsimp only [u27]
    exact Sf.ok (show (0 ≤ w36 ∧ w36 ≤ 20) ∧ (0 ≤ w37 ∧ w37 ≤ 8) ∧ (0 ≤ w38 ∧ w38 ≤ 7) ∧ (1 ≤ w39 ∧ w39 ≤ 30) ∧ (LnOk w40) ∧ (GdOk w41) ∧ (WkOk w42) ∧ (AI 0 99 w43) ∧ (AI 0 9 w44) ∧ (0 ≤ w46 ∧ w46 ≤ 20) ∧ (LnOk w47) ∧ (WkOk w48) ∧ (AI 0 99 w49) ∧ (AI 0 35 w52) ∧ (AI 0 35 w53) ∧ (AI 0 19 w55) ∧ (0 ≤ w58 ∧ w58 ≤ 60) from ⟨h_w36, h_w37, h_w38, h_w39, h_w40, h_w41, h_w42, h_w43, h_w44, h_w46, h_w47, h_w48, h_w49, h_w52, h_w53, h_w55, h_w58⟩)
set_option maxHeartbeats 1000000 in
theorem sX6_image {x0_refused : (Nat → Int32)} {x0_isKept x0_gone x0_spent x1_lineCount x1_goodsCount x1_workCount x1_years : Int32} {x1_lines x1_goods x1_works x1_change x1_coin x1_knownFree : (Nat → Int32)} {x1_isKnown x2_lineCount x2_goodsCount x2_workCount x2_years : Int32} {x2_lines x2_goods x2_works x2_change x2_coin x2_knownFree : (Nat → Int32)} {x2_isKnown : Int32}  (h_x1_lineCount : (0 ≤ x1_lineCount ∧ x1_lineCount ≤ 20)) (h_x1_goodsCount : (0 ≤ x1_goodsCount ∧ x1_goodsCount ≤ 8)) (h_x1_workCount : (0 ≤ x1_workCount ∧ x1_workCount ≤ 7)) (h_x1_years : (1 ≤ x1_years ∧ x1_years ≤ 30)) (h_x1_lines : (LnOk x1_lines)) (h_x1_goods : (GdOk x1_goods)) (h_x1_works : (WkOk x1_works)) (h_x1_change : (AI 0 99 x1_change)) (h_x1_coin : (AI 0 9 x1_coin)) (h_x2_lineCount : (0 ≤ x2_lineCount ∧ x2_lineCount ≤ 20)) (h_x2_goodsCount : (0 ≤ x2_goodsCount ∧ x2_goodsCount ≤ 8)) (h_x2_workCount : (0 ≤ x2_workCount ∧ x2_workCount ≤ 7)) (h_x2_years : (1 ≤ x2_years ∧ x2_years ≤ 30)) (h_x2_lines : (LnOk x2_lines)) (h_x2_goods : (GdOk x2_goods)) (h_x2_works : (WkOk x2_works)) (h_x2_change : (AI 0 99 x2_change)) (h_x2_coin : (AI 0 9 x2_coin)) : Sf (fX6_image (x0_refused, x0_isKept, x0_gone, x0_spent) (x1_lineCount, x1_goodsCount, x1_workCount, x1_years, x1_lines, x1_goods, x1_works, x1_change, x1_coin, x1_knownFree, x1_isKnown) (x2_lineCount, x2_goodsCount, x2_workCount, x2_years, x2_lines, x2_goods, x2_works, x2_change, x2_coin, x2_knownFree, x2_isKnown)) (fun r => (0 ≤ r.2.2.1 ∧ r.2.2.1 ≤ 20) ∧ (0 ≤ r.2.2.2.1 ∧ r.2.2.2.1 ≤ 8) ∧ (0 ≤ r.2.2.2.2.1 ∧ r.2.2.2.2.1 ≤ 7) ∧ (1 ≤ r.2.2.2.2.2.1 ∧ r.2.2.2.2.2.1 ≤ 30) ∧ (LnOk r.2.2.2.2.2.2.1) ∧ (GdOk r.2.2.2.2.2.2.2.1) ∧ (WkOk r.2.2.2.2.2.2.2.2.1) ∧ (AI 0 99 r.2.2.2.2.2.2.2.2.2.1) ∧ (AI 0 9 r.2.2.2.2.2.2.2.2.2.2.1)) := by
  unfold fX6_image
  dsimp only [u11, u4]
  refine Sf.bind (sX1_take h_x1_lines h_x1_goods h_x1_works h_x1_change h_x1_coin h_x2_lineCount h_x2_goodsCount h_x2_workCount h_x2_years h_x2_lines h_x2_goods h_x2_works h_x2_change h_x2_coin) ?_
  rintro ⟨g2, g3, g4, g5, g6, g7, g8, g9, g10, g11⟩ hr1
  obtain ⟨h_g2, h_g3, h_g4, h_g5, h_g6, h_g7, h_g8, h_g9, h_g10⟩ : (0 ≤ g2 ∧ g2 ≤ 20) ∧ (0 ≤ g3 ∧ g3 ≤ 8) ∧ (0 ≤ g4 ∧ g4 ≤ 7) ∧ (1 ≤ g5 ∧ g5 ≤ 30) ∧ (LnOk g6) ∧ (GdOk g7) ∧ (WkOk g8) ∧ (AI 0 99 g9) ∧ (AI 0 9 g10) := hr1
  dsimp only [u10]
  exact Sf.ok (show (0 ≤ g2 ∧ g2 ≤ 20) ∧ (0 ≤ g3 ∧ g3 ≤ 8) ∧ (0 ≤ g4 ∧ g4 ≤ 7) ∧ (1 ≤ g5 ∧ g5 ≤ 30) ∧ (LnOk g6) ∧ (GdOk g7) ∧ (WkOk g8) ∧ (AI 0 99 g9) ∧ (AI 0 9 g10) from ⟨h_g2, h_g3, h_g4, h_g5, h_g6, h_g7, h_g8, h_g9, h_g10⟩)
set_option maxHeartbeats 1000000 in
theorem sX6_back {n : Nat} {x0_refused : (Nat → Int32)} {x0_isKept x0_gone x0_spent x1_lineCount x1_goodsCount x1_workCount x1_years : Int32} {x1_lines x1_goods x1_works x1_change x1_coin x1_knownFree : (Nat → Int32)} {x1_isKnown : Int32} {x2_elements : (Nat → Nat → Int64)} {x2_held x2_sizes : (Nat → Int32)} {x3_lineCount x3_goodsCount x3_workCount x3_years : Int32} {x3_lines x3_goods x3_works x3_change x3_coin x3_knownFree : (Nat → Int32)} {x3_isKnown : Int32} (hn : 1000000000000 ≤ n) (h_x1_lineCount : (0 ≤ x1_lineCount ∧ x1_lineCount ≤ 20)) (h_x1_goodsCount : (0 ≤ x1_goodsCount ∧ x1_goodsCount ≤ 8)) (h_x1_workCount : (0 ≤ x1_workCount ∧ x1_workCount ≤ 7)) (h_x1_years : (1 ≤ x1_years ∧ x1_years ≤ 30)) (h_x1_lines : (LnOk x1_lines)) (h_x1_goods : (GdOk x1_goods)) (h_x1_works : (WkOk x1_works)) (h_x1_change : (AI 0 99 x1_change)) (h_x1_coin : (AI 0 9 x1_coin)) (h_x2_held : (AI (-1) 16 x2_held)) (h_x2_sizes : (AI 0 40 x2_sizes)) (h_x3_lineCount : (0 ≤ x3_lineCount ∧ x3_lineCount ≤ 20)) (h_x3_goodsCount : (0 ≤ x3_goodsCount ∧ x3_goodsCount ≤ 8)) (h_x3_workCount : (0 ≤ x3_workCount ∧ x3_workCount ≤ 7)) (h_x3_years : (1 ≤ x3_years ∧ x3_years ≤ 30)) (h_x3_lines : (LnOk x3_lines)) (h_x3_goods : (GdOk x3_goods)) (h_x3_works : (WkOk x3_works)) (h_x3_change : (AI 0 99 x3_change)) (h_x3_coin : (AI 0 9 x3_coin)) : Sf (fX6_back n (x0_refused, x0_isKept, x0_gone, x0_spent) (x1_lineCount, x1_goodsCount, x1_workCount, x1_years, x1_lines, x1_goods, x1_works, x1_change, x1_coin, x1_knownFree, x1_isKnown) (x2_elements, x2_held, x2_sizes) (x3_lineCount, x3_goodsCount, x3_workCount, x3_years, x3_lines, x3_goods, x3_works, x3_change, x3_coin, x3_knownFree, x3_isKnown)) (fun r => (AI (-1) 16 r.2.2.1) ∧ (0 ≤ r.2.2.2.1 ∧ r.2.2.2.1 ≤ 20) ∧ (0 ≤ r.2.2.2.2.1 ∧ r.2.2.2.2.1 ≤ 8) ∧ (0 ≤ r.2.2.2.2.2.1 ∧ r.2.2.2.2.2.1 ≤ 7) ∧ (1 ≤ r.2.2.2.2.2.2.1 ∧ r.2.2.2.2.2.2.1 ≤ 30) ∧ (LnOk r.2.2.2.2.2.2.2.1) ∧ (GdOk r.2.2.2.2.2.2.2.2.1) ∧ (WkOk r.2.2.2.2.2.2.2.2.2.1) ∧ (AI 0 99 r.2.2.2.2.2.2.2.2.2.2.1) ∧ (AI 0 9 r.2.2.2.2.2.2.2.2.2.2.2.1)) := by
  unfold fX6_back
  dsimp only [u11, u3, u4]
  refine Sf.ite (fun hc1 => ?_) (fun hc1 => ?_)
  · refine Sf.bind (sX6_refuse ) ?_
    rintro ⟨v15, g16⟩ hr2
    dsimp only [u2]
    exact Sf.ok (show (AI (-1) 16 x2_held) ∧ (0 ≤ x3_lineCount ∧ x3_lineCount ≤ 20) ∧ (0 ≤ x3_goodsCount ∧ x3_goodsCount ≤ 8) ∧ (0 ≤ x3_workCount ∧ x3_workCount ≤ 7) ∧ (1 ≤ x3_years ∧ x3_years ≤ 30) ∧ (LnOk x3_lines) ∧ (GdOk x3_goods) ∧ (WkOk x3_works) ∧ (AI 0 99 x3_change) ∧ (AI 0 9 x3_coin) from ⟨h_x2_held, h_x3_lineCount, h_x3_goodsCount, h_x3_workCount, h_x3_years, h_x3_lines, h_x3_goods, h_x3_works, h_x3_change, h_x3_coin⟩)
  · refine Sf.bind (sX1_take h_x3_lines h_x3_goods h_x3_works h_x3_change h_x3_coin h_x1_lineCount h_x1_goodsCount h_x1_workCount h_x1_years h_x1_lines h_x1_goods h_x1_works h_x1_change h_x1_coin) ?_
    rintro ⟨g2, g3, g4, g5, g6, g7, g8, g9, g10, g11⟩ hr3
    obtain ⟨h_g2, h_g3, h_g4, h_g5, h_g6, h_g7, h_g8, h_g9, h_g10⟩ : (0 ≤ g2 ∧ g2 ≤ 20) ∧ (0 ≤ g3 ∧ g3 ≤ 8) ∧ (0 ≤ g4 ∧ g4 ≤ 7) ∧ (1 ≤ g5 ∧ g5 ≤ 30) ∧ (LnOk g6) ∧ (GdOk g7) ∧ (WkOk g8) ∧ (AI 0 99 g9) ∧ (AI 0 9 g10) := hr3
    dsimp only [u10]
    refine Sf.bind (sX2_dropWorksFrom hn h_x2_held h_x2_sizes) ?_
    intro g13 hr4
    have h_g13 : (AI (-1) 16 g13) := hr4
    exact Sf.ok (show (AI (-1) 16 g13) ∧ (0 ≤ g2 ∧ g2 ≤ 20) ∧ (0 ≤ g3 ∧ g3 ≤ 8) ∧ (0 ≤ g4 ∧ g4 ≤ 7) ∧ (1 ≤ g5 ∧ g5 ≤ 30) ∧ (LnOk g6) ∧ (GdOk g7) ∧ (WkOk g8) ∧ (AI 0 99 g9) ∧ (AI 0 9 g10) from ⟨h_g13, h_g2, h_g3, h_g4, h_g5, h_g6, h_g7, h_g8, h_g9, h_g10⟩)
end
section
theorem sJ6_bitCount_0f7a4 {p0 : Int32} : Sf (fJ6_bitCount_0f7a4 p0) (fun _ => True) := ⟨_, rfl, trivial⟩
end
section
set_option maxHeartbeats 1000000 in
theorem sX6_status {n : Nat} {x0_refused : (Nat → Int32)} {x0_isKept x0_gone x0_spent : Int32} {x1_elements : (Nat → Nat → Int64)} {x1_held x1_sizes : (Nat → Int32)} {x2_lineCount x2_goodsCount x2_workCount x2_years : Int32} {x2_lines x2_goods x2_works x2_change x2_coin x2_knownFree : (Nat → Int32)} {x2_isKnown : Int32} {x3_bytes : (Nat → Int32)} {x3_size x3_start x3_end x3_token x3_value p1 : Int32} (hn : 1000000000000 ≤ n) (h_x1_held : (AI (-1) 16 x1_held)) (h_x1_sizes : (AI 0 40 x1_sizes)) (h_x2_lineCount : (0 ≤ x2_lineCount ∧ x2_lineCount ≤ 20)) (h_x2_goodsCount : (0 ≤ x2_goodsCount ∧ x2_goodsCount ≤ 8)) (h_x2_workCount : (0 ≤ x2_workCount ∧ x2_workCount ≤ 7)) (h_x2_years : (1 ≤ x2_years ∧ x2_years ≤ 30)) (h_x2_lines : (LnOk x2_lines)) (h_x2_goods : (GdOk x2_goods)) (h_x2_works : (WkOk x2_works)) (h_x2_change : (AI 0 99 x2_change)) (h_x2_coin : (AI 0 9 x2_coin)) (h_x3_size : (0 ≤ x3_size ∧ x3_size ≤ 250)) (h_x3_start : (0 ≤ x3_start ∧ x3_start ≤ 250)) (h_x3_end : (0 ≤ x3_end ∧ x3_end ≤ 250)) : Sf (fX6_status n (x0_refused, x0_isKept, x0_gone, x0_spent) (x1_elements, x1_held, x1_sizes) (x2_lineCount, x2_goodsCount, x2_workCount, x2_years, x2_lines, x2_goods, x2_works, x2_change, x2_coin, x2_knownFree, x2_isKnown) (x3_bytes, x3_size, x3_start, x3_end, x3_token, x3_value) p1) (fun r => True) := by
  unfold fX6_status
  dsimp only [u11, u3, u4, u6]
  refine Sf.ite (fun hc1 => ?_) (fun hc1 => ?_)
  · exact Sf.ok trivial
  · refine Sf.ite (fun hc2 => ?_) (fun hc2 => ?_)
    · exact Sf.ok trivial
    · refine Sf.ite (fun hc3 => ?_) (fun hc3 => ?_)
      · exact Sf.ok trivial
      · refine Sf.ite (fun hc4 => ?_) (fun hc4 => ?_)
        · refine Sf.bind (sX1_doneWorks hn h_x2_lineCount h_x2_goodsCount h_x2_workCount h_x2_years h_x2_lines h_x2_goods h_x2_works h_x2_change h_x2_coin) ?_
          intro v1 hr5
          refine Sf.bind (sJ6_bitCount_0f7a4 ) ?_
          intro v3 hr6
          exact Sf.ok trivial
        · refine Sf.ite (fun hc7 => ?_) (fun hc7 => ?_)
          · exact Sf.ok trivial
          · refine Sf.ite (fun hc8 => ?_) (fun hc8 => ?_)
            · exact Sf.ok trivial
            · refine Sf.ite (fun hc9 => ?_) (fun hc9 => ?_)
              · exact Sf.ok trivial
              · refine Sf.ite (fun hc10 => ?_) (fun hc10 => ?_)
                · exact Sf.ok trivial
                · refine Sf.ite (fun hc11 => ?_) (fun hc11 => ?_)
                  · refine Sf.bind (sX2_inUse hn h_x1_held h_x1_sizes) ?_
                    intro v5 hr12
                    exact Sf.ok trivial
                  · refine Sf.bind (sX6_within ) ?_
                    intro v7 hr13
                    have hx_v7 : ((v7 = 1 ∧ 12 ≤ p1 ∧ p1 ≤ 16) ∨ (v7 = 0 ∧ (p1 < 12 ∨ 16 < p1))) := hr13
                    refine Sf.ite (fun hc14 => ?_) (fun hc14 => ?_)
                    · exact Sf.ok trivial
                    · have hq15 : 0 ≤ (p1 - 12) ∧ (p1 - 12) < 5 := by grind
                      refine Sf.rdb 5 rfl hq15 (fun v9 e_v9 => ?_)
                      clear e_v9
                      exact Sf.ok trivial
end
section
/-! the reference's rows -/
def RI (B : Nat → Int32) (f : Nat → Int32) : Prop := ∀ c : Nat, 0 ≤ f c ∧ f c ≤ B c
def GI (B : Nat → Int32) (f : Nat → Nat → Int32) : Prop := ∀ q : Nat, RI B (f q)
def LnM (f : Nat → Nat → Int32) : Prop := GI lnB f
def GdM (f : Nat → Nat → Int32) : Prop := GI gdB f
def WkRm (K a b : Int32) : Prop := (K = 1 ∨ K = 2 → b ≤ 2) ∧ (K = 3 → a ≤ 11) ∧ (K = 1 ∨ K = 2 ∨ K = 3 ∨ (a ≤ 11 ∧ b ≤ 11))
def WkB (f : Nat → Nat → Int32) : Prop := GI wkB f
def WkM (f : Nat → Nat → Int32) : Prop := WkB f ∧ ∀ q : Nat, q < 7 → WkRm (f q 0) (f q 1) (f q 2)
theorem RI.up {B : Nat → Int32} {f : Nat → Int32} {c : Nat} {x : Int32} (h : RI B f) (hx : 0 ≤ x ∧ x ≤ B c) : RI B (va_up f c x) := by
  intro k
  unfold va_up
  by_cases hk : k = c
  · rw [if_pos hk, hk]; exact hx
  · rw [if_neg hk]; exact h k
theorem GI.up {B : Nat → Int32} {f : Nat → Nat → Int32} {q : Nat} {r : Nat → Int32} (h : GI B f) (hr : RI B r) : GI B (va_up f q r) := by
  intro k
  unfold va_up
  by_cases hk : k = q
  · rw [if_pos hk]; exact hr
  · rw [if_neg hk]; exact h k
theorem WkM.up {f : Nat → Nat → Int32} {q : Nat} {r : Nat → Int32} (h : WkM f) (hr : RI wkB r) (hR : WkRm (r 0) (r 1) (r 2)) : WkM (va_up f q r) := by
  refine ⟨GI.up h.1 hr, fun k hk7 => ?_⟩
  unfold va_up
  by_cases hk : k = q
  · rw [if_pos hk]; exact hR
  · rw [if_neg hk]; exact h.2 k hk7
theorem va_up_up {α : Type} (f : Nat → α) (k : Nat) (a b : α) : va_up (va_up f k a) k b = va_up f k b := by
  funext j
  unfold va_up
  by_cases h : j = k
  · rw [if_pos h, if_pos h]
  · rw [if_neg h, if_neg h, if_neg h]
theorem ofNat_i {m : Nat} (hm : m ≤ 1000) : (Int32.ofNat m).toInt = (m : Int) := Int32.toInt_ofNat_of_lt (by omega)
theorem i32_up {z : Int32} {m : Nat} (hm : m ≤ 1000) (hz : 0 ≤ z) (hc : ¬ Int32.ofNat m ≤ z) : (0 ≤ z ∧ z < Int32.ofNat m) ∧ 0 ≤ z + 1 ∧ (z + 1).toNatClampNeg = z.toNatClampNeg + 1 ∧ z.toNatClampNeg < m := by
  have hlt : z < Int32.ofNat m := Int32.not_le.mp hc
  have h1 := Int32.lt_iff_toInt_lt.mp hlt
  rw [ofNat_i hm] at h1
  have h2 := i32_cl hz
  have h0 := i32_nn hz
  have z1 : (1 : Int32).toInt = 1 := by decide
  have hz1 : (z + 1).toInt = z.toInt + 1 := by rw [i32_add (by omega) (by omega), z1]
  have z0 : (0 : Int32).toInt = 0 := by decide
  have hz0 : 0 ≤ z + 1 := Int32.le_iff_toInt_le.mpr (by rw [hz1, z0]; omega)
  have h3 := i32_cl hz0
  exact ⟨⟨hz, hlt⟩, hz0, by omega, by omega⟩
theorem over_step {m : Nat} (p0 : Nat → Int32) (hm : m ≤ 1000) : ∀ (n : Nat) (z : Int32) (f : Nat → Int32), 0 ≤ z → muUp z < n → Sf (lp (u2 (fX7_over_s2 m p0 m)) n (z, f)) (fun r => ∀ k : Nat, r k = if z.toNatClampNeg ≤ k ∧ k < m then p0 k else f k) := by
  intro n
  induction n with
  | zero => intro z f _ h; exact absurd h (Nat.not_lt_zero _)
  | succ n ih =>
    intro z f hz hn
    by_cases hc : Int32.ofNat m ≤ z
    · have e : lp (u2 (fX7_over_s2 m p0 m)) (n + 1) (z, f) = some f := by
        simp only [lp, u2, fX7_over_s2, if_pos hc]
      rw [e]
      refine Sf.ok (fun k => ?_)
      have h1 := Int32.le_iff_toInt_le.mp hc
      rw [ofNat_i hm] at h1
      have h2 := i32_cl hz
      rw [if_neg]
      omega
    · obtain ⟨hi, hz0, h3, h4⟩ := i32_up hm hz hc
      have hr : rd m p0 z = some (p0 z.toNatClampNeg) := if_pos (inb_ok (ofNat_i hm) hi)
      have hw : wr m f z (p0 z.toNatClampNeg) = some (va_up f z.toNatClampNeg (p0 z.toNatClampNeg)) := if_pos (inb_ok (ofNat_i hm) hi)
      have e : lp (u2 (fX7_over_s2 m p0 m)) (n + 1) (z, f) = lp (u2 (fX7_over_s2 m p0 m)) n (z + 1, va_up f z.toNatClampNeg (p0 z.toNatClampNeg)) := by
        simp only [lp, u2, fX7_over_s2, if_neg hc, hr, hw, Option.bind]
      rw [e]
      refine (ih (z + 1) _ hz0 (by have := muUp_lt hc; omega)).mono (fun r hr k => ?_)
      rw [hr k, h3]
      unfold va_up
      by_cases hk : k = z.toNatClampNeg
      · subst hk
        rw [if_neg (by omega), if_pos rfl, if_pos (by omega)]
      · rw [if_neg hk]
        by_cases hk2 : z.toNatClampNeg + 1 ≤ k ∧ k < m
        · rw [if_pos hk2, if_pos (by omega)]
        · rw [if_neg hk2, if_neg (by omega)]
theorem s_over {n m : Nat} {p0 p1 : Nat → Int32} (hn : 1000000000000 ≤ n) (hm : m ≤ 1000) : Sf (fX7_over n m p0 m p1) (fun r => ∀ k : Nat, r k = if k < m then p0 k else p1 k) := by
  unfold fX7_over
  refine Sf.bind (over_step p0 hm n 0 p1 (by decide) (muUp_n hn)) (fun r hr => Sf.ok (fun k => ?_))
  rw [hr k]
  have : (0 : Int32).toNatClampNeg = 0 := rfl
  rw [this]
  simp
theorem overAll_step {N m w : Nat} (p0 : Nat → Nat → Int32) (hN : 1000000000000 ≤ N) (hm : m ≤ 1000) (hw : w ≤ 1000) : ∀ (n : Nat) (z : Int32) (f : Nat → Nat → Int32), 0 ≤ z → muUp z < n → Sf (lp (u2 (fX7_overAll_s2 N m w p0 m w)) n (z, f)) (fun r => ∀ k c : Nat, r k c = if z.toNatClampNeg ≤ k ∧ k < m then (if c < w then p0 k c else f k c) else f k c) := by
  intro n
  induction n with
  | zero => intro z f _ h; exact absurd h (Nat.not_lt_zero _)
  | succ n ih =>
    intro z f hz hn
    by_cases hc : Int32.ofNat m ≤ z
    · have e : lp (u2 (fX7_overAll_s2 N m w p0 m w)) (n + 1) (z, f) = some f := by
        simp only [lp, u2, fX7_overAll_s2, if_pos hc]
      rw [e]
      refine Sf.ok (fun k c => ?_)
      have h1 := Int32.le_iff_toInt_le.mp hc
      rw [ofNat_i hm] at h1
      have h2 := i32_cl hz
      rw [if_neg]
      omega
    · obtain ⟨hi, hz0, h3, h4⟩ := i32_up hm hz hc
      have hk : ck z m = some z.toNatClampNeg := if_pos (inb_ok (ofNat_i hm) hi)
      obtain ⟨g, eg, hg⟩ := s_over (p0 := p0 z.toNatClampNeg) (p1 := f z.toNatClampNeg) hN hw
      have e : lp (u2 (fX7_overAll_s2 N m w p0 m w)) (n + 1) (z, f) = lp (u2 (fX7_overAll_s2 N m w p0 m w)) n (z + 1, va_up f z.toNatClampNeg g) := by
        simp only [lp, u2, fX7_overAll_s2, if_neg hc, hk, eg, Option.bind]
      rw [e]
      refine (ih (z + 1) _ hz0 (by have := muUp_lt hc; omega)).mono (fun r hr k c => ?_)
      rw [hr k c, h3]
      unfold va_up
      by_cases hk : k = z.toNatClampNeg
      · subst hk
        rw [if_neg (show ¬ (z.toNatClampNeg + 1 ≤ z.toNatClampNeg ∧ z.toNatClampNeg < m) by omega), if_pos rfl, if_pos (show z.toNatClampNeg ≤ z.toNatClampNeg ∧ z.toNatClampNeg < m by omega)]
        exact hg c
      · rw [if_neg hk]
        by_cases hk2 : z.toNatClampNeg + 1 ≤ k ∧ k < m
        · rw [if_pos hk2, if_pos (show z.toNatClampNeg ≤ k ∧ k < m by omega)]
        · rw [if_neg hk2, if_neg (show ¬ (z.toNatClampNeg ≤ k ∧ k < m) by omega)]
theorem s_overAll {n m w : Nat} {p0 p1 : Nat → Nat → Int32} (hn : 1000000000000 ≤ n) (hm : m ≤ 1000) (hw : w ≤ 1000) : Sf (fX7_overAll n m w p0 m w p1) (fun r => ∀ k c : Nat, r k c = if k < m ∧ c < w then p0 k c else p1 k c) := by
  unfold fX7_overAll
  refine Sf.bind (overAll_step p0 hn hm hw n 0 p1 (by decide) (muUp_n hn)) (fun r hr => Sf.ok (fun k c => ?_))
  rw [hr k c]
  have : (0 : Int32).toNatClampNeg = 0 := rfl
  rw [this]
  by_cases h1 : k < m
  · rw [if_pos ⟨Nat.zero_le _, h1⟩]
    by_cases h2 : c < w
    · rw [if_pos h2, if_pos ⟨h1, h2⟩]
    · rw [if_neg h2, if_neg (fun h => h2 h.2)]
  · rw [if_neg (fun h => h1 h.2), if_neg (fun h => h1 h.1)]
theorem GI.over {B : Nat → Int32} {f g r : Nat → Nat → Int32} {m w : Nat} (hr : ∀ k c : Nat, r k c = if k < m ∧ c < w then f k c else g k c) (h : GI B f) (h2 : GI B g) : GI B r := by
  intro k c
  rw [hr k c]
  by_cases hk : k < m ∧ c < w
  · rw [if_pos hk]; exact h k c
  · rw [if_neg hk]; exact h2 k c
theorem AI.over {lo hi : Int32} {f g r : Nat → Int32} {m : Nat} (hr : ∀ k : Nat, r k = if k < m then f k else g k) (h : AI lo hi f) (h2 : AI lo hi g) : AI lo hi r := by
  intro k
  rw [hr k]
  by_cases hk : k < m
  · rw [if_pos hk]; exact h k
  · rw [if_neg hk]; exact h2 k
theorem WkM.over {f g r : Nat → Nat → Int32} (hr : ∀ k c : Nat, r k c = if k < 7 ∧ c < 5 then f k c else g k c) (h : WkM f) (h2 : WkB g) : WkM r := by
  refine ⟨GI.over hr h.1 h2, fun q hq => ?_⟩
  rw [hr q 0, hr q 1, hr q 2, if_pos ⟨hq, by omega⟩, if_pos ⟨hq, by omega⟩, if_pos ⟨hq, by omega⟩]
  exact h.2 q hq
def rdMu (ts a t : Int32) : Nat := 2 * (ts.toInt - a.toInt).toNat + (if t = 3 then 1 else 0)
theorem rdMu_lt {ts a t a' t' : Int32} (h3 : t = 3) (h : a ≤ a') (h1 : a' ≤ ts) (hp : t' ≠ 3 ∨ a < a') : rdMu ts a' t' < rdMu ts a t := by
  unfold rdMu
  have i := Int32.le_iff_toInt_le.mp h
  have j := Int32.le_iff_toInt_le.mp h1
  rw [if_pos h3]
  by_cases ht : t' = 3
  · rw [if_pos ht]
    rcases hp with hp | hp
    · exact absurd ht hp
    · have k := Int32.lt_iff_toInt_lt.mp hp
      omega
  · rw [if_neg ht]
    omega
theorem rdMu_n {ts a t : Int32} {n : Nat} (hn : 1000000000000 ≤ n) : rdMu ts a t < n := by
  unfold rdMu
  have h1 : ts.toInt < 2147483648 := Int32.toInt_lt ts
  have h2 : -2147483648 ≤ a.toInt := Int32.le_toInt a
  by_cases ht : t = 3
  · rw [if_pos ht]; omega
  · rw [if_neg ht]; omega
theorem md3 {x : Int32} (h : 0 ≤ x ∧ x ≤ 35) : 0 ≤ x - x / 3 * 3 ∧ x - x / 3 * 3 < 3 := by
  obtain ⟨_, _, h3, h4⟩ := dv3 h
  generalize x / 3 * 3 = y at h3 h4
  have a := i32_b h
  have b := Int32.le_iff_toInt_le.mp h3
  have z0 : (0 : Int32).toInt = 0 := by decide
  have z2 : (2 : Int32).toInt = 2 := by decide
  have z3 : (3 : Int32).toInt = 3 := by decide
  have z35 : (35 : Int32).toInt = 35 := by decide
  rw [z0, z35] at a
  have hy : -2147483648 ≤ y.toInt := Int32.le_toInt y
  have c := Int32.le_iff_toInt_le.mp h4
  rw [i32_add (by rw [z2]; omega) (by rw [z2]; omega), z2] at c
  have e : (x - y).toInt = x.toInt - y.toInt := i32_sub (by omega) (by omega)
  exact ⟨Int32.le_iff_toInt_le.mpr (by rw [e, z0]; omega), Int32.lt_iff_toInt_lt.mpr (by rw [e, z3]; omega)⟩
theorem st8 {y x : Int32} (hy : 0 ≤ y ∧ y ≤ 11) (h : 0 ≤ x ∧ x ≤ 35) : 0 ≤ 3 * y + (x - x / 3 * 3) ∧ 3 * y + (x - x / 3 * 3) ≤ 35 := by
  have m := md3 h
  generalize x - x / 3 * 3 = d at m
  clear h
  grind
end

/-! cheapest -/
theorem costBetweenC {n : Nat} {x0_left : (Nat → Int32)} {x0_earned : (Nat → Int32)} {x0_turnCost : Int32} {x0_turnWayless : Int32} {x1_edgeA : (Nat → Int32)} {x1_edgeB : (Nat → Int32)} {x1_edgeCost : (Nat → Int32)} {x1_edgeLine : (Nat → Int32)} {x1_change : (Nat → Int32)} {x1_away : (Nat → Int32)} {x1_steps : (Nat → Int32)} {x1_nodes : (Nat → Int32)} {x1_stepCount : Int32} {x1_open : (Nat → Int32)} {x1_openCount : Int32} {x1_seen : Int64} {x1_edgeCount : Int32} {x1_aim : Int32} {x2_lineCount : Int32} {x2_goodsCount : Int32} {x2_workCount : Int32} {x2_years : Int32} {x2_lines : (Nat → Int32)} {x2_goods : (Nat → Int32)} {x2_works : (Nat → Int32)} {x2_change : (Nat → Int32)} {x2_coin : (Nat → Int32)} {x2_knownFree : (Nat → Int32)} {x2_isKnown : Int32} {p2 p3 : Int32} (hn : 1000000000000 ≤ n) (h_x1_edgeA : (AI 0 35 x1_edgeA)) (h_x1_edgeB : (AI 0 35 x1_edgeB)) (h_x1_edgeLine : (AI 0 19 x1_edgeLine)) (h_x1_steps : (AI 0 22 x1_steps)) (h_x1_nodes : (AI 0 35 x1_nodes)) (h_x1_stepCount : (0 ≤ x1_stepCount ∧ x1_stepCount ≤ 36)) (h_x1_open : (AI 0 35 x1_open)) (h_x1_openCount : (0 ≤ x1_openCount ∧ x1_openCount ≤ 36)) (h_x1_edgeCount : (0 ≤ x1_edgeCount ∧ x1_edgeCount ≤ 60)) (h_x2_lineCount : (0 ≤ x2_lineCount ∧ x2_lineCount ≤ 20)) (h_x2_goodsCount : (0 ≤ x2_goodsCount ∧ x2_goodsCount ≤ 8)) (h_x2_workCount : (0 ≤ x2_workCount ∧ x2_workCount ≤ 7)) (h_x2_years : (1 ≤ x2_years ∧ x2_years ≤ 30)) (h_x2_lines : (LnOk x2_lines)) (h_x2_goods : (GdOk x2_goods)) (h_x2_works : (WkOk x2_works)) (h_x2_change : (AI 0 99 x2_change)) (h_x2_coin : (AI 0 9 x2_coin)) (hp2 : 0 ≤ p2 ∧ p2 ≤ 11) (hp3 : 0 ≤ p3 ∧ p3 ≤ 11) {Tq : Nat → Nat → Int32} (hT : Tz (EdL x2_lineCount.toNatClampNeg (ro 7 x2_lines) x2_change x2_coin) Tq) : Sf (fX4_costBetween n (x0_left, x0_earned, x0_turnCost, x0_turnWayless) (x1_edgeA, x1_edgeB, x1_edgeCost, x1_edgeLine, x1_change, x1_away, x1_steps, x1_nodes, x1_stepCount, x1_open, x1_openCount, x1_seen, x1_edgeCount, x1_aim) (x2_lineCount, x2_goodsCount, x2_workCount, x2_years, x2_lines, x2_goods, x2_works, x2_change, x2_coin, x2_knownFree, x2_isKnown) p2 p3) (fun r => ∃ m, Ls 1000000 (Tq p3.toNatClampNeg) p2.toNatClampNeg m ∧ r.1 = if 1000000 ≤ m then (-1) else m) := by
  unfold fX4_costBetween
  dsimp only [u4, u14, u11]
  refine Sf.bind (thereS hn h_x2_lineCount) (fun v1 hb => ?_)
  refine Sf.bind (prepS hn h_x2_lines h_x2_coin h_x2_lineCount h_x1_edgeA h_x1_edgeB) ?_
  rintro ⟨g2, g3, g4, g5, g6, g7, g8⟩ ⟨q1, q2, q3, q4, q5, q6, q7⟩
  have q1 : g8 = (-1) := q1
  have q2 : AI 0 35 g2 := q2
  have q3 : AI 0 35 g3 := q3
  have q4 : 0 ≤ g7 ∧ g7 ≤ 60 := q4
  have q5 : ∀ e, e < g7.toNatClampNeg → 0 ≤ g4 e ∧ g4 e ≤ 999 := q5
  have q6 : ∀ k, k < 12 → g6 k = x2_change k := q6
  have q7 : EgOk x2_lines x2_coin v1 (fun l _ => l < x2_lineCount.toNatClampNeg) g2 g3 g4 g7.toNatClampNeg := q7
  have hL20 := nlt (M := 20) (N := 20) rfl h_x2_lineCount
  have hE : EdC g7.toNatClampNeg g2 g3 g4 g6 = EdL x2_lineCount.toNatClampNeg (ro 7 x2_lines) x2_change x2_coin := by
    funext u v c
    exact propext (EdC_Ed q7 (fun l hl => by rw [ro_eq (by decide)]; exact hb l hl) hL20 (fun l _ c hc => ro_eq (by omega)) (fun w _ => rfl) (fun p hp => (q6 p hp).symm) (fun l _ => by decide) u v c)
  have hC12 : C12 g6 := fun p hp => by rw [q6 p hp]; exact h_x2_change p
  try dsimp only [u7]
  refine Sf.bind (aimS hn q2 q3 q4 q5 hC12 hp3 (T := Tq p3.toNatClampNeg) (by rw [hE]; exact hT _ (p_of hp3)) (fun e => by rw [q1] at e; rw [← e] at hp3; exact absurd hp3.1 (by decide))) ?_
  rintro ⟨g12, g13⟩ ⟨r1, r2⟩
  have r1 : ∀ v, v < 36 → g12 v = Tq p3.toNatClampNeg v := r1
  try dsimp only [u2]
  refine Sf.bind (costS hn hp2) ?_
  rintro v15 ⟨m, hm, e⟩
  exact Sf.ok ⟨m, Ls_congr (p_of hp2) r1 hm, e⟩

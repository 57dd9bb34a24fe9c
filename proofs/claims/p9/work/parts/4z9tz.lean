/-! cheapest: alike -/
def VPl (p1 p2 : Int32) : Prop := (0 ≤ p1 ∧ p1 ≤ 11) ∧ (0 ≤ p2 ∧ p2 ≤ 11)
def ChV (Tq : Nat → Nat → Int32) (p1 p2 a : Int32) : Prop := ∃ m, Ls 1000000 (Tq p2.toNatClampNeg) p1.toNatClampNeg m ∧ a = if 1000000 ≤ m then (-5) else m
theorem ChV_eq {Tq : Nat → Nat → Int32} {p1 p2 a a' : Int32} (h : ChV Tq p1 p2 a) (h' : ChV Tq p1 p2 a') : a = a' := by
  obtain ⟨m, h1, h2⟩ := h
  obtain ⟨m', h3, h4⟩ := h'
  rw [h2, h4, Ls_uniq h1 h3]
theorem Ls_pos {T : Nat → Int32} {p : Nat} {m : Int32} (hT : A6 T) (hp : p < 12) (h : Ls 1000000 T p m) : 0 ≤ m := by
  rcases h.2.2 with e | ⟨w, hw, e⟩
  · rw [e]; decide
  · rw [e]; exact (hT _ (by omega)).1
theorem cheapestC {n : Nat} {x0_refused : (Nat → Int32)} {x0_isKept : Int32} {x0_gone : Int32} {x0_spent : Int32} {x1_lineCount : Int32} {x1_goodsCount : Int32} {x1_workCount : Int32} {x1_years : Int32} {x1_lines : (Nat → Int32)} {x1_goods : (Nat → Int32)} {x1_works : (Nat → Int32)} {x1_change : (Nat → Int32)} {x1_coin : (Nat → Int32)} {x1_knownFree : (Nat → Int32)} {x1_isKnown : Int32} {x2_left : (Nat → Int32)} {x2_earned : (Nat → Int32)} {x2_turnCost : Int32} {x2_turnWayless : Int32} {x3_edgeA : (Nat → Int32)} {x3_edgeB : (Nat → Int32)} {x3_edgeCost : (Nat → Int32)} {x3_edgeLine : (Nat → Int32)} {x3_change : (Nat → Int32)} {x3_away : (Nat → Int32)} {x3_steps : (Nat → Int32)} {x3_nodes : (Nat → Int32)} {x3_stepCount : Int32} {x3_open : (Nat → Int32)} {x3_openCount : Int32} {x3_seen : Int64} {x3_edgeCount : Int32} {x3_aim : Int32} {p1 p2 : Int32} (hn : 1000000000000 ≤ n) (h_x1_lineCount : (0 ≤ x1_lineCount ∧ x1_lineCount ≤ 20)) (h_x1_goodsCount : (0 ≤ x1_goodsCount ∧ x1_goodsCount ≤ 8)) (h_x1_workCount : (0 ≤ x1_workCount ∧ x1_workCount ≤ 7)) (h_x1_years : (1 ≤ x1_years ∧ x1_years ≤ 30)) (h_x1_lines : (LnOk x1_lines)) (h_x1_goods : (GdOk x1_goods)) (h_x1_works : (WkOk x1_works)) (h_x1_change : (AI 0 99 x1_change)) (h_x1_coin : (AI 0 9 x1_coin)) (h_x3_edgeA : (AI 0 35 x3_edgeA)) (h_x3_edgeB : (AI 0 35 x3_edgeB)) (h_x3_edgeLine : (AI 0 19 x3_edgeLine)) (h_x3_steps : (AI 0 22 x3_steps)) (h_x3_nodes : (AI 0 35 x3_nodes)) (h_x3_stepCount : (0 ≤ x3_stepCount ∧ x3_stepCount ≤ 36)) (h_x3_open : (AI 0 35 x3_open)) (h_x3_openCount : (0 ≤ x3_openCount ∧ x3_openCount ≤ 36)) (h_x3_edgeCount : (0 ≤ x3_edgeCount ∧ x3_edgeCount ≤ 60)) {Tq : Nat → Nat → Int32} (hT : Tz (EdL x1_lineCount.toNatClampNeg (ro 7 x1_lines) x1_change x1_coin) Tq) : Sf (fX6_cheapest n (x0_refused, x0_isKept, x0_gone, x0_spent) (x1_lineCount, x1_goodsCount, x1_workCount, x1_years, x1_lines, x1_goods, x1_works, x1_change, x1_coin, x1_knownFree, x1_isKnown) (x2_left, x2_earned, x2_turnCost, x2_turnWayless) (x3_edgeA, x3_edgeB, x3_edgeCost, x3_edgeLine, x3_change, x3_away, x3_steps, x3_nodes, x3_stepCount, x3_open, x3_openCount, x3_seen, x3_edgeCount, x3_aim) p1 p2) (fun r => AP (VPl p1 p2) r.1 (ChV Tq p1 p2 r.1) True) := by
  unfold fX6_cheapest
  dsimp only [u4, u14, u11]
  refine Sf.bind sX6_isPlace (fun v1 h1 => Sf.ite (fun hz => ?_) (fun hz => ?_))
  · refine Sf.bind refC ?_
    rintro ⟨v, g⟩ e
    exact Sf.ok (Or.inr ⟨fun V => gd0 h1 hz V.1, e, trivial⟩)
  have c1 := gd1 h1 hz
  refine Sf.bind sX6_isPlace (fun v6 h6 => Sf.ite (fun hz => ?_) (fun hz => ?_))
  · refine Sf.bind refC ?_
    rintro ⟨v, g⟩ e
    exact Sf.ok (Or.inr ⟨fun V => gd0 h6 hz V.2, e, trivial⟩)
  have c2 := gd1 h6 hz
  have hTF := hT _ (p_of c2)
  refine Sf.ite (fun he => ?_) (fun he => ?_)
  · refine Sf.ok (Or.inl ⟨⟨c1, c2⟩, ?_⟩)
    obtain ⟨m, hm⟩ : ∃ m, Ls 1000000 (Tq p2.toNatClampNeg) p1.toNatClampNeg m := ⟨_, Ls_m3 hTF.1 (p_of c1)⟩
    have h0 : Tq p2.toNatClampNeg (3 * p1.toNatClampNeg + 0) = 0 := hTF.2.1 _ (by rw [he]; omega)
    have hle := hm.1 0 (by decide)
    rw [h0] at hle
    have hge := Ls_pos hTF.1 (p_of c1) hm
    have e0 := Int32.le_antisymm hle hge
    refine ⟨_, hm, ?_⟩
    rw [e0]
    rfl
  · refine Sf.bind (costBetweenC hn h_x3_edgeA h_x3_edgeB h_x3_edgeLine h_x3_steps h_x3_nodes h_x3_stepCount h_x3_open h_x3_openCount h_x3_edgeCount h_x1_lineCount h_x1_goodsCount h_x1_workCount h_x1_years h_x1_lines h_x1_goods h_x1_works h_x1_change h_x1_coin c1 c2 hT) ?_
    rintro ⟨v8, g10, g11, g12, g13, g14, g15, g16, g17⟩ ⟨m, hm, e8⟩
    have e8 : v8 = _ := e8
    have hge := Ls_pos hTF.1 (p_of c1) hm
    try dsimp only [u2, u8]
    by_cases hf : 1000000 ≤ m
    · rw [if_pos hf] at e8
      rw [if_pos e8]
      refine Sf.bind refC ?_
      rintro ⟨v, g⟩ e
      exact Sf.ok (Or.inl ⟨⟨c1, c2⟩, m, hm, by rw [if_pos hf]; exact e⟩)
    · rw [if_neg hf] at e8
      rw [if_neg (by rw [e8]; intro h; rw [h] at hge; exact absurd hge (by decide))]
      exact Sf.ok (Or.inl ⟨⟨c1, c2⟩, m, hm, by rw [if_neg hf]; exact e8⟩)
theorem cheapestR {n : Nat} {x0_shelf : (Nat → Int32)} {x0_rowSort : (Nat → Int32)} {x0_rowSize : (Nat → Int32)} {x0_rows : (Nat → Nat → Int64)} {x0_moved : (Nat → Int64)} {x0_shown : (Nat → Int32)} {x0_tape : (Nat → Int32)} {x0_tapeSize : Int32} {x0_refused : (Nat → Int32)} {x0_lines : Int32} {x0_line : (Nat → Nat → Int32)} {x0_changes : (Nat → Int32)} {x0_coins : (Nat → Int32)} {x0_goods : Int32} {x0_good : (Nat → Nat → Int32)} {x0_works : Int32} {x0_work : (Nat → Nat → Int32)} {x0_years : Int32} {x0_gone : Int32} {x0_spent : Int32} {x0_at : Int32} {x0_token : Int32} {x0_from : Int32} {x0_figures : Int64} {x0_fault : Int32} {x0_numbers : (Nat → Int32)} {x0_statements : Int32} {x0_left : (Nat → Int32)} {x0_far : (Nat → Int32)} {x0_tons : Int32} {x0_way : (Nat → Int32)} {x0_steps : Int32} {x0_met : Int64} {x0_queue : (Nat → Int32)} {x0_totals : (Nat → Int32)} {p1 p2 : Int32} (hn : 1000000000000 ≤ n) (h_x0_shelf : (AI 0 2 x0_shelf)) (h_x0_rowSize : (AI 0 40 x0_rowSize)) (h_x0_tapeSize : (0 ≤ x0_tapeSize ∧ x0_tapeSize ≤ 250)) (h_x0_lines : (0 ≤ x0_lines ∧ x0_lines ≤ 20)) (h_x0_line : (LnM x0_line)) (h_x0_changes : (AI 0 99 x0_changes)) (h_x0_coins : (AI 0 9 x0_coins)) (h_x0_goods : (0 ≤ x0_goods ∧ x0_goods ≤ 8)) (h_x0_good : (GdM x0_good)) (h_x0_works : (0 ≤ x0_works ∧ x0_works ≤ 7)) (h_x0_work : (WkM x0_work)) (h_x0_years : (1 ≤ x0_years ∧ x0_years ≤ 30)) (h_x0_from : (0 ≤ x0_from ∧ x0_from ≤ 250)) (h_x0_far : (AI 0 1000000000 x0_far)) (h_x0_way : (AI 0 22 x0_way)) (h_x0_steps : (0 ≤ x0_steps ∧ x0_steps ≤ 37)) (h_x0_queue : (AI 0 35 x0_queue)) {Tq : Nat → Nat → Int32} (hT : Tz (EdL x0_lines.toNatClampNeg x0_line x0_changes x0_coins) Tq) : Sf (fX7_cheapest n (x0_shelf, x0_rowSort, x0_rowSize, x0_rows, x0_moved, x0_shown, x0_tape, x0_tapeSize, x0_refused, x0_lines, x0_line, x0_changes, x0_coins, x0_goods, x0_good, x0_works, x0_work, x0_years, x0_gone, x0_spent, x0_at, x0_token, x0_from, x0_figures, x0_fault, x0_numbers, x0_statements, x0_left, x0_far, x0_tons, x0_way, x0_steps, x0_met, x0_queue, x0_totals) p1 p2) (fun r => AP (VPl p1 p2) r.1 (ChV Tq p1 p2 r.1) True) := by
  unfold fX7_cheapest
  dsimp only [u35]
  refine Sf.bind sX7_isPlace (fun v1 h1 => Sf.ite (fun hz => ?_) (fun hz => ?_))
  · refine Sf.bind (sX7_refuse h_x0_shelf h_x0_rowSize h_x0_tapeSize h_x0_lines h_x0_line h_x0_changes h_x0_coins h_x0_goods h_x0_good h_x0_works h_x0_work h_x0_years h_x0_from h_x0_far h_x0_way h_x0_steps h_x0_queue (by decide)) ?_
    rintro ⟨v, g⟩ e
    exact Sf.ok (Or.inr ⟨fun V => gd0 h1 hz V.1, e, trivial⟩)
  have c1 := gd1 h1 hz
  refine Sf.bind sX7_isPlace (fun v6 h6 => Sf.ite (fun hz => ?_) (fun hz => ?_))
  · refine Sf.bind (sX7_refuse h_x0_shelf h_x0_rowSize h_x0_tapeSize h_x0_lines h_x0_line h_x0_changes h_x0_coins h_x0_goods h_x0_good h_x0_works h_x0_work h_x0_years h_x0_from h_x0_far h_x0_way h_x0_steps h_x0_queue (by decide)) ?_
    rintro ⟨v, g⟩ e
    exact Sf.ok (Or.inr ⟨fun V => gd0 h6 hz V.2, e, trivial⟩)
  have c2 := gd1 h6 hz
  have hTF := hT _ (p_of c2)
  refine Sf.bind (refillS hn h_x0_lines) (fun g8 e8 => ?_)
  have hleft : ∀ l, l < x0_lines.toNatClampNeg → ¬ g8 l < 0 := by
    intro l hl
    rw [e8 l hl]
    exact Int32.not_lt.mpr (h_x0_line l 4).1
  refine Sf.bind (farT hn h_x0_shelf h_x0_rowSize h_x0_tapeSize h_x0_lines h_x0_line h_x0_changes h_x0_coins h_x0_goods h_x0_good h_x0_works h_x0_work h_x0_years h_x0_from h_x0_far h_x0_way h_x0_steps h_x0_queue c2 hleft) ?_
  rintro ⟨g10, g11⟩ ⟨hA, hF, hlt⟩
  have hA : AI 0 1000000000 g10 := hA
  have hlt : ∀ v, v < 36 → g10 v < 1000000000 → g10 v < 1000000 := hlt
  try dsimp only [u2]
  refine Sf.bind (leastS hn c1) (fun v13 h13 => ?_)
  have hm := Ls_m3 hTF.1 (p_of c1)
  have hm2 := Ls_congr (p_of c1) (fun v hv => (TF_uniq hF hTF v hv).symm) hm
  have key := Ls_eq (fun w hw => hlt _ (by have := p_of c1; omega)) hm2 h13
  refine Sf.ite (fun hc => ?_) (fun hc => ?_)
  · refine Sf.bind (leastS hn c1) (fun v15 h15 => ?_)
    have e15 := Ls_uniq h15 h13
    refine Sf.ok (Or.inl ⟨⟨c1, c2⟩, _, hm, ?_⟩)
    show v15 = _
    rcases key with ⟨_, k2⟩ | ⟨k1, _, k3⟩
    · exact absurd hc (Int32.not_lt.mpr k2)
    · rw [if_neg (Int32.not_le.mpr k1), k3, e15]
  · refine Sf.bind (sX7_refuse h_x0_shelf h_x0_rowSize h_x0_tapeSize h_x0_lines h_x0_line h_x0_changes h_x0_coins h_x0_goods h_x0_good h_x0_works h_x0_work h_x0_years h_x0_from hA h_x0_way h_x0_steps h_x0_queue (by decide)) ?_
    rintro ⟨v, g⟩ e
    refine Sf.ok (Or.inl ⟨⟨c1, c2⟩, _, hm, ?_⟩)
    show v = _
    rcases key with ⟨k1, _⟩ | ⟨_, k2, _⟩
    · rw [if_pos k1]; exact e
    · exact absurd k2 hc
theorem dCheapest {n : Nat} {x0_refused : (Nat → Int32)} {x0_isKept : Int32} {x0_gone : Int32} {x0_spent : Int32} {x1_lineCount : Int32} {x1_goodsCount : Int32} {x1_workCount : Int32} {x1_years : Int32} {x1_lines : (Nat → Int32)} {x1_goods : (Nat → Int32)} {x1_works : (Nat → Int32)} {x1_change : (Nat → Int32)} {x1_coin : (Nat → Int32)} {x1_knownFree : (Nat → Int32)} {x1_isKnown : Int32} {x2_left : (Nat → Int32)} {x2_earned : (Nat → Int32)} {x2_turnCost : Int32} {x2_turnWayless : Int32} {x3_edgeA : (Nat → Int32)} {x3_edgeB : (Nat → Int32)} {x3_edgeCost : (Nat → Int32)} {x3_edgeLine : (Nat → Int32)} {x3_change : (Nat → Int32)} {x3_away : (Nat → Int32)} {x3_steps : (Nat → Int32)} {x3_nodes : (Nat → Int32)} {x3_stepCount : Int32} {x3_open : (Nat → Int32)} {x3_openCount : Int32} {x3_seen : Int64} {x3_edgeCount : Int32} {x3_aim : Int32} {m_shelf : (Nat → Int32)} {m_rowSort : (Nat → Int32)} {m_rowSize : (Nat → Int32)} {m_rows : (Nat → Nat → Int64)} {m_moved : (Nat → Int64)} {m_shown : (Nat → Int32)} {m_tape : (Nat → Int32)} {m_tapeSize : Int32} {m_refused : (Nat → Int32)} {m_lines : Int32} {m_line : (Nat → Nat → Int32)} {m_changes : (Nat → Int32)} {m_coins : (Nat → Int32)} {m_goods : Int32} {m_good : (Nat → Nat → Int32)} {m_works : Int32} {m_work : (Nat → Nat → Int32)} {m_years : Int32} {m_gone : Int32} {m_spent : Int32} {m_at : Int32} {m_token : Int32} {m_from : Int32} {m_figures : Int64} {m_fault : Int32} {m_numbers : (Nat → Int32)} {m_statements : Int32} {m_left : (Nat → Int32)} {m_far : (Nat → Int32)} {m_tons : Int32} {m_way : (Nat → Int32)} {m_steps : Int32} {m_met : Int64} {m_queue : (Nat → Int32)} {m_totals : (Nat → Int32)} {p1 p2 er fr : Int32} {A6 : (Nat → Int32) × ((Nat → Int32) × (Nat → Int32) × (Nat → Int32) × (Nat → Int32) × (Nat → Int32) × (Nat → Int32) × Int32 × Int32)} {B6 : (Nat → Int32) × (Nat → Int32) × (Nat → Int32) × Int32} (hn : 1000000000000 ≤ n) (h_x1_lineCount : (0 ≤ x1_lineCount ∧ x1_lineCount ≤ 20)) (h_x1_goodsCount : (0 ≤ x1_goodsCount ∧ x1_goodsCount ≤ 8)) (h_x1_workCount : (0 ≤ x1_workCount ∧ x1_workCount ≤ 7)) (h_x1_years : (1 ≤ x1_years ∧ x1_years ≤ 30)) (h_x1_lines : (LnOk x1_lines)) (h_x1_goods : (GdOk x1_goods)) (h_x1_works : (WkOk x1_works)) (h_x1_change : (AI 0 99 x1_change)) (h_x1_coin : (AI 0 9 x1_coin)) (h_x3_edgeA : (AI 0 35 x3_edgeA)) (h_x3_edgeB : (AI 0 35 x3_edgeB)) (h_x3_edgeLine : (AI 0 19 x3_edgeLine)) (h_x3_steps : (AI 0 22 x3_steps)) (h_x3_nodes : (AI 0 35 x3_nodes)) (h_x3_stepCount : (0 ≤ x3_stepCount ∧ x3_stepCount ≤ 36)) (h_x3_open : (AI 0 35 x3_open)) (h_x3_openCount : (0 ≤ x3_openCount ∧ x3_openCount ≤ 36)) (h_x3_edgeCount : (0 ≤ x3_edgeCount ∧ x3_edgeCount ≤ 60)) (h_m_shelf : (AI 0 2 m_shelf)) (h_m_rowSize : (AI 0 40 m_rowSize)) (h_m_tapeSize : (0 ≤ m_tapeSize ∧ m_tapeSize ≤ 250)) (h_m_lines : (0 ≤ m_lines ∧ m_lines ≤ 20)) (h_m_line : (LnM m_line)) (h_m_changes : (AI 0 99 m_changes)) (h_m_coins : (AI 0 9 m_coins)) (h_m_goods : (0 ≤ m_goods ∧ m_goods ≤ 8)) (h_m_good : (GdM m_good)) (h_m_works : (0 ≤ m_works ∧ m_works ≤ 7)) (h_m_work : (WkM m_work)) (h_m_years : (1 ≤ m_years ∧ m_years ≤ 30)) (h_m_from : (0 ≤ m_from ∧ m_from ≤ 250)) (h_m_far : (AI 0 1000000000 m_far)) (h_m_way : (AI 0 22 m_way)) (h_m_steps : (0 ≤ m_steps ∧ m_steps ≤ 37)) (h_m_queue : (AI 0 35 m_queue)) (hA : (LaD x1_lineCount x1_goodsCount x1_workCount x1_years x1_lines x1_goods x1_works x1_change x1_coin m_lines m_line m_changes m_coins m_goods m_good m_works m_work m_years)) (eqA : fX6_cheapest n (x0_refused, x0_isKept, x0_gone, x0_spent) (x1_lineCount, x1_goodsCount, x1_workCount, x1_years, x1_lines, x1_goods, x1_works, x1_change, x1_coin, x1_knownFree, x1_isKnown) (x2_left, x2_earned, x2_turnCost, x2_turnWayless) (x3_edgeA, x3_edgeB, x3_edgeCost, x3_edgeLine, x3_change, x3_away, x3_steps, x3_nodes, x3_stepCount, x3_open, x3_openCount, x3_seen, x3_edgeCount, x3_aim) p1 p2 = some (er, A6)) (eqB : fX7_cheapest n (m_shelf, m_rowSort, m_rowSize, m_rows, m_moved, m_shown, m_tape, m_tapeSize, m_refused, m_lines, m_line, m_changes, m_coins, m_goods, m_good, m_works, m_work, m_years, m_gone, m_spent, m_at, m_token, m_from, m_figures, m_fault, m_numbers, m_statements, m_left, m_far, m_tons, m_way, m_steps, m_met, m_queue, m_totals) p1 p2 = some (fr, B6)) : er = fr := by
  obtain ⟨Tq, hT⟩ := Tz_ex h_m_lines h_m_line h_m_changes h_m_coins
  obtain ⟨⟨z1, z2, z3, z4⟩, z5, z6, z7, z8, z9, z10⟩ := hA
  have hE : EdL x1_lineCount.toNatClampNeg (ro 7 x1_lines) x1_change x1_coin = EdL m_lines.toNatClampNeg m_line m_changes m_coins := by
    rw [← z1]
    exact EdL_congr z5 z8 z9
  have hT2 : Tz (EdL x1_lineCount.toNatClampNeg (ro 7 x1_lines) x1_change x1_coin) Tq := by rw [hE]; exact hT
  have a := (cheapestC hn h_x1_lineCount h_x1_goodsCount h_x1_workCount h_x1_years h_x1_lines h_x1_goods h_x1_works h_x1_change h_x1_coin h_x3_edgeA h_x3_edgeB h_x3_edgeLine h_x3_steps h_x3_nodes h_x3_stepCount h_x3_open h_x3_openCount h_x3_edgeCount hT2).at eqA
  have b := (cheapestR hn h_m_shelf h_m_rowSize h_m_tapeSize h_m_lines h_m_line h_m_changes h_m_coins h_m_goods h_m_good h_m_works h_m_work h_m_years h_m_from h_m_far h_m_way h_m_steps h_m_queue hT).at eqB
  rcases AP_eq a b with ⟨a1, b1⟩ | ⟨e, _, _⟩
  · exact ChV_eq a1 b1
  · exact e

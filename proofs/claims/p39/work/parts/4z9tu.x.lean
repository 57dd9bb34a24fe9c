section
/-! what lineOf, goodsOf, workOf, free, first, worth answer -/
theorem hasGoodsS {x0_lineCount : Int32} {x0_goodsCount : Int32} {x0_workCount : Int32} {x0_years : Int32} {x0_lines : (Nat → Int32)} {x0_goods : (Nat → Int32)} {x0_works : (Nat → Int32)} {x0_change : (Nat → Int32)} {x0_coin : (Nat → Int32)} {x0_knownFree : (Nat → Int32)} {x0_isKnown : Int32} {p1 : Int32} : Sf (fX1_hasGoods (x0_lineCount, x0_goodsCount, x0_workCount, x0_years, x0_lines, x0_goods, x0_works, x0_change, x0_coin, x0_knownFree, x0_isKnown) p1) (fun r => (r = 1 ∧ 0 ≤ p1 ∧ p1 ≤ x0_goodsCount - 1) ∨ (r = 0 ∧ (p1 < 0 ∨ x0_goodsCount - 1 < p1))) := by
  unfold fX1_hasGoods
  dsimp only [u11]
  refine Sf.bind sX6_within (fun v h => ?_)
  exact Sf.zbb (by rcases h with h | h; exact Or.inr h.1; exact Or.inl h.1) (fun r e => Sf.ok (by rw [e]; exact h))
theorem LineOfC {x0_refused : (Nat → Int32)} {x0_isKept : Int32} {x0_gone : Int32} {x0_spent : Int32} {x1_lineCount : Int32} {x1_goodsCount : Int32} {x1_workCount : Int32} {x1_years : Int32} {x1_lines : (Nat → Int32)} {x1_goods : (Nat → Int32)} {x1_works : (Nat → Int32)} {x1_change : (Nat → Int32)} {x1_coin : (Nat → Int32)} {x1_knownFree : (Nat → Int32)} {x1_isKnown : Int32} {p1 p2 : Int32} (h_x1_lineCount : (0 ≤ x1_lineCount ∧ x1_lineCount ≤ 20)) (h_x1_goodsCount : (0 ≤ x1_goodsCount ∧ x1_goodsCount ≤ 8)) (h_x1_workCount : (0 ≤ x1_workCount ∧ x1_workCount ≤ 7)) (h_x1_years : (1 ≤ x1_years ∧ x1_years ≤ 30)) (h_x1_lines : (LnOk x1_lines)) (h_x1_goods : (GdOk x1_goods)) (h_x1_works : (WkOk x1_works)) (h_x1_change : (AI 0 99 x1_change)) (h_x1_coin : (AI 0 9 x1_coin)) : Sf (fX6_lineOf (x0_refused, x0_isKept, x0_gone, x0_spent) (x1_lineCount, x1_goodsCount, x1_workCount, x1_years, x1_lines, x1_goods, x1_works, x1_change, x1_coin, x1_knownFree, x1_isKnown) p1 p2) (fun r => AP ((0 ≤ p1 ∧ p1 < x1_lineCount) ∧ (0 ≤ p2 ∧ p2 ≤ 6)) r.1 (((0 ≤ p1 ∧ p1 < x1_lineCount) ∧ (0 ≤ p2 ∧ p2 ≤ 6)) ∧ r.1 = ro 7 x1_lines p1.toNatClampNeg p2.toNatClampNeg) True) := by
  unfold fX6_lineOf
  dsimp only [u4, u11]
  have no : ¬ ((0 ≤ p1 ∧ p1 < x1_lineCount) ∧ (0 ≤ p2 ∧ p2 ≤ 6)) → Sf ((fX6_refuse (x0_refused, x0_isKept, x0_gone, x0_spent) (-2)).bind (u2 fun v g => some (v, g))) (fun r => AP ((0 ≤ p1 ∧ p1 < x1_lineCount) ∧ (0 ≤ p2 ∧ p2 ≤ 6)) r.1 (((0 ≤ p1 ∧ p1 < x1_lineCount) ∧ (0 ≤ p2 ∧ p2 ≤ 6)) ∧ r.1 = ro 7 x1_lines p1.toNatClampNeg p2.toNatClampNeg) True) := by
    intro hV
    refine Sf.bind refC ?_
    rintro ⟨v, g⟩ e
    exact Sf.ok (Or.inr ⟨hV, e, trivial⟩)
  refine Sf.bind hasLineS (fun v1 h1 => Sf.ite (fun hz => no (fun V => gd0 h1 hz ⟨V.1.1, by have h := V.1; have q := h_x1_lineCount; clear V no h1; grind⟩)) (fun hz => ?_))
  have c0 := gd1 h1 hz
  have c1 : 0 ≤ p1 ∧ p1 < x1_lineCount := ⟨c0.1, by have q := h_x1_lineCount; clear no h1; grind⟩
  refine Sf.bind sX6_within (fun v6 h6 => Sf.ite (fun hz => no (fun V => gd0 h6 hz V.2)) (fun hz => ?_))
  have c2 := gd1 h6 hz
  refine Sf.bind (ofLineV ⟨c1.1, Int32.lt_of_lt_of_le c1.2 h_x1_lineCount.2⟩ ⟨c2.1, Int32.lt_of_le_of_lt c2.2 (by decide)⟩) (fun v8 e8 => ?_)
  have hq : p2.toNatClampNeg < 7 := i32_lt (M := 7) (N := 7) rfl ⟨c2.1, Int32.lt_of_le_of_lt c2.2 (by decide)⟩
  have e8 : v8 = ro 7 x1_lines p1.toNatClampNeg p2.toNatClampNeg := by rw [e8, ro_eq hq]
  exact Sf.ok (Or.inl ⟨⟨c1, c2⟩, ⟨c1, c2⟩, e8⟩)
theorem LineOfR {x0_shelf : (Nat → Int32)} {x0_rowSort : (Nat → Int32)} {x0_rowSize : (Nat → Int32)} {x0_rows : (Nat → Nat → Int64)} {x0_moved : (Nat → Int64)} {x0_shown : (Nat → Int32)} {x0_tape : (Nat → Int32)} {x0_tapeSize : Int32} {x0_refused : (Nat → Int32)} {x0_lines : Int32} {x0_line : (Nat → Nat → Int32)} {x0_changes : (Nat → Int32)} {x0_coins : (Nat → Int32)} {x0_goods : Int32} {x0_good : (Nat → Nat → Int32)} {x0_works : Int32} {x0_work : (Nat → Nat → Int32)} {x0_years : Int32} {x0_gone : Int32} {x0_spent : Int32} {x0_at : Int32} {x0_token : Int32} {x0_from : Int32} {x0_figures : Int64} {x0_fault : Int32} {x0_numbers : (Nat → Int32)} {x0_statements : Int32} {x0_left : (Nat → Int32)} {x0_far : (Nat → Int32)} {x0_tons : Int32} {x0_way : (Nat → Int32)} {x0_steps : Int32} {x0_met : Int64} {x0_queue : (Nat → Int32)} {x0_totals : (Nat → Int32)} {p1 p2 : Int32} (h_x0_shelf : (AI 0 2 x0_shelf)) (h_x0_rowSize : (AI 0 40 x0_rowSize)) (h_x0_tapeSize : (0 ≤ x0_tapeSize ∧ x0_tapeSize ≤ 250)) (h_x0_lines : (0 ≤ x0_lines ∧ x0_lines ≤ 20)) (h_x0_line : (LnM x0_line)) (h_x0_changes : (AI 0 99 x0_changes)) (h_x0_coins : (AI 0 9 x0_coins)) (h_x0_goods : (0 ≤ x0_goods ∧ x0_goods ≤ 8)) (h_x0_good : (GdM x0_good)) (h_x0_works : (0 ≤ x0_works ∧ x0_works ≤ 7)) (h_x0_work : (WkM x0_work)) (h_x0_years : (1 ≤ x0_years ∧ x0_years ≤ 30)) (h_x0_from : (0 ≤ x0_from ∧ x0_from ≤ 250)) (h_x0_far : (AI 0 1000000000 x0_far)) (h_x0_way : (AI 0 22 x0_way)) (h_x0_steps : (0 ≤ x0_steps ∧ x0_steps ≤ 37)) (h_x0_queue : (AI 0 35 x0_queue)) : Sf (fX7_lineOf (x0_shelf, x0_rowSort, x0_rowSize, x0_rows, x0_moved, x0_shown, x0_tape, x0_tapeSize, x0_refused, x0_lines, x0_line, x0_changes, x0_coins, x0_goods, x0_good, x0_works, x0_work, x0_years, x0_gone, x0_spent, x0_at, x0_token, x0_from, x0_figures, x0_fault, x0_numbers, x0_statements, x0_left, x0_far, x0_tons, x0_way, x0_steps, x0_met, x0_queue, x0_totals) p1 p2) (fun r => AP ((0 ≤ p1 ∧ p1 < x0_lines) ∧ (0 ≤ p2 ∧ p2 ≤ 6)) r.1 (r.1 = x0_line p1.toNatClampNeg p2.toNatClampNeg) True) := by
  unfold fX7_lineOf
  dsimp only [u35]
  have no : ¬ ((0 ≤ p1 ∧ p1 < x0_lines) ∧ (0 ≤ p2 ∧ p2 ≤ 6)) → Sf ((fX7_refuse (x0_shelf, x0_rowSort, x0_rowSize, x0_rows, x0_moved, x0_shown, x0_tape, x0_tapeSize, x0_refused, x0_lines, x0_line, x0_changes, x0_coins, x0_goods, x0_good, x0_works, x0_work, x0_years, x0_gone, x0_spent, x0_at, x0_token, x0_from, x0_figures, x0_fault, x0_numbers, x0_statements, x0_left, x0_far, x0_tons, x0_way, x0_steps, x0_met, x0_queue, x0_totals) (-2)).bind (u2 fun v g => some (v, g))) (fun r => AP ((0 ≤ p1 ∧ p1 < x0_lines) ∧ (0 ≤ p2 ∧ p2 ≤ 6)) r.1 (r.1 = x0_line p1.toNatClampNeg p2.toNatClampNeg) True) := by
    intro hV
    refine Sf.bind (sX7_refuse h_x0_shelf h_x0_rowSize h_x0_tapeSize h_x0_lines h_x0_line h_x0_changes h_x0_coins h_x0_goods h_x0_good h_x0_works h_x0_work h_x0_years h_x0_from h_x0_far h_x0_way h_x0_steps h_x0_queue (by decide)) ?_
    rintro ⟨v, g⟩ e
    exact Sf.ok (Or.inr ⟨hV, e, trivial⟩)
  have isl : Sf (fX7_isLine (x0_shelf, x0_rowSort, x0_rowSize, x0_rows, x0_moved, x0_shown, x0_tape, x0_tapeSize, x0_refused, x0_lines, x0_line, x0_changes, x0_coins, x0_goods, x0_good, x0_works, x0_work, x0_years, x0_gone, x0_spent, x0_at, x0_token, x0_from, x0_figures, x0_fault, x0_numbers, x0_statements, x0_left, x0_far, x0_tons, x0_way, x0_steps, x0_met, x0_queue, x0_totals) p1) (fun r => (r = 1 ∧ 0 ≤ p1 ∧ p1 < x0_lines) ∨ (r = 0 ∧ ¬ (0 ≤ p1 ∧ p1 < x0_lines))) := sX7_isLine h_x0_shelf h_x0_rowSize h_x0_tapeSize h_x0_lines h_x0_line h_x0_changes h_x0_coins h_x0_goods h_x0_good h_x0_works h_x0_work h_x0_years h_x0_from h_x0_far h_x0_way h_x0_steps h_x0_queue
  refine Sf.bind isl (fun v1 h1 => Sf.ite (fun hz => no (fun V => ?_)) (fun hz => ?_))
  · rcases h1 with h1 | h1
    · rw [h1.1] at hz; exact absurd hz (by decide)
    · exact h1.2 V.1
  have c1 : 0 ≤ p1 ∧ p1 < x0_lines := by
    rcases h1 with h1 | h1
    · exact h1.2
    · exact absurd h1.1 hz
  refine Sf.bind (s_inq p2 0 6 (by decide) (by decide)) (fun v6 h6 => Sf.ite (fun hz => no (fun V => gd0 h6 hz V.2)) (fun hz => ?_))
  have c2 := gd1 h6 hz
  refine Sf.ckb 20 rfl ⟨c1.1, Int32.lt_of_lt_of_le c1.2 h_x0_lines.2⟩ (fun q11 e11 _ => ?_)
  refine Sf.rdb 7 rfl ⟨c2.1, Int32.lt_of_le_of_lt c2.2 (by decide)⟩ (fun v12 e12 => ?_)
  refine Sf.ok (Or.inl ⟨⟨c1, c2⟩, ?_⟩)
  show v12 = _
  rw [e12, e11]
theorem dLineOf {x0_refused : (Nat → Int32)} {x0_isKept : Int32} {x0_gone : Int32} {x0_spent : Int32} {x1_lineCount : Int32} {x1_goodsCount : Int32} {x1_workCount : Int32} {x1_years : Int32} {x1_lines : (Nat → Int32)} {x1_goods : (Nat → Int32)} {x1_works : (Nat → Int32)} {x1_change : (Nat → Int32)} {x1_coin : (Nat → Int32)} {x1_knownFree : (Nat → Int32)} {x1_isKnown : Int32} {m_shelf : (Nat → Int32)} {m_rowSort : (Nat → Int32)} {m_rowSize : (Nat → Int32)} {m_rows : (Nat → Nat → Int64)} {m_moved : (Nat → Int64)} {m_shown : (Nat → Int32)} {m_tape : (Nat → Int32)} {m_tapeSize : Int32} {m_refused : (Nat → Int32)} {m_lines : Int32} {m_line : (Nat → Nat → Int32)} {m_changes : (Nat → Int32)} {m_coins : (Nat → Int32)} {m_goods : Int32} {m_good : (Nat → Nat → Int32)} {m_works : Int32} {m_work : (Nat → Nat → Int32)} {m_years : Int32} {m_gone : Int32} {m_spent : Int32} {m_at : Int32} {m_token : Int32} {m_from : Int32} {m_figures : Int64} {m_fault : Int32} {m_numbers : (Nat → Int32)} {m_statements : Int32} {m_left : (Nat → Int32)} {m_far : (Nat → Int32)} {m_tons : Int32} {m_way : (Nat → Int32)} {m_steps : Int32} {m_met : Int64} {m_queue : (Nat → Int32)} {m_totals : (Nat → Int32)} {p1 p2 er fr : Int32} {e0 f0 : Nat → Int32} (h_x1_lineCount : (0 ≤ x1_lineCount ∧ x1_lineCount ≤ 20)) (h_x1_goodsCount : (0 ≤ x1_goodsCount ∧ x1_goodsCount ≤ 8)) (h_x1_workCount : (0 ≤ x1_workCount ∧ x1_workCount ≤ 7)) (h_x1_years : (1 ≤ x1_years ∧ x1_years ≤ 30)) (h_x1_lines : (LnOk x1_lines)) (h_x1_goods : (GdOk x1_goods)) (h_x1_works : (WkOk x1_works)) (h_x1_change : (AI 0 99 x1_change)) (h_x1_coin : (AI 0 9 x1_coin)) (h_m_shelf : (AI 0 2 m_shelf)) (h_m_rowSize : (AI 0 40 m_rowSize)) (h_m_tapeSize : (0 ≤ m_tapeSize ∧ m_tapeSize ≤ 250)) (h_m_lines : (0 ≤ m_lines ∧ m_lines ≤ 20)) (h_m_line : (LnM m_line)) (h_m_changes : (AI 0 99 m_changes)) (h_m_coins : (AI 0 9 m_coins)) (h_m_goods : (0 ≤ m_goods ∧ m_goods ≤ 8)) (h_m_good : (GdM m_good)) (h_m_works : (0 ≤ m_works ∧ m_works ≤ 7)) (h_m_work : (WkM m_work)) (h_m_years : (1 ≤ m_years ∧ m_years ≤ 30)) (h_m_from : (0 ≤ m_from ∧ m_from ≤ 250)) (h_m_far : (AI 0 1000000000 m_far)) (h_m_way : (AI 0 22 m_way)) (h_m_steps : (0 ≤ m_steps ∧ m_steps ≤ 37)) (h_m_queue : (AI 0 35 m_queue)) (hA : (LaD x1_lineCount x1_goodsCount x1_workCount x1_years x1_lines x1_goods x1_works x1_change x1_coin m_lines m_line m_changes m_coins m_goods m_good m_works m_work m_years)) (eqA : fX6_lineOf (x0_refused, x0_isKept, x0_gone, x0_spent) (x1_lineCount, x1_goodsCount, x1_workCount, x1_years, x1_lines, x1_goods, x1_works, x1_change, x1_coin, x1_knownFree, x1_isKnown) p1 p2 = some (er, e0)) (eqB : fX7_lineOf (m_shelf, m_rowSort, m_rowSize, m_rows, m_moved, m_shown, m_tape, m_tapeSize, m_refused, m_lines, m_line, m_changes, m_coins, m_goods, m_good, m_works, m_work, m_years, m_gone, m_spent, m_at, m_token, m_from, m_figures, m_fault, m_numbers, m_statements, m_left, m_far, m_tons, m_way, m_steps, m_met, m_queue, m_totals) p1 p2 = some (fr, f0)) : er = fr := by
  have a := (LineOfC h_x1_lineCount h_x1_goodsCount h_x1_workCount h_x1_years h_x1_lines h_x1_goods h_x1_works h_x1_change h_x1_coin).at eqA
  have b := (LineOfR h_m_shelf h_m_rowSize h_m_tapeSize h_m_lines h_m_line h_m_changes h_m_coins h_m_goods h_m_good h_m_works h_m_work h_m_years h_m_from h_m_far h_m_way h_m_steps h_m_queue).at eqB
  have ec : x1_lineCount = m_lines := hA.1.1
  rw [← ec] at b
  rcases AP_eq a b with ⟨⟨⟨c1, c2⟩, a1⟩, b1⟩ | ⟨e, _⟩
  · have hp : p1.toNatClampNeg < x1_lineCount.toNatClampNeg := by
      have x := i32_cl c1.1
      have y := i32_cl h_x1_lineCount.1
      have z := Int32.lt_iff_toInt_lt.mp c1.2
      omega
    have hq : p2.toNatClampNeg < 7 := i32_lt (M := 7) (N := 7) rfl ⟨c2.1, Int32.lt_of_le_of_lt c2.2 (by decide)⟩
    exact (a1.trans (hA.2.1 _ hp _ hq)).trans b1.symm
  · exact e
theorem GoodsOfC {x0_refused : (Nat → Int32)} {x0_isKept : Int32} {x0_gone : Int32} {x0_spent : Int32} {x1_lineCount : Int32} {x1_goodsCount : Int32} {x1_workCount : Int32} {x1_years : Int32} {x1_lines : (Nat → Int32)} {x1_goods : (Nat → Int32)} {x1_works : (Nat → Int32)} {x1_change : (Nat → Int32)} {x1_coin : (Nat → Int32)} {x1_knownFree : (Nat → Int32)} {x1_isKnown : Int32} {p1 p2 : Int32} (h_x1_lineCount : (0 ≤ x1_lineCount ∧ x1_lineCount ≤ 20)) (h_x1_goodsCount : (0 ≤ x1_goodsCount ∧ x1_goodsCount ≤ 8)) (h_x1_workCount : (0 ≤ x1_workCount ∧ x1_workCount ≤ 7)) (h_x1_years : (1 ≤ x1_years ∧ x1_years ≤ 30)) (h_x1_lines : (LnOk x1_lines)) (h_x1_goods : (GdOk x1_goods)) (h_x1_works : (WkOk x1_works)) (h_x1_change : (AI 0 99 x1_change)) (h_x1_coin : (AI 0 9 x1_coin)) : Sf (fX6_goodsOf (x0_refused, x0_isKept, x0_gone, x0_spent) (x1_lineCount, x1_goodsCount, x1_workCount, x1_years, x1_lines, x1_goods, x1_works, x1_change, x1_coin, x1_knownFree, x1_isKnown) p1 p2) (fun r => AP ((0 ≤ p1 ∧ p1 < x1_goodsCount) ∧ (0 ≤ p2 ∧ p2 ≤ 2)) r.1 (((0 ≤ p1 ∧ p1 < x1_goodsCount) ∧ (0 ≤ p2 ∧ p2 ≤ 2)) ∧ r.1 = ro 3 x1_goods p1.toNatClampNeg p2.toNatClampNeg) True) := by
  unfold fX6_goodsOf
  dsimp only [u4, u11]
  have no : ¬ ((0 ≤ p1 ∧ p1 < x1_goodsCount) ∧ (0 ≤ p2 ∧ p2 ≤ 2)) → Sf ((fX6_refuse (x0_refused, x0_isKept, x0_gone, x0_spent) (-2)).bind (u2 fun v g => some (v, g))) (fun r => AP ((0 ≤ p1 ∧ p1 < x1_goodsCount) ∧ (0 ≤ p2 ∧ p2 ≤ 2)) r.1 (((0 ≤ p1 ∧ p1 < x1_goodsCount) ∧ (0 ≤ p2 ∧ p2 ≤ 2)) ∧ r.1 = ro 3 x1_goods p1.toNatClampNeg p2.toNatClampNeg) True) := by
    intro hV
    refine Sf.bind refC ?_
    rintro ⟨v, g⟩ e
    exact Sf.ok (Or.inr ⟨hV, e, trivial⟩)
  refine Sf.bind hasGoodsS (fun v1 h1 => Sf.ite (fun hz => no (fun V => gd0 h1 hz ⟨V.1.1, by have h := V.1; have q := h_x1_goodsCount; clear V no h1; grind⟩)) (fun hz => ?_))
  have c0 := gd1 h1 hz
  have c1 : 0 ≤ p1 ∧ p1 < x1_goodsCount := ⟨c0.1, by have q := h_x1_goodsCount; clear no h1; grind⟩
  refine Sf.bind sX6_within (fun v6 h6 => Sf.ite (fun hz => no (fun V => gd0 h6 hz V.2)) (fun hz => ?_))
  have c2 := gd1 h6 hz
  refine Sf.bind (ofGoodsV ⟨c1.1, Int32.lt_of_lt_of_le c1.2 h_x1_goodsCount.2⟩ ⟨c2.1, Int32.lt_of_le_of_lt c2.2 (by decide)⟩) (fun v8 e8 => ?_)
  have hq : p2.toNatClampNeg < 3 := i32_lt (M := 3) (N := 3) rfl ⟨c2.1, Int32.lt_of_le_of_lt c2.2 (by decide)⟩
  have e8 : v8 = ro 3 x1_goods p1.toNatClampNeg p2.toNatClampNeg := by rw [e8, ro_eq hq]
  exact Sf.ok (Or.inl ⟨⟨c1, c2⟩, ⟨c1, c2⟩, e8⟩)
theorem GoodsOfR {x0_shelf : (Nat → Int32)} {x0_rowSort : (Nat → Int32)} {x0_rowSize : (Nat → Int32)} {x0_rows : (Nat → Nat → Int64)} {x0_moved : (Nat → Int64)} {x0_shown : (Nat → Int32)} {x0_tape : (Nat → Int32)} {x0_tapeSize : Int32} {x0_refused : (Nat → Int32)} {x0_lines : Int32} {x0_line : (Nat → Nat → Int32)} {x0_changes : (Nat → Int32)} {x0_coins : (Nat → Int32)} {x0_goods : Int32} {x0_good : (Nat → Nat → Int32)} {x0_works : Int32} {x0_work : (Nat → Nat → Int32)} {x0_years : Int32} {x0_gone : Int32} {x0_spent : Int32} {x0_at : Int32} {x0_token : Int32} {x0_from : Int32} {x0_figures : Int64} {x0_fault : Int32} {x0_numbers : (Nat → Int32)} {x0_statements : Int32} {x0_left : (Nat → Int32)} {x0_far : (Nat → Int32)} {x0_tons : Int32} {x0_way : (Nat → Int32)} {x0_steps : Int32} {x0_met : Int64} {x0_queue : (Nat → Int32)} {x0_totals : (Nat → Int32)} {p1 p2 : Int32} (h_x0_shelf : (AI 0 2 x0_shelf)) (h_x0_rowSize : (AI 0 40 x0_rowSize)) (h_x0_tapeSize : (0 ≤ x0_tapeSize ∧ x0_tapeSize ≤ 250)) (h_x0_lines : (0 ≤ x0_lines ∧ x0_lines ≤ 20)) (h_x0_line : (LnM x0_line)) (h_x0_changes : (AI 0 99 x0_changes)) (h_x0_coins : (AI 0 9 x0_coins)) (h_x0_goods : (0 ≤ x0_goods ∧ x0_goods ≤ 8)) (h_x0_good : (GdM x0_good)) (h_x0_works : (0 ≤ x0_works ∧ x0_works ≤ 7)) (h_x0_work : (WkM x0_work)) (h_x0_years : (1 ≤ x0_years ∧ x0_years ≤ 30)) (h_x0_from : (0 ≤ x0_from ∧ x0_from ≤ 250)) (h_x0_far : (AI 0 1000000000 x0_far)) (h_x0_way : (AI 0 22 x0_way)) (h_x0_steps : (0 ≤ x0_steps ∧ x0_steps ≤ 37)) (h_x0_queue : (AI 0 35 x0_queue)) : Sf (fX7_goodsOf (x0_shelf, x0_rowSort, x0_rowSize, x0_rows, x0_moved, x0_shown, x0_tape, x0_tapeSize, x0_refused, x0_lines, x0_line, x0_changes, x0_coins, x0_goods, x0_good, x0_works, x0_work, x0_years, x0_gone, x0_spent, x0_at, x0_token, x0_from, x0_figures, x0_fault, x0_numbers, x0_statements, x0_left, x0_far, x0_tons, x0_way, x0_steps, x0_met, x0_queue, x0_totals) p1 p2) (fun r => AP ((0 ≤ p1 ∧ p1 < x0_goods) ∧ (0 ≤ p2 ∧ p2 ≤ 2)) r.1 (r.1 = x0_good p1.toNatClampNeg p2.toNatClampNeg) True) := by
  unfold fX7_goodsOf
  dsimp only [u35]
  have no : ¬ ((0 ≤ p1 ∧ p1 < x0_goods) ∧ (0 ≤ p2 ∧ p2 ≤ 2)) → Sf ((fX7_refuse (x0_shelf, x0_rowSort, x0_rowSize, x0_rows, x0_moved, x0_shown, x0_tape, x0_tapeSize, x0_refused, x0_lines, x0_line, x0_changes, x0_coins, x0_goods, x0_good, x0_works, x0_work, x0_years, x0_gone, x0_spent, x0_at, x0_token, x0_from, x0_figures, x0_fault, x0_numbers, x0_statements, x0_left, x0_far, x0_tons, x0_way, x0_steps, x0_met, x0_queue, x0_totals) (-2)).bind (u2 fun v g => some (v, g))) (fun r => AP ((0 ≤ p1 ∧ p1 < x0_goods) ∧ (0 ≤ p2 ∧ p2 ≤ 2)) r.1 (r.1 = x0_good p1.toNatClampNeg p2.toNatClampNeg) True) := by
    intro hV
    refine Sf.bind (sX7_refuse h_x0_shelf h_x0_rowSize h_x0_tapeSize h_x0_lines h_x0_line h_x0_changes h_x0_coins h_x0_goods h_x0_good h_x0_works h_x0_work h_x0_years h_x0_from h_x0_far h_x0_way h_x0_steps h_x0_queue (by decide)) ?_
    rintro ⟨v, g⟩ e
    exact Sf.ok (Or.inr ⟨hV, e, trivial⟩)
  refine Sf.bind (s_inq p1 0 (x0_goods - 1) (by decide) rfl) (fun v1 h1 => Sf.ite (fun hz => no (fun V => gd0 h1 hz ⟨V.1.1, by have h := V.1; have q := h_x0_goods; clear V no h1; grind⟩)) (fun hz => ?_))
  have c0 := gd1 h1 hz
  have c1 : 0 ≤ p1 ∧ p1 < x0_goods := ⟨c0.1, by have q := h_x0_goods; clear no h1; grind⟩
  refine Sf.bind (s_inq p2 0 2 (by decide) (by decide)) (fun v6 h6 => Sf.ite (fun hz => no (fun V => gd0 h6 hz V.2)) (fun hz => ?_))
  have c2 := gd1 h6 hz
  refine Sf.ckb 8 rfl ⟨c1.1, Int32.lt_of_lt_of_le c1.2 h_x0_goods.2⟩ (fun q11 e11 _ => ?_)
  refine Sf.rdb 3 rfl ⟨c2.1, Int32.lt_of_le_of_lt c2.2 (by decide)⟩ (fun v12 e12 => ?_)
  refine Sf.ok (Or.inl ⟨⟨c1, c2⟩, ?_⟩)
  show v12 = _
  rw [e12, e11]
theorem dGoodsOf {x0_refused : (Nat → Int32)} {x0_isKept : Int32} {x0_gone : Int32} {x0_spent : Int32} {x1_lineCount : Int32} {x1_goodsCount : Int32} {x1_workCount : Int32} {x1_years : Int32} {x1_lines : (Nat → Int32)} {x1_goods : (Nat → Int32)} {x1_works : (Nat → Int32)} {x1_change : (Nat → Int32)} {x1_coin : (Nat → Int32)} {x1_knownFree : (Nat → Int32)} {x1_isKnown : Int32} {m_shelf : (Nat → Int32)} {m_rowSort : (Nat → Int32)} {m_rowSize : (Nat → Int32)} {m_rows : (Nat → Nat → Int64)} {m_moved : (Nat → Int64)} {m_shown : (Nat → Int32)} {m_tape : (Nat → Int32)} {m_tapeSize : Int32} {m_refused : (Nat → Int32)} {m_lines : Int32} {m_line : (Nat → Nat → Int32)} {m_changes : (Nat → Int32)} {m_coins : (Nat → Int32)} {m_goods : Int32} {m_good : (Nat → Nat → Int32)} {m_works : Int32} {m_work : (Nat → Nat → Int32)} {m_years : Int32} {m_gone : Int32} {m_spent : Int32} {m_at : Int32} {m_token : Int32} {m_from : Int32} {m_figures : Int64} {m_fault : Int32} {m_numbers : (Nat → Int32)} {m_statements : Int32} {m_left : (Nat → Int32)} {m_far : (Nat → Int32)} {m_tons : Int32} {m_way : (Nat → Int32)} {m_steps : Int32} {m_met : Int64} {m_queue : (Nat → Int32)} {m_totals : (Nat → Int32)} {p1 p2 er fr : Int32} {e0 f0 : Nat → Int32} (h_x1_lineCount : (0 ≤ x1_lineCount ∧ x1_lineCount ≤ 20)) (h_x1_goodsCount : (0 ≤ x1_goodsCount ∧ x1_goodsCount ≤ 8)) (h_x1_workCount : (0 ≤ x1_workCount ∧ x1_workCount ≤ 7)) (h_x1_years : (1 ≤ x1_years ∧ x1_years ≤ 30)) (h_x1_lines : (LnOk x1_lines)) (h_x1_goods : (GdOk x1_goods)) (h_x1_works : (WkOk x1_works)) (h_x1_change : (AI 0 99 x1_change)) (h_x1_coin : (AI 0 9 x1_coin)) (h_m_shelf : (AI 0 2 m_shelf)) (h_m_rowSize : (AI 0 40 m_rowSize)) (h_m_tapeSize : (0 ≤ m_tapeSize ∧ m_tapeSize ≤ 250)) (h_m_lines : (0 ≤ m_lines ∧ m_lines ≤ 20)) (h_m_line : (LnM m_line)) (h_m_changes : (AI 0 99 m_changes)) (h_m_coins : (AI 0 9 m_coins)) (h_m_goods : (0 ≤ m_goods ∧ m_goods ≤ 8)) (h_m_good : (GdM m_good)) (h_m_works : (0 ≤ m_works ∧ m_works ≤ 7)) (h_m_work : (WkM m_work)) (h_m_years : (1 ≤ m_years ∧ m_years ≤ 30)) (h_m_from : (0 ≤ m_from ∧ m_from ≤ 250)) (h_m_far : (AI 0 1000000000 m_far)) (h_m_way : (AI 0 22 m_way)) (h_m_steps : (0 ≤ m_steps ∧ m_steps ≤ 37)) (h_m_queue : (AI 0 35 m_queue)) (hA : (LaD x1_lineCount x1_goodsCount x1_workCount x1_years x1_lines x1_goods x1_works x1_change x1_coin m_lines m_line m_changes m_coins m_goods m_good m_works m_work m_years)) (eqA : fX6_goodsOf (x0_refused, x0_isKept, x0_gone, x0_spent) (x1_lineCount, x1_goodsCount, x1_workCount, x1_years, x1_lines, x1_goods, x1_works, x1_change, x1_coin, x1_knownFree, x1_isKnown) p1 p2 = some (er, e0)) (eqB : fX7_goodsOf (m_shelf, m_rowSort, m_rowSize, m_rows, m_moved, m_shown, m_tape, m_tapeSize, m_refused, m_lines, m_line, m_changes, m_coins, m_goods, m_good, m_works, m_work, m_years, m_gone, m_spent, m_at, m_token, m_from, m_figures, m_fault, m_numbers, m_statements, m_left, m_far, m_tons, m_way, m_steps, m_met, m_queue, m_totals) p1 p2 = some (fr, f0)) : er = fr := by
  have a := (GoodsOfC h_x1_lineCount h_x1_goodsCount h_x1_workCount h_x1_years h_x1_lines h_x1_goods h_x1_works h_x1_change h_x1_coin).at eqA
  have b := (GoodsOfR h_m_shelf h_m_rowSize h_m_tapeSize h_m_lines h_m_line h_m_changes h_m_coins h_m_goods h_m_good h_m_works h_m_work h_m_years h_m_from h_m_far h_m_way h_m_steps h_m_queue).at eqB
  have ec : x1_goodsCount = m_goods := hA.1.2.1
  rw [← ec] at b
  rcases AP_eq a b with ⟨⟨⟨c1, c2⟩, a1⟩, b1⟩ | ⟨e, _⟩
  · have hp : p1.toNatClampNeg < x1_goodsCount.toNatClampNeg := by
      have x := i32_cl c1.1
      have y := i32_cl h_x1_goodsCount.1
      have z := Int32.lt_iff_toInt_lt.mp c1.2
      omega
    have hq : p2.toNatClampNeg < 3 := i32_lt (M := 3) (N := 3) rfl ⟨c2.1, Int32.lt_of_le_of_lt c2.2 (by decide)⟩
    exact (a1.trans (hA.2.2.1 _ hp _ hq)).trans b1.symm
  · exact e
theorem WorkOfC {x0_refused : (Nat → Int32)} {x0_isKept : Int32} {x0_gone : Int32} {x0_spent : Int32} {x1_lineCount : Int32} {x1_goodsCount : Int32} {x1_workCount : Int32} {x1_years : Int32} {x1_lines : (Nat → Int32)} {x1_goods : (Nat → Int32)} {x1_works : (Nat → Int32)} {x1_change : (Nat → Int32)} {x1_coin : (Nat → Int32)} {x1_knownFree : (Nat → Int32)} {x1_isKnown : Int32} {p1 p2 : Int32} (h_x1_lineCount : (0 ≤ x1_lineCount ∧ x1_lineCount ≤ 20)) (h_x1_goodsCount : (0 ≤ x1_goodsCount ∧ x1_goodsCount ≤ 8)) (h_x1_workCount : (0 ≤ x1_workCount ∧ x1_workCount ≤ 7)) (h_x1_years : (1 ≤ x1_years ∧ x1_years ≤ 30)) (h_x1_lines : (LnOk x1_lines)) (h_x1_goods : (GdOk x1_goods)) (h_x1_works : (WkOk x1_works)) (h_x1_change : (AI 0 99 x1_change)) (h_x1_coin : (AI 0 9 x1_coin)) : Sf (fX6_workOf (x0_refused, x0_isKept, x0_gone, x0_spent) (x1_lineCount, x1_goodsCount, x1_workCount, x1_years, x1_lines, x1_goods, x1_works, x1_change, x1_coin, x1_knownFree, x1_isKnown) p1 p2) (fun r => AP ((0 ≤ p1 ∧ p1 < x1_workCount) ∧ (0 ≤ p2 ∧ p2 ≤ 4)) r.1 (((0 ≤ p1 ∧ p1 < x1_workCount) ∧ (0 ≤ p2 ∧ p2 ≤ 4)) ∧ r.1 = ro 5 x1_works p1.toNatClampNeg p2.toNatClampNeg) True) := by
  unfold fX6_workOf
  dsimp only [u4, u11]
  have no : ¬ ((0 ≤ p1 ∧ p1 < x1_workCount) ∧ (0 ≤ p2 ∧ p2 ≤ 4)) → Sf ((fX6_refuse (x0_refused, x0_isKept, x0_gone, x0_spent) (-2)).bind (u2 fun v g => some (v, g))) (fun r => AP ((0 ≤ p1 ∧ p1 < x1_workCount) ∧ (0 ≤ p2 ∧ p2 ≤ 4)) r.1 (((0 ≤ p1 ∧ p1 < x1_workCount) ∧ (0 ≤ p2 ∧ p2 ≤ 4)) ∧ r.1 = ro 5 x1_works p1.toNatClampNeg p2.toNatClampNeg) True) := by
    intro hV
    refine Sf.bind refC ?_
    rintro ⟨v, g⟩ e
    exact Sf.ok (Or.inr ⟨hV, e, trivial⟩)
  refine Sf.bind hasWorkS (fun v1 h1 => Sf.ite (fun hz => no (fun V => gd0 h1 hz ⟨V.1.1, by have h := V.1; have q := h_x1_workCount; clear V no h1; grind⟩)) (fun hz => ?_))
  have c0 := gd1 h1 hz
  have c1 : 0 ≤ p1 ∧ p1 < x1_workCount := ⟨c0.1, by have q := h_x1_workCount; clear no h1; grind⟩
  refine Sf.bind sX6_within (fun v6 h6 => Sf.ite (fun hz => no (fun V => gd0 h6 hz V.2)) (fun hz => ?_))
  have c2 := gd1 h6 hz
  have hp6 : 0 ≤ p1 ∧ p1 ≤ 6 := ⟨c1.1, by have q := h_x1_workCount; clear no h1 h6; grind⟩
  refine Sf.bind (ofWorkV h_x1_works hp6 ⟨c2.1, Int32.lt_of_le_of_lt c2.2 (by decide)⟩) (fun v8 e8 => ?_)
  exact Sf.ok (Or.inl ⟨⟨c1, c2⟩, ⟨c1, c2⟩, e8⟩)
theorem WorkOfR {x0_shelf : (Nat → Int32)} {x0_rowSort : (Nat → Int32)} {x0_rowSize : (Nat → Int32)} {x0_rows : (Nat → Nat → Int64)} {x0_moved : (Nat → Int64)} {x0_shown : (Nat → Int32)} {x0_tape : (Nat → Int32)} {x0_tapeSize : Int32} {x0_refused : (Nat → Int32)} {x0_lines : Int32} {x0_line : (Nat → Nat → Int32)} {x0_changes : (Nat → Int32)} {x0_coins : (Nat → Int32)} {x0_goods : Int32} {x0_good : (Nat → Nat → Int32)} {x0_works : Int32} {x0_work : (Nat → Nat → Int32)} {x0_years : Int32} {x0_gone : Int32} {x0_spent : Int32} {x0_at : Int32} {x0_token : Int32} {x0_from : Int32} {x0_figures : Int64} {x0_fault : Int32} {x0_numbers : (Nat → Int32)} {x0_statements : Int32} {x0_left : (Nat → Int32)} {x0_far : (Nat → Int32)} {x0_tons : Int32} {x0_way : (Nat → Int32)} {x0_steps : Int32} {x0_met : Int64} {x0_queue : (Nat → Int32)} {x0_totals : (Nat → Int32)} {p1 p2 : Int32} (h_x0_shelf : (AI 0 2 x0_shelf)) (h_x0_rowSize : (AI 0 40 x0_rowSize)) (h_x0_tapeSize : (0 ≤ x0_tapeSize ∧ x0_tapeSize ≤ 250)) (h_x0_lines : (0 ≤ x0_lines ∧ x0_lines ≤ 20)) (h_x0_line : (LnM x0_line)) (h_x0_changes : (AI 0 99 x0_changes)) (h_x0_coins : (AI 0 9 x0_coins)) (h_x0_goods : (0 ≤ x0_goods ∧ x0_goods ≤ 8)) (h_x0_good : (GdM x0_good)) (h_x0_works : (0 ≤ x0_works ∧ x0_works ≤ 7)) (h_x0_work : (WkM x0_work)) (h_x0_years : (1 ≤ x0_years ∧ x0_years ≤ 30)) (h_x0_from : (0 ≤ x0_from ∧ x0_from ≤ 250)) (h_x0_far : (AI 0 1000000000 x0_far)) (h_x0_way : (AI 0 22 x0_way)) (h_x0_steps : (0 ≤ x0_steps ∧ x0_steps ≤ 37)) (h_x0_queue : (AI 0 35 x0_queue)) : Sf (fX7_workOf (x0_shelf, x0_rowSort, x0_rowSize, x0_rows, x0_moved, x0_shown, x0_tape, x0_tapeSize, x0_refused, x0_lines, x0_line, x0_changes, x0_coins, x0_goods, x0_good, x0_works, x0_work, x0_years, x0_gone, x0_spent, x0_at, x0_token, x0_from, x0_figures, x0_fault, x0_numbers, x0_statements, x0_left, x0_far, x0_tons, x0_way, x0_steps, x0_met, x0_queue, x0_totals) p1 p2) (fun r => AP ((0 ≤ p1 ∧ p1 < x0_works) ∧ (0 ≤ p2 ∧ p2 ≤ 4)) r.1 (r.1 = x0_work p1.toNatClampNeg p2.toNatClampNeg) True) := by
  unfold fX7_workOf
  dsimp only [u35]
  have no : ¬ ((0 ≤ p1 ∧ p1 < x0_works) ∧ (0 ≤ p2 ∧ p2 ≤ 4)) → Sf ((fX7_refuse (x0_shelf, x0_rowSort, x0_rowSize, x0_rows, x0_moved, x0_shown, x0_tape, x0_tapeSize, x0_refused, x0_lines, x0_line, x0_changes, x0_coins, x0_goods, x0_good, x0_works, x0_work, x0_years, x0_gone, x0_spent, x0_at, x0_token, x0_from, x0_figures, x0_fault, x0_numbers, x0_statements, x0_left, x0_far, x0_tons, x0_way, x0_steps, x0_met, x0_queue, x0_totals) (-2)).bind (u2 fun v g => some (v, g))) (fun r => AP ((0 ≤ p1 ∧ p1 < x0_works) ∧ (0 ≤ p2 ∧ p2 ≤ 4)) r.1 (r.1 = x0_work p1.toNatClampNeg p2.toNatClampNeg) True) := by
    intro hV
    refine Sf.bind (sX7_refuse h_x0_shelf h_x0_rowSize h_x0_tapeSize h_x0_lines h_x0_line h_x0_changes h_x0_coins h_x0_goods h_x0_good h_x0_works h_x0_work h_x0_years h_x0_from h_x0_far h_x0_way h_x0_steps h_x0_queue (by decide)) ?_
    rintro ⟨v, g⟩ e
    exact Sf.ok (Or.inr ⟨hV, e, trivial⟩)
  have isl : Sf (fX7_isWork (x0_shelf, x0_rowSort, x0_rowSize, x0_rows, x0_moved, x0_shown, x0_tape, x0_tapeSize, x0_refused, x0_lines, x0_line, x0_changes, x0_coins, x0_goods, x0_good, x0_works, x0_work, x0_years, x0_gone, x0_spent, x0_at, x0_token, x0_from, x0_figures, x0_fault, x0_numbers, x0_statements, x0_left, x0_far, x0_tons, x0_way, x0_steps, x0_met, x0_queue, x0_totals) p1) (fun r => (r = 1 ∧ 0 ≤ p1 ∧ p1 < x0_works) ∨ (r = 0 ∧ ¬ (0 ≤ p1 ∧ p1 < x0_works))) := sX7_isWork h_x0_shelf h_x0_rowSize h_x0_tapeSize h_x0_lines h_x0_line h_x0_changes h_x0_coins h_x0_goods h_x0_good h_x0_works h_x0_work h_x0_years h_x0_from h_x0_far h_x0_way h_x0_steps h_x0_queue
  refine Sf.bind isl (fun v1 h1 => Sf.ite (fun hz => no (fun V => ?_)) (fun hz => ?_))
  · rcases h1 with h1 | h1
    · rw [h1.1] at hz; exact absurd hz (by decide)
    · exact h1.2 V.1
  have c1 : 0 ≤ p1 ∧ p1 < x0_works := by
    rcases h1 with h1 | h1
    · exact h1.2
    · exact absurd h1.1 hz
  refine Sf.bind (s_inq p2 0 4 (by decide) (by decide)) (fun v6 h6 => Sf.ite (fun hz => no (fun V => gd0 h6 hz V.2)) (fun hz => ?_))
  have c2 := gd1 h6 hz
  refine Sf.ckb 7 rfl ⟨c1.1, Int32.lt_of_lt_of_le c1.2 h_x0_works.2⟩ (fun q11 e11 _ => ?_)
  refine Sf.rdb 5 rfl ⟨c2.1, Int32.lt_of_le_of_lt c2.2 (by decide)⟩ (fun v12 e12 => ?_)
  refine Sf.ok (Or.inl ⟨⟨c1, c2⟩, ?_⟩)
  show v12 = _
  rw [e12, e11]
theorem dWorkOf {x0_refused : (Nat → Int32)} {x0_isKept : Int32} {x0_gone : Int32} {x0_spent : Int32} {x1_lineCount : Int32} {x1_goodsCount : Int32} {x1_workCount : Int32} {x1_years : Int32} {x1_lines : (Nat → Int32)} {x1_goods : (Nat → Int32)} {x1_works : (Nat → Int32)} {x1_change : (Nat → Int32)} {x1_coin : (Nat → Int32)} {x1_knownFree : (Nat → Int32)} {x1_isKnown : Int32} {m_shelf : (Nat → Int32)} {m_rowSort : (Nat → Int32)} {m_rowSize : (Nat → Int32)} {m_rows : (Nat → Nat → Int64)} {m_moved : (Nat → Int64)} {m_shown : (Nat → Int32)} {m_tape : (Nat → Int32)} {m_tapeSize : Int32} {m_refused : (Nat → Int32)} {m_lines : Int32} {m_line : (Nat → Nat → Int32)} {m_changes : (Nat → Int32)} {m_coins : (Nat → Int32)} {m_goods : Int32} {m_good : (Nat → Nat → Int32)} {m_works : Int32} {m_work : (Nat → Nat → Int32)} {m_years : Int32} {m_gone : Int32} {m_spent : Int32} {m_at : Int32} {m_token : Int32} {m_from : Int32} {m_figures : Int64} {m_fault : Int32} {m_numbers : (Nat → Int32)} {m_statements : Int32} {m_left : (Nat → Int32)} {m_far : (Nat → Int32)} {m_tons : Int32} {m_way : (Nat → Int32)} {m_steps : Int32} {m_met : Int64} {m_queue : (Nat → Int32)} {m_totals : (Nat → Int32)} {p1 p2 er fr : Int32} {e0 f0 : Nat → Int32} (h_x1_lineCount : (0 ≤ x1_lineCount ∧ x1_lineCount ≤ 20)) (h_x1_goodsCount : (0 ≤ x1_goodsCount ∧ x1_goodsCount ≤ 8)) (h_x1_workCount : (0 ≤ x1_workCount ∧ x1_workCount ≤ 7)) (h_x1_years : (1 ≤ x1_years ∧ x1_years ≤ 30)) (h_x1_lines : (LnOk x1_lines)) (h_x1_goods : (GdOk x1_goods)) (h_x1_works : (WkOk x1_works)) (h_x1_change : (AI 0 99 x1_change)) (h_x1_coin : (AI 0 9 x1_coin)) (h_m_shelf : (AI 0 2 m_shelf)) (h_m_rowSize : (AI 0 40 m_rowSize)) (h_m_tapeSize : (0 ≤ m_tapeSize ∧ m_tapeSize ≤ 250)) (h_m_lines : (0 ≤ m_lines ∧ m_lines ≤ 20)) (h_m_line : (LnM m_line)) (h_m_changes : (AI 0 99 m_changes)) (h_m_coins : (AI 0 9 m_coins)) (h_m_goods : (0 ≤ m_goods ∧ m_goods ≤ 8)) (h_m_good : (GdM m_good)) (h_m_works : (0 ≤ m_works ∧ m_works ≤ 7)) (h_m_work : (WkM m_work)) (h_m_years : (1 ≤ m_years ∧ m_years ≤ 30)) (h_m_from : (0 ≤ m_from ∧ m_from ≤ 250)) (h_m_far : (AI 0 1000000000 m_far)) (h_m_way : (AI 0 22 m_way)) (h_m_steps : (0 ≤ m_steps ∧ m_steps ≤ 37)) (h_m_queue : (AI 0 35 m_queue)) (hA : (LaD x1_lineCount x1_goodsCount x1_workCount x1_years x1_lines x1_goods x1_works x1_change x1_coin m_lines m_line m_changes m_coins m_goods m_good m_works m_work m_years)) (eqA : fX6_workOf (x0_refused, x0_isKept, x0_gone, x0_spent) (x1_lineCount, x1_goodsCount, x1_workCount, x1_years, x1_lines, x1_goods, x1_works, x1_change, x1_coin, x1_knownFree, x1_isKnown) p1 p2 = some (er, e0)) (eqB : fX7_workOf (m_shelf, m_rowSort, m_rowSize, m_rows, m_moved, m_shown, m_tape, m_tapeSize, m_refused, m_lines, m_line, m_changes, m_coins, m_goods, m_good, m_works, m_work, m_years, m_gone, m_spent, m_at, m_token, m_from, m_figures, m_fault, m_numbers, m_statements, m_left, m_far, m_tons, m_way, m_steps, m_met, m_queue, m_totals) p1 p2 = some (fr, f0)) : er = fr := by
  have a := (WorkOfC h_x1_lineCount h_x1_goodsCount h_x1_workCount h_x1_years h_x1_lines h_x1_goods h_x1_works h_x1_change h_x1_coin).at eqA
  have b := (WorkOfR h_m_shelf h_m_rowSize h_m_tapeSize h_m_lines h_m_line h_m_changes h_m_coins h_m_goods h_m_good h_m_works h_m_work h_m_years h_m_from h_m_far h_m_way h_m_steps h_m_queue).at eqB
  have ec : x1_workCount = m_works := hA.1.2.2.1
  rw [← ec] at b
  rcases AP_eq a b with ⟨⟨⟨c1, c2⟩, a1⟩, b1⟩ | ⟨e, _⟩
  · have hp : p1.toNatClampNeg < x1_workCount.toNatClampNeg := by
      have x := i32_cl c1.1
      have y := i32_cl h_x1_workCount.1
      have z := Int32.lt_iff_toInt_lt.mp c1.2
      omega
    have hq : p2.toNatClampNeg < 5 := i32_lt (M := 5) (N := 5) rfl ⟨c2.1, Int32.lt_of_le_of_lt c2.2 (by decide)⟩
    exact (a1.trans (hA.2.2.2.1 _ hp _ hq)).trans b1.symm
  · exact e
theorem dFree {n : Nat} {x0_refused : (Nat → Int32)} {x0_isKept : Int32} {x0_gone : Int32} {x0_spent : Int32} {x1_gained : Nat → Int32} {x2_lineCount : Int32} {x2_goodsCount : Int32} {x2_workCount : Int32} {x2_years : Int32} {x2_lines : (Nat → Int32)} {x2_goods : (Nat → Int32)} {x2_works : (Nat → Int32)} {x2_change : (Nat → Int32)} {x2_coin : (Nat → Int32)} {x2_knownFree : (Nat → Int32)} {x2_isKnown : Int32} {x3_lineCount : Int32} {x3_goodsCount : Int32} {x3_workCount : Int32} {x3_years : Int32} {x3_lines : (Nat → Int32)} {x3_goods : (Nat → Int32)} {x3_works : (Nat → Int32)} {x3_change : (Nat → Int32)} {x3_coin : (Nat → Int32)} {x3_knownFree : (Nat → Int32)} {x3_isKnown : Int32} {x4_left : (Nat → Int32)} {x4_earned : (Nat → Int32)} {x4_turnCost : Int32} {x4_turnWayless : Int32} {x5_edgeA : (Nat → Int32)} {x5_edgeB : (Nat → Int32)} {x5_edgeCost : (Nat → Int32)} {x5_edgeLine : (Nat → Int32)} {x5_change : (Nat → Int32)} {x5_away : (Nat → Int32)} {x5_steps : (Nat → Int32)} {x5_nodes : (Nat → Int32)} {x5_stepCount : Int32} {x5_open : (Nat → Int32)} {x5_openCount : Int32} {x5_seen : Int64} {x5_edgeCount : Int32} {x5_aim : Int32} {m_shelf : (Nat → Int32)} {m_rowSort : (Nat → Int32)} {m_rowSize : (Nat → Int32)} {m_rows : (Nat → Nat → Int64)} {m_moved : (Nat → Int64)} {m_shown : (Nat → Int32)} {m_tape : (Nat → Int32)} {m_tapeSize : Int32} {m_refused : (Nat → Int32)} {m_lines : Int32} {m_line : (Nat → Nat → Int32)} {m_changes : (Nat → Int32)} {m_coins : (Nat → Int32)} {m_goods : Int32} {m_good : (Nat → Nat → Int32)} {m_works : Int32} {m_work : (Nat → Nat → Int32)} {m_years : Int32} {m_gone : Int32} {m_spent : Int32} {m_at : Int32} {m_token : Int32} {m_from : Int32} {m_figures : Int64} {m_fault : Int32} {m_numbers : (Nat → Int32)} {m_statements : Int32} {m_left : (Nat → Int32)} {m_far : (Nat → Int32)} {m_tons : Int32} {m_way : (Nat → Int32)} {m_steps : Int32} {m_met : Int64} {m_queue : (Nat → Int32)} {m_totals : (Nat → Int32)} {A6 : Int32 × (Int32 × Int32 × Int32 × Int32 × (Nat → Int32) × (Nat → Int32) × (Nat → Int32) × (Nat → Int32) × (Nat → Int32) × Int32) × (Int32 × (Nat → Int32) × (Nat → Int32) × (Nat → Int32) × Int32) × ((Nat → Int32) × (Nat → Int32) × (Nat → Int32) × (Nat → Int32) × (Nat → Int32) × (Nat → Int32) × Int32 × Int32)} {B6 : Int32 × (Nat → Int32) × (Nat → Int32) × Int32} (hn : 1000000000000 ≤ n) (h_x2_lineCount : (0 ≤ x2_lineCount ∧ x2_lineCount ≤ 20)) (h_x2_goodsCount : (0 ≤ x2_goodsCount ∧ x2_goodsCount ≤ 8)) (h_x2_workCount : (0 ≤ x2_workCount ∧ x2_workCount ≤ 7)) (h_x2_years : (1 ≤ x2_years ∧ x2_years ≤ 30)) (h_x2_lines : (LnOk x2_lines)) (h_x2_goods : (GdOk x2_goods)) (h_x2_works : (WkOk x2_works)) (h_x2_change : (AI 0 99 x2_change)) (h_x2_coin : (AI 0 9 x2_coin)) (h_x3_lineCount : (0 ≤ x3_lineCount ∧ x3_lineCount ≤ 20)) (h_x3_goodsCount : (0 ≤ x3_goodsCount ∧ x3_goodsCount ≤ 8)) (h_x3_workCount : (0 ≤ x3_workCount ∧ x3_workCount ≤ 7)) (h_x3_years : (1 ≤ x3_years ∧ x3_years ≤ 30)) (h_x3_lines : (LnOk x3_lines)) (h_x3_goods : (GdOk x3_goods)) (h_x3_works : (WkOk x3_works)) (h_x3_change : (AI 0 99 x3_change)) (h_x3_coin : (AI 0 9 x3_coin)) (h_x5_edgeA : (AI 0 35 x5_edgeA)) (h_x5_edgeB : (AI 0 35 x5_edgeB)) (h_x5_edgeLine : (AI 0 19 x5_edgeLine)) (h_x5_steps : (AI 0 22 x5_steps)) (h_x5_nodes : (AI 0 35 x5_nodes)) (h_x5_stepCount : (0 ≤ x5_stepCount ∧ x5_stepCount ≤ 36)) (h_x5_open : (AI 0 35 x5_open)) (h_x5_openCount : (0 ≤ x5_openCount ∧ x5_openCount ≤ 36)) (h_x5_edgeCount : (0 ≤ x5_edgeCount ∧ x5_edgeCount ≤ 60)) (h_m_shelf : (AI 0 2 m_shelf)) (h_m_rowSize : (AI 0 40 m_rowSize)) (h_m_tapeSize : (0 ≤ m_tapeSize ∧ m_tapeSize ≤ 250)) (h_m_lines : (0 ≤ m_lines ∧ m_lines ≤ 20)) (h_m_line : (LnM m_line)) (h_m_changes : (AI 0 99 m_changes)) (h_m_coins : (AI 0 9 m_coins)) (h_m_goods : (0 ≤ m_goods ∧ m_goods ≤ 8)) (h_m_good : (GdM m_good)) (h_m_works : (0 ≤ m_works ∧ m_works ≤ 7)) (h_m_work : (WkM m_work)) (h_m_years : (1 ≤ m_years ∧ m_years ≤ 30)) (h_m_from : (0 ≤ m_from ∧ m_from ≤ 250)) (h_m_far : (AI 0 1000000000 m_far)) (h_m_way : (AI 0 22 m_way)) (h_m_steps : (0 ≤ m_steps ∧ m_steps ≤ 37)) (h_m_queue : (AI 0 35 m_queue)) (hA : (LaD x3_lineCount x3_goodsCount x3_workCount x3_years x3_lines x3_goods x3_works x3_change x3_coin m_lines m_line m_changes m_coins m_goods m_good m_works m_work m_years)) (hk : Kn (FrS x3_lineCount (ro 7 x3_lines) x3_change x3_coin (ro 3 x3_goods) x3_goodsCount (ro 5 x3_works) x3_workCount) x3_knownFree x3_isKnown) (eqA : fX6_free n (x0_refused, x0_isKept, x0_gone, x0_spent) x1_gained (x2_lineCount, x2_goodsCount, x2_workCount, x2_years, x2_lines, x2_goods, x2_works, x2_change, x2_coin, x2_knownFree, x2_isKnown) (x3_lineCount, x3_goodsCount, x3_workCount, x3_years, x3_lines, x3_goods, x3_works, x3_change, x3_coin, x3_knownFree, x3_isKnown) (x4_left, x4_earned, x4_turnCost, x4_turnWayless) (x5_edgeA, x5_edgeB, x5_edgeCost, x5_edgeLine, x5_change, x5_away, x5_steps, x5_nodes, x5_stepCount, x5_open, x5_openCount, x5_seen, x5_edgeCount, x5_aim) = some A6) (eqB : fX7_free n (m_shelf, m_rowSort, m_rowSize, m_rows, m_moved, m_shown, m_tape, m_tapeSize, m_refused, m_lines, m_line, m_changes, m_coins, m_goods, m_good, m_works, m_work, m_years, m_gone, m_spent, m_at, m_token, m_from, m_figures, m_fault, m_numbers, m_statements, m_left, m_far, m_tons, m_way, m_steps, m_met, m_queue, m_totals) = some B6) : A6.1 = B6.1 := by
  have a := ((kFree hn h_x2_lineCount h_x2_goodsCount h_x2_workCount h_x2_years h_x2_lines h_x2_goods h_x2_works h_x2_change h_x2_coin h_x3_lineCount h_x3_goodsCount h_x3_workCount h_x3_years h_x3_lines h_x3_goods h_x3_works h_x3_change h_x3_coin h_x5_edgeA h_x5_edgeB h_x5_edgeLine h_x5_steps h_x5_nodes h_x5_stepCount h_x5_open h_x5_openCount h_x5_edgeCount hA.2.2.2.2.2.2 hk).at eqA).1
  have b := (freeR hn h_m_shelf h_m_rowSize h_m_tapeSize h_m_lines h_m_line h_m_changes h_m_coins h_m_goods h_m_good h_m_works h_m_work h_m_years h_m_from h_m_far h_m_way h_m_steps h_m_queue).at eqB
  obtain ⟨⟨z1, z2, z3, z4⟩, z5, z6, z7, z8, z9, z10⟩ := id hA
  have q := FrA_congr (G := x3_goodsCount) hA.s.1 z9 z6
  rw [a, b, q, z2]
  rfl
theorem dFirst {n : Nat} {x0_refused : (Nat → Int32)} {x0_isKept : Int32} {x0_gone : Int32} {x0_spent : Int32} {x1_gained : Nat → Int32} {x2_lineCount : Int32} {x2_goodsCount : Int32} {x2_workCount : Int32} {x2_years : Int32} {x2_lines : (Nat → Int32)} {x2_goods : (Nat → Int32)} {x2_works : (Nat → Int32)} {x2_change : (Nat → Int32)} {x2_coin : (Nat → Int32)} {x2_knownFree : (Nat → Int32)} {x2_isKnown : Int32} {x3_lineCount : Int32} {x3_goodsCount : Int32} {x3_workCount : Int32} {x3_years : Int32} {x3_lines : (Nat → Int32)} {x3_goods : (Nat → Int32)} {x3_works : (Nat → Int32)} {x3_change : (Nat → Int32)} {x3_coin : (Nat → Int32)} {x3_knownFree : (Nat → Int32)} {x3_isKnown : Int32} {x4_left : (Nat → Int32)} {x4_earned : (Nat → Int32)} {x4_turnCost : Int32} {x4_turnWayless : Int32} {x5_edgeA : (Nat → Int32)} {x5_edgeB : (Nat → Int32)} {x5_edgeCost : (Nat → Int32)} {x5_edgeLine : (Nat → Int32)} {x5_change : (Nat → Int32)} {x5_away : (Nat → Int32)} {x5_steps : (Nat → Int32)} {x5_nodes : (Nat → Int32)} {x5_stepCount : Int32} {x5_open : (Nat → Int32)} {x5_openCount : Int32} {x5_seen : Int64} {x5_edgeCount : Int32} {x5_aim : Int32} {m_shelf : (Nat → Int32)} {m_rowSort : (Nat → Int32)} {m_rowSize : (Nat → Int32)} {m_rows : (Nat → Nat → Int64)} {m_moved : (Nat → Int64)} {m_shown : (Nat → Int32)} {m_tape : (Nat → Int32)} {m_tapeSize : Int32} {m_refused : (Nat → Int32)} {m_lines : Int32} {m_line : (Nat → Nat → Int32)} {m_changes : (Nat → Int32)} {m_coins : (Nat → Int32)} {m_goods : Int32} {m_good : (Nat → Nat → Int32)} {m_works : Int32} {m_work : (Nat → Nat → Int32)} {m_years : Int32} {m_gone : Int32} {m_spent : Int32} {m_at : Int32} {m_token : Int32} {m_from : Int32} {m_figures : Int64} {m_fault : Int32} {m_numbers : (Nat → Int32)} {m_statements : Int32} {m_left : (Nat → Int32)} {m_far : (Nat → Int32)} {m_tons : Int32} {m_way : (Nat → Int32)} {m_steps : Int32} {m_met : Int64} {m_queue : (Nat → Int32)} {m_totals : (Nat → Int32)} {t_shelf : (Nat → Int32)} {t_rowSort : (Nat → Int32)} {t_rowSize : (Nat → Int32)} {t_rows : (Nat → Nat → Int64)} {t_moved : (Nat → Int64)} {t_shown : (Nat → Int32)} {t_tape : (Nat → Int32)} {t_tapeSize : Int32} {t_refused : (Nat → Int32)} {t_lines : Int32} {t_line : (Nat → Nat → Int32)} {t_changes : (Nat → Int32)} {t_coins : (Nat → Int32)} {t_goods : Int32} {t_good : (Nat → Nat → Int32)} {t_works : Int32} {t_work : (Nat → Nat → Int32)} {t_years : Int32} {t_gone : Int32} {t_spent : Int32} {t_at : Int32} {t_token : Int32} {t_from : Int32} {t_figures : Int64} {t_fault : Int32} {t_numbers : (Nat → Int32)} {t_statements : Int32} {t_left : (Nat → Int32)} {t_far : (Nat → Int32)} {t_tons : Int32} {t_way : (Nat → Int32)} {t_steps : Int32} {t_met : Int64} {t_queue : (Nat → Int32)} {t_totals : (Nat → Int32)} {er fr : Int32} {A6 : (Int32 × Int32 × Int32 × Int32 × (Nat → Int32) × (Nat → Int32) × (Nat → Int32) × (Nat → Int32) × (Nat → Int32) × Int32) × (Int32 × (Nat → Int32) × (Nat → Int32) × (Nat → Int32) × Int32) × ((Nat → Int32) × (Nat → Int32) × (Nat → Int32) × (Nat → Int32) × (Nat → Int32) × (Nat → Int32) × Int32 × Int32)} {B6 : Int32 × (Nat → Nat → Int32) × (Nat → Int32) × (Nat → Int32) × Int32 × (Nat → Nat → Int32) × Int32 × (Nat → Nat → Int32) × Int32 × Int32 × Int32 × (Nat → Int32) × (Nat → Int32) × Int32} (hn : 1000000000000 ≤ n) (h_x2_lineCount : (0 ≤ x2_lineCount ∧ x2_lineCount ≤ 20)) (h_x2_goodsCount : (0 ≤ x2_goodsCount ∧ x2_goodsCount ≤ 8)) (h_x2_workCount : (0 ≤ x2_workCount ∧ x2_workCount ≤ 7)) (h_x2_years : (1 ≤ x2_years ∧ x2_years ≤ 30)) (h_x2_lines : (LnOk x2_lines)) (h_x2_goods : (GdOk x2_goods)) (h_x2_works : (WkOk x2_works)) (h_x2_change : (AI 0 99 x2_change)) (h_x2_coin : (AI 0 9 x2_coin)) (h_x3_lineCount : (0 ≤ x3_lineCount ∧ x3_lineCount ≤ 20)) (h_x3_goodsCount : (0 ≤ x3_goodsCount ∧ x3_goodsCount ≤ 8)) (h_x3_workCount : (0 ≤ x3_workCount ∧ x3_workCount ≤ 7)) (h_x3_years : (1 ≤ x3_years ∧ x3_years ≤ 30)) (h_x3_lines : (LnOk x3_lines)) (h_x3_goods : (GdOk x3_goods)) (h_x3_works : (WkOk x3_works)) (h_x3_change : (AI 0 99 x3_change)) (h_x3_coin : (AI 0 9 x3_coin)) (h_x5_edgeA : (AI 0 35 x5_edgeA)) (h_x5_edgeB : (AI 0 35 x5_edgeB)) (h_x5_edgeLine : (AI 0 19 x5_edgeLine)) (h_x5_steps : (AI 0 22 x5_steps)) (h_x5_nodes : (AI 0 35 x5_nodes)) (h_x5_stepCount : (0 ≤ x5_stepCount ∧ x5_stepCount ≤ 36)) (h_x5_open : (AI 0 35 x5_open)) (h_x5_openCount : (0 ≤ x5_openCount ∧ x5_openCount ≤ 36)) (h_x5_edgeCount : (0 ≤ x5_edgeCount ∧ x5_edgeCount ≤ 60)) (h_m_shelf : (AI 0 2 m_shelf)) (h_m_rowSize : (AI 0 40 m_rowSize)) (h_m_tapeSize : (0 ≤ m_tapeSize ∧ m_tapeSize ≤ 250)) (h_m_lines : (0 ≤ m_lines ∧ m_lines ≤ 20)) (h_m_line : (LnM m_line)) (h_m_changes : (AI 0 99 m_changes)) (h_m_coins : (AI 0 9 m_coins)) (h_m_goods : (0 ≤ m_goods ∧ m_goods ≤ 8)) (h_m_good : (GdM m_good)) (h_m_works : (0 ≤ m_works ∧ m_works ≤ 7)) (h_m_work : (WkM m_work)) (h_m_years : (1 ≤ m_years ∧ m_years ≤ 30)) (h_m_from : (0 ≤ m_from ∧ m_from ≤ 250)) (h_m_far : (AI 0 1000000000 m_far)) (h_m_way : (AI 0 22 m_way)) (h_m_steps : (0 ≤ m_steps ∧ m_steps ≤ 37)) (h_m_queue : (AI 0 35 m_queue)) (h_t_shelf : (AI 0 2 t_shelf)) (h_t_rowSize : (AI 0 40 t_rowSize)) (h_t_tapeSize : (0 ≤ t_tapeSize ∧ t_tapeSize ≤ 250)) (h_t_lines : (0 ≤ t_lines ∧ t_lines ≤ 20)) (h_t_line : (LnM t_line)) (h_t_changes : (AI 0 99 t_changes)) (h_t_coins : (AI 0 9 t_coins)) (h_t_goods : (0 ≤ t_goods ∧ t_goods ≤ 8)) (h_t_good : (GdM t_good)) (h_t_works : (0 ≤ t_works ∧ t_works ≤ 7)) (h_t_work : (WkM t_work)) (h_t_years : (1 ≤ t_years ∧ t_years ≤ 30)) (h_t_from : (0 ≤ t_from ∧ t_from ≤ 250)) (h_t_far : (AI 0 1000000000 t_far)) (h_t_way : (AI 0 22 t_way)) (h_t_steps : (0 ≤ t_steps ∧ t_steps ≤ 37)) (h_t_queue : (AI 0 35 t_queue)) (hA : (LaD x3_lineCount x3_goodsCount x3_workCount x3_years x3_lines x3_goods x3_works x3_change x3_coin m_lines m_line m_changes m_coins m_goods m_good m_works m_work m_years)) (hk : Kn (FrS x3_lineCount (ro 7 x3_lines) x3_change x3_coin (ro 3 x3_goods) x3_goodsCount (ro 5 x3_works) x3_workCount) x3_knownFree x3_isKnown) (eqA : fX6_first n (x0_refused, x0_isKept, x0_gone, x0_spent) x1_gained (x2_lineCount, x2_goodsCount, x2_workCount, x2_years, x2_lines, x2_goods, x2_works, x2_change, x2_coin, x2_knownFree, x2_isKnown) (x3_lineCount, x3_goodsCount, x3_workCount, x3_years, x3_lines, x3_goods, x3_works, x3_change, x3_coin, x3_knownFree, x3_isKnown) (x4_left, x4_earned, x4_turnCost, x4_turnWayless) (x5_edgeA, x5_edgeB, x5_edgeCost, x5_edgeLine, x5_change, x5_away, x5_steps, x5_nodes, x5_stepCount, x5_open, x5_openCount, x5_seen, x5_edgeCount, x5_aim) = some (er, A6)) (eqB : fX7_first n (m_shelf, m_rowSort, m_rowSize, m_rows, m_moved, m_shown, m_tape, m_tapeSize, m_refused, m_lines, m_line, m_changes, m_coins, m_goods, m_good, m_works, m_work, m_years, m_gone, m_spent, m_at, m_token, m_from, m_figures, m_fault, m_numbers, m_statements, m_left, m_far, m_tons, m_way, m_steps, m_met, m_queue, m_totals) (t_shelf, t_rowSort, t_rowSize, t_rows, t_moved, t_shown, t_tape, t_tapeSize, t_refused, t_lines, t_line, t_changes, t_coins, t_goods, t_good, t_works, t_work, t_years, t_gone, t_spent, t_at, t_token, t_from, t_figures, t_fault, t_numbers, t_statements, t_left, t_far, t_tons, t_way, t_steps, t_met, t_queue, t_totals) = some (fr, B6)) : er = fr := by
  have a := ((kFirst hn h_x2_lineCount h_x2_goodsCount h_x2_workCount h_x2_years h_x2_lines h_x2_goods h_x2_works h_x2_change h_x2_coin h_x3_lineCount h_x3_goodsCount h_x3_workCount h_x3_years h_x3_lines h_x3_goods h_x3_works h_x3_change h_x3_coin h_x5_edgeA h_x5_edgeB h_x5_edgeLine h_x5_steps h_x5_nodes h_x5_stepCount h_x5_open h_x5_openCount h_x5_edgeCount hA.2.2.2.2.2.2 hk).at eqA).1
  obtain ⟨⟨z1, z2, z3, z4⟩, z5, z6, z7, z8, z9, z10⟩ := id hA
  have hS := hA.s
  subst z1 z2 z3 z4
  have hW : WfS x3_workCount.toNatClampNeg ((x3_lineCount, ro 7 x3_lines, x3_change), ro 5 x3_works) := ⟨h_x3_lineCount, z10⟩
  have hW2 := hW.congr hS
  have b := (firstR hn h_m_shelf h_m_rowSize h_m_tapeSize h_x3_lineCount h_m_line h_m_changes h_m_coins h_x3_goodsCount h_m_good h_x3_workCount h_m_work h_x3_years h_m_from h_m_far h_m_way h_m_steps h_m_queue h_t_shelf h_t_rowSize h_t_tapeSize h_t_lines h_t_line h_t_changes h_t_coins h_t_goods h_t_good h_t_works h_t_work h_t_years h_t_from h_t_far h_t_way h_t_steps h_t_queue hW2.2).at eqB
  have q := SEq.fir (coins := x3_coin) (coins' := m_coins) (good := ro 3 x3_goods) (good' := m_good) (G := x3_goodsCount) (yr := x3_years) hS hW z9 z6
  exact (a.trans q).trans b.symm
end
section
/-! worth: what it answers on both sides -/
theorem worthR {n : Nat} {x0_shelf : (Nat → Int32)} {x0_rowSort : (Nat → Int32)} {x0_rowSize : (Nat → Int32)} {x0_rows : (Nat → Nat → Int64)} {x0_moved : (Nat → Int64)} {x0_shown : (Nat → Int32)} {x0_tape : (Nat → Int32)} {x0_tapeSize : Int32} {x0_refused : (Nat → Int32)} {x0_lines : Int32} {x0_line : (Nat → Nat → Int32)} {x0_changes : (Nat → Int32)} {x0_coins : (Nat → Int32)} {x0_goods : Int32} {x0_good : (Nat → Nat → Int32)} {x0_works : Int32} {x0_work : (Nat → Nat → Int32)} {x0_years : Int32} {x0_gone : Int32} {x0_spent : Int32} {x0_at : Int32} {x0_token : Int32} {x0_from : Int32} {x0_figures : Int64} {x0_fault : Int32} {x0_numbers : (Nat → Int32)} {x0_statements : Int32} {x0_left : (Nat → Int32)} {x0_far : (Nat → Int32)} {x0_tons : Int32} {x0_way : (Nat → Int32)} {x0_steps : Int32} {x0_met : Int64} {x0_queue : (Nat → Int32)} {x0_totals : (Nat → Int32)} {x1_shelf : (Nat → Int32)} {x1_rowSort : (Nat → Int32)} {x1_rowSize : (Nat → Int32)} {x1_rows : (Nat → Nat → Int64)} {x1_moved : (Nat → Int64)} {x1_shown : (Nat → Int32)} {x1_tape : (Nat → Int32)} {x1_tapeSize : Int32} {x1_refused : (Nat → Int32)} {x1_lines : Int32} {x1_line : (Nat → Nat → Int32)} {x1_changes : (Nat → Int32)} {x1_coins : (Nat → Int32)} {x1_goods : Int32} {x1_good : (Nat → Nat → Int32)} {x1_works : Int32} {x1_work : (Nat → Nat → Int32)} {x1_years : Int32} {x1_gone : Int32} {x1_spent : Int32} {x1_at : Int32} {x1_token : Int32} {x1_from : Int32} {x1_figures : Int64} {x1_fault : Int32} {x1_numbers : (Nat → Int32)} {x1_statements : Int32} {x1_left : (Nat → Int32)} {x1_far : (Nat → Int32)} {x1_tons : Int32} {x1_way : (Nat → Int32)} {x1_steps : Int32} {x1_met : Int64} {x1_queue : (Nat → Int32)} {x1_totals : (Nat → Int32)} {p1 : Int32} (hn : 1000000000000 ≤ n) (h_x0_shelf : (AI 0 2 x0_shelf)) (h_x0_rowSize : (AI 0 40 x0_rowSize)) (h_x0_tapeSize : (0 ≤ x0_tapeSize ∧ x0_tapeSize ≤ 250)) (h_x0_lines : (0 ≤ x0_lines ∧ x0_lines ≤ 20)) (h_x0_line : (LnM x0_line)) (h_x0_changes : (AI 0 99 x0_changes)) (h_x0_coins : (AI 0 9 x0_coins)) (h_x0_goods : (0 ≤ x0_goods ∧ x0_goods ≤ 8)) (h_x0_good : (GdM x0_good)) (h_x0_works : (0 ≤ x0_works ∧ x0_works ≤ 7)) (h_x0_work : (WkM x0_work)) (h_x0_years : (1 ≤ x0_years ∧ x0_years ≤ 30)) (h_x0_from : (0 ≤ x0_from ∧ x0_from ≤ 250)) (h_x0_far : (AI 0 1000000000 x0_far)) (h_x0_way : (AI 0 22 x0_way)) (h_x0_steps : (0 ≤ x0_steps ∧ x0_steps ≤ 37)) (h_x0_queue : (AI 0 35 x0_queue)) (h_x1_shelf : (AI 0 2 x1_shelf)) (h_x1_rowSize : (AI 0 40 x1_rowSize)) (h_x1_tapeSize : (0 ≤ x1_tapeSize ∧ x1_tapeSize ≤ 250)) (h_x1_lines : (0 ≤ x1_lines ∧ x1_lines ≤ 20)) (h_x1_line : (LnM x1_line)) (h_x1_changes : (AI 0 99 x1_changes)) (h_x1_coins : (AI 0 9 x1_coins)) (h_x1_goods : (0 ≤ x1_goods ∧ x1_goods ≤ 8)) (h_x1_good : (GdM x1_good)) (h_x1_works : (0 ≤ x1_works ∧ x1_works ≤ 7)) (h_x1_work : (WkM x1_work)) (h_x1_years : (1 ≤ x1_years ∧ x1_years ≤ 30)) (h_x1_from : (0 ≤ x1_from ∧ x1_from ≤ 250)) (h_x1_far : (AI 0 1000000000 x1_far)) (h_x1_way : (AI 0 22 x1_way)) (h_x1_steps : (0 ≤ x1_steps ∧ x1_steps ≤ 37)) (h_x1_queue : (AI 0 35 x1_queue)) (hf : ∀ k, k < x0_works.toNatClampNeg → Wf1 x0_work x0_lines k) : Sf (fX7_worth n (x0_shelf, x0_rowSort, x0_rowSize, x0_rows, x0_moved, x0_shown, x0_tape, x0_tapeSize, x0_refused, x0_lines, x0_line, x0_changes, x0_coins, x0_goods, x0_good, x0_works, x0_work, x0_years, x0_gone, x0_spent, x0_at, x0_token, x0_from, x0_figures, x0_fault, x0_numbers, x0_statements, x0_left, x0_far, x0_tons, x0_way, x0_steps, x0_met, x0_queue, x0_totals) (x1_shelf, x1_rowSort, x1_rowSize, x1_rows, x1_moved, x1_shown, x1_tape, x1_tapeSize, x1_refused, x1_lines, x1_line, x1_changes, x1_coins, x1_goods, x1_good, x1_works, x1_work, x1_years, x1_gone, x1_spent, x1_at, x1_token, x1_from, x1_figures, x1_fault, x1_numbers, x1_statements, x1_left, x1_far, x1_tons, x1_way, x1_steps, x1_met, x1_queue, x1_totals) p1) (fun r => ((0 ≤ p1 ∧ p1.toNatClampNeg < x0_works.toNatClampNeg) ∧ x0_work p1.toNatClampNeg 4 = 0 ∧ r.1 = WoA (x0_lines, x0_line, x0_changes) x0_coins x0_good x0_goods x0_work x0_years p1.toNatClampNeg) ∨ (¬ (0 ≤ p1 ∧ p1.toNatClampNeg < x0_works.toNatClampNeg) ∧ r.1 = -1000002) ∨ ((0 ≤ p1 ∧ p1.toNatClampNeg < x0_works.toNatClampNeg) ∧ ¬ x0_work p1.toNatClampNeg 4 = 0 ∧ r.1 = -1000005)) := by
  unfold fX7_worth
  dsimp only [u35]
  refine Sf.bind (sX7_isWork h_x0_shelf h_x0_rowSize h_x0_tapeSize h_x0_lines h_x0_line h_x0_changes h_x0_coins h_x0_goods h_x0_good h_x0_works h_x0_work h_x0_years h_x0_from h_x0_far h_x0_way h_x0_steps h_x0_queue) (fun v1 h1 => Sf.ite (fun hz => ?_) (fun hz => ?_))
  · refine Sf.bind (sX7_refuse h_x0_shelf h_x0_rowSize h_x0_tapeSize h_x0_lines h_x0_line h_x0_changes h_x0_coins h_x0_goods h_x0_good h_x0_works h_x0_work h_x0_years h_x0_from h_x0_far h_x0_way h_x0_steps h_x0_queue (by decide)) ?_
    rintro ⟨v, g⟩ e
    have e : v = -2 := e
    refine Sf.ok (Or.inr (Or.inl ⟨fun h => ?_, (show v - 1000000 = -1000002 by rw [e]; decide)⟩))
    have q := (okK_lt h_x0_works h).1
    rcases h1 with h1 | h1
    · rw [h1.1] at hz; exact absurd hz (by decide)
    · exact h1.2 q
  have hp : 0 ≤ p1 ∧ p1 < x0_works := by
    rcases h1 with h | h
    · exact h.2
    · exact absurd h.1 hz
  have hpn : 0 ≤ p1 ∧ p1.toNatClampNeg < x0_works.toNatClampNeg := by
    have a := i32_cl hp.1
    have b := i32_cl h_x0_works.1
    have c := Int32.lt_iff_toInt_lt.mp hp.2
    exact ⟨hp.1, by omega⟩
  have hp6 := (okK_lt h_x0_works hpn).2
  refine Sf.ckb 7 rfl ⟨hp6.1, Int32.lt_of_le_of_lt hp6.2 (by decide)⟩ (fun q3 e3 _ => ?_)
  refine Sf.rdl 4 rfl rfl (fun v4 e4 => ?_)
  rw [e3] at e4
  have b4 : 0 ≤ v4 ∧ v4 ≤ 1 := by rw [e4]; exact h_x0_work.1 p1.toNatClampNeg 4
  refine Sf.ite (fun hv => ?_) (fun hv => ?_)
  · refine Sf.bind (sX7_refuse h_x0_shelf h_x0_rowSize h_x0_tapeSize h_x0_lines h_x0_line h_x0_changes h_x0_coins h_x0_goods h_x0_good h_x0_works h_x0_work h_x0_years h_x0_from h_x0_far h_x0_way h_x0_steps h_x0_queue (by decide)) ?_
    rintro ⟨v, g⟩ e
    have e : v = -5 := e
    refine Sf.ok (Or.inr (Or.inr ⟨hpn, fun h => ?_, (show v - 1000000 = -1000005 by rw [e]; decide)⟩))
    rw [← e4, hv] at h
    exact absurd h (by decide)
  · have h0 : x0_work p1.toNatClampNeg 4 = 0 := by
      rw [← e4]
      clear h1 e4 hf
      grind
    refine Sf.bind (worthOfR hn h_x0_shelf h_x0_rowSize h_x0_tapeSize h_x0_lines h_x0_line h_x0_changes h_x0_coins h_x0_goods h_x0_good h_x0_works h_x0_work h_x0_years h_x0_from h_x0_far h_x0_way h_x0_steps h_x0_queue h_x1_shelf h_x1_rowSize h_x1_tapeSize h_x1_lines h_x1_line h_x1_changes h_x1_coins h_x1_goods h_x1_good h_x1_works h_x1_work h_x1_years h_x1_from h_x1_far h_x1_way h_x1_steps h_x1_queue hp6 (hf _ hpn.2)) ?_
    rintro ⟨v5, g7, g8, g9, g10, g11, g12, g13, g14, g15, g16, g17, g18, g19, g20⟩ e5
    exact Sf.ok (Or.inl ⟨hpn, h0, e5⟩)
theorem dWorth {n : Nat} {x0_refused : (Nat → Int32)} {x0_isKept : Int32} {x0_gone : Int32} {x0_spent : Int32} {x1_gained : Nat → Int32} {x2_lineCount : Int32} {x2_goodsCount : Int32} {x2_workCount : Int32} {x2_years : Int32} {x2_lines : (Nat → Int32)} {x2_goods : (Nat → Int32)} {x2_works : (Nat → Int32)} {x2_change : (Nat → Int32)} {x2_coin : (Nat → Int32)} {x2_knownFree : (Nat → Int32)} {x2_isKnown : Int32} {x3_lineCount : Int32} {x3_goodsCount : Int32} {x3_workCount : Int32} {x3_years : Int32} {x3_lines : (Nat → Int32)} {x3_goods : (Nat → Int32)} {x3_works : (Nat → Int32)} {x3_change : (Nat → Int32)} {x3_coin : (Nat → Int32)} {x3_knownFree : (Nat → Int32)} {x3_isKnown : Int32} {x4_left : (Nat → Int32)} {x4_earned : (Nat → Int32)} {x4_turnCost : Int32} {x4_turnWayless : Int32} {x5_edgeA : (Nat → Int32)} {x5_edgeB : (Nat → Int32)} {x5_edgeCost : (Nat → Int32)} {x5_edgeLine : (Nat → Int32)} {x5_change : (Nat → Int32)} {x5_away : (Nat → Int32)} {x5_steps : (Nat → Int32)} {x5_nodes : (Nat → Int32)} {x5_stepCount : Int32} {x5_open : (Nat → Int32)} {x5_openCount : Int32} {x5_seen : Int64} {x5_edgeCount : Int32} {x5_aim : Int32} {m_shelf : (Nat → Int32)} {m_rowSort : (Nat → Int32)} {m_rowSize : (Nat → Int32)} {m_rows : (Nat → Nat → Int64)} {m_moved : (Nat → Int64)} {m_shown : (Nat → Int32)} {m_tape : (Nat → Int32)} {m_tapeSize : Int32} {m_refused : (Nat → Int32)} {m_lines : Int32} {m_line : (Nat → Nat → Int32)} {m_changes : (Nat → Int32)} {m_coins : (Nat → Int32)} {m_goods : Int32} {m_good : (Nat → Nat → Int32)} {m_works : Int32} {m_work : (Nat → Nat → Int32)} {m_years : Int32} {m_gone : Int32} {m_spent : Int32} {m_at : Int32} {m_token : Int32} {m_from : Int32} {m_figures : Int64} {m_fault : Int32} {m_numbers : (Nat → Int32)} {m_statements : Int32} {m_left : (Nat → Int32)} {m_far : (Nat → Int32)} {m_tons : Int32} {m_way : (Nat → Int32)} {m_steps : Int32} {m_met : Int64} {m_queue : (Nat → Int32)} {m_totals : (Nat → Int32)} {t_shelf : (Nat → Int32)} {t_rowSort : (Nat → Int32)} {t_rowSize : (Nat → Int32)} {t_rows : (Nat → Nat → Int64)} {t_moved : (Nat → Int64)} {t_shown : (Nat → Int32)} {t_tape : (Nat → Int32)} {t_tapeSize : Int32} {t_refused : (Nat → Int32)} {t_lines : Int32} {t_line : (Nat → Nat → Int32)} {t_changes : (Nat → Int32)} {t_coins : (Nat → Int32)} {t_goods : Int32} {t_good : (Nat → Nat → Int32)} {t_works : Int32} {t_work : (Nat → Nat → Int32)} {t_years : Int32} {t_gone : Int32} {t_spent : Int32} {t_at : Int32} {t_token : Int32} {t_from : Int32} {t_figures : Int64} {t_fault : Int32} {t_numbers : (Nat → Int32)} {t_statements : Int32} {t_left : (Nat → Int32)} {t_far : (Nat → Int32)} {t_tons : Int32} {t_way : (Nat → Int32)} {t_steps : Int32} {t_met : Int64} {t_queue : (Nat → Int32)} {t_totals : (Nat → Int32)} {p1 er fr : Int32} {A6 : (Nat → Int32) × (Int32 × Int32 × Int32 × Int32 × (Nat → Int32) × (Nat → Int32) × (Nat → Int32) × (Nat → Int32) × (Nat → Int32) × Int32) × (Int32 × (Nat → Int32) × (Nat → Int32) × (Nat → Int32) × Int32) × ((Nat → Int32) × (Nat → Int32) × (Nat → Int32) × (Nat → Int32) × (Nat → Int32) × (Nat → Int32) × Int32 × Int32)} {B6 : (Nat → Int32) × (Int32 × (Nat → Nat → Int32) × (Nat → Int32) × (Nat → Int32) × Int32 × (Nat → Nat → Int32) × Int32 × (Nat → Nat → Int32) × Int32 × Int32 × Int32 × (Nat → Int32) × (Nat → Int32) × Int32)} (hn : 1000000000000 ≤ n) (h_x2_lineCount : (0 ≤ x2_lineCount ∧ x2_lineCount ≤ 20)) (h_x2_goodsCount : (0 ≤ x2_goodsCount ∧ x2_goodsCount ≤ 8)) (h_x2_workCount : (0 ≤ x2_workCount ∧ x2_workCount ≤ 7)) (h_x2_years : (1 ≤ x2_years ∧ x2_years ≤ 30)) (h_x2_lines : (LnOk x2_lines)) (h_x2_goods : (GdOk x2_goods)) (h_x2_works : (WkOk x2_works)) (h_x2_change : (AI 0 99 x2_change)) (h_x2_coin : (AI 0 9 x2_coin)) (h_x3_lineCount : (0 ≤ x3_lineCount ∧ x3_lineCount ≤ 20)) (h_x3_goodsCount : (0 ≤ x3_goodsCount ∧ x3_goodsCount ≤ 8)) (h_x3_workCount : (0 ≤ x3_workCount ∧ x3_workCount ≤ 7)) (h_x3_years : (1 ≤ x3_years ∧ x3_years ≤ 30)) (h_x3_lines : (LnOk x3_lines)) (h_x3_goods : (GdOk x3_goods)) (h_x3_works : (WkOk x3_works)) (h_x3_change : (AI 0 99 x3_change)) (h_x3_coin : (AI 0 9 x3_coin)) (h_x5_edgeA : (AI 0 35 x5_edgeA)) (h_x5_edgeB : (AI 0 35 x5_edgeB)) (h_x5_edgeLine : (AI 0 19 x5_edgeLine)) (h_x5_steps : (AI 0 22 x5_steps)) (h_x5_nodes : (AI 0 35 x5_nodes)) (h_x5_stepCount : (0 ≤ x5_stepCount ∧ x5_stepCount ≤ 36)) (h_x5_open : (AI 0 35 x5_open)) (h_x5_openCount : (0 ≤ x5_openCount ∧ x5_openCount ≤ 36)) (h_x5_edgeCount : (0 ≤ x5_edgeCount ∧ x5_edgeCount ≤ 60)) (h_m_shelf : (AI 0 2 m_shelf)) (h_m_rowSize : (AI 0 40 m_rowSize)) (h_m_tapeSize : (0 ≤ m_tapeSize ∧ m_tapeSize ≤ 250)) (h_m_lines : (0 ≤ m_lines ∧ m_lines ≤ 20)) (h_m_line : (LnM m_line)) (h_m_changes : (AI 0 99 m_changes)) (h_m_coins : (AI 0 9 m_coins)) (h_m_goods : (0 ≤ m_goods ∧ m_goods ≤ 8)) (h_m_good : (GdM m_good)) (h_m_works : (0 ≤ m_works ∧ m_works ≤ 7)) (h_m_work : (WkM m_work)) (h_m_years : (1 ≤ m_years ∧ m_years ≤ 30)) (h_m_from : (0 ≤ m_from ∧ m_from ≤ 250)) (h_m_far : (AI 0 1000000000 m_far)) (h_m_way : (AI 0 22 m_way)) (h_m_steps : (0 ≤ m_steps ∧ m_steps ≤ 37)) (h_m_queue : (AI 0 35 m_queue)) (h_t_shelf : (AI 0 2 t_shelf)) (h_t_rowSize : (AI 0 40 t_rowSize)) (h_t_tapeSize : (0 ≤ t_tapeSize ∧ t_tapeSize ≤ 250)) (h_t_lines : (0 ≤ t_lines ∧ t_lines ≤ 20)) (h_t_line : (LnM t_line)) (h_t_changes : (AI 0 99 t_changes)) (h_t_coins : (AI 0 9 t_coins)) (h_t_goods : (0 ≤ t_goods ∧ t_goods ≤ 8)) (h_t_good : (GdM t_good)) (h_t_works : (0 ≤ t_works ∧ t_works ≤ 7)) (h_t_work : (WkM t_work)) (h_t_years : (1 ≤ t_years ∧ t_years ≤ 30)) (h_t_from : (0 ≤ t_from ∧ t_from ≤ 250)) (h_t_far : (AI 0 1000000000 t_far)) (h_t_way : (AI 0 22 t_way)) (h_t_steps : (0 ≤ t_steps ∧ t_steps ≤ 37)) (h_t_queue : (AI 0 35 t_queue)) (hA : (LaD x3_lineCount x3_goodsCount x3_workCount x3_years x3_lines x3_goods x3_works x3_change x3_coin m_lines m_line m_changes m_coins m_goods m_good m_works m_work m_years)) (hk : Kn (FrS x3_lineCount (ro 7 x3_lines) x3_change x3_coin (ro 3 x3_goods) x3_goodsCount (ro 5 x3_works) x3_workCount) x3_knownFree x3_isKnown) (eqA : fX6_worth n (x0_refused, x0_isKept, x0_gone, x0_spent) x1_gained (x2_lineCount, x2_goodsCount, x2_workCount, x2_years, x2_lines, x2_goods, x2_works, x2_change, x2_coin, x2_knownFree, x2_isKnown) (x3_lineCount, x3_goodsCount, x3_workCount, x3_years, x3_lines, x3_goods, x3_works, x3_change, x3_coin, x3_knownFree, x3_isKnown) (x4_left, x4_earned, x4_turnCost, x4_turnWayless) (x5_edgeA, x5_edgeB, x5_edgeCost, x5_edgeLine, x5_change, x5_away, x5_steps, x5_nodes, x5_stepCount, x5_open, x5_openCount, x5_seen, x5_edgeCount, x5_aim) p1 = some (er, A6)) (eqB : fX7_worth n (m_shelf, m_rowSort, m_rowSize, m_rows, m_moved, m_shown, m_tape, m_tapeSize, m_refused, m_lines, m_line, m_changes, m_coins, m_goods, m_good, m_works, m_work, m_years, m_gone, m_spent, m_at, m_token, m_from, m_figures, m_fault, m_numbers, m_statements, m_left, m_far, m_tons, m_way, m_steps, m_met, m_queue, m_totals) (t_shelf, t_rowSort, t_rowSize, t_rows, t_moved, t_shown, t_tape, t_tapeSize, t_refused, t_lines, t_line, t_changes, t_coins, t_goods, t_good, t_works, t_work, t_years, t_gone, t_spent, t_at, t_token, t_from, t_figures, t_fault, t_numbers, t_statements, t_left, t_far, t_tons, t_way, t_steps, t_met, t_queue, t_totals) p1 = some (fr, B6)) : er = fr := by
  have a := ((kWorth hn h_x2_lineCount h_x2_goodsCount h_x2_workCount h_x2_years h_x2_lines h_x2_goods h_x2_works h_x2_change h_x2_coin h_x3_lineCount h_x3_goodsCount h_x3_workCount h_x3_years h_x3_lines h_x3_goods h_x3_works h_x3_change h_x3_coin h_x5_edgeA h_x5_edgeB h_x5_edgeLine h_x5_steps h_x5_nodes h_x5_stepCount h_x5_open h_x5_openCount h_x5_edgeCount hA.2.2.2.2.2.2 hk).at eqA).1
  obtain ⟨⟨z1, z2, z3, z4⟩, z5, z6, z7, z8, z9, z10⟩ := id hA
  have hS := hA.s
  subst z1 z2 z3 z4
  have hW : WfS x3_workCount.toNatClampNeg ((x3_lineCount, ro 7 x3_lines, x3_change), ro 5 x3_works) := ⟨h_x3_lineCount, z10⟩
  have hW2 := hW.congr hS
  have b := (worthR hn h_m_shelf h_m_rowSize h_m_tapeSize h_x3_lineCount h_m_line h_m_changes h_m_coins h_x3_goodsCount h_m_good h_x3_workCount h_m_work h_x3_years h_m_from h_m_far h_m_way h_m_steps h_m_queue h_t_shelf h_t_rowSize h_t_tapeSize h_t_lines h_t_line h_t_changes h_t_coins h_t_goods h_t_good h_t_works h_t_work h_t_years h_t_from h_t_far h_t_way h_t_steps h_t_queue hW2.2).at eqB
  rcases a with ⟨a1, a2, a3⟩ | ⟨a1, a2⟩ | ⟨a1, a2, a3⟩ <;> rcases b with ⟨b1, b2, b3⟩ | ⟨b1, b2⟩ | ⟨b1, b2, b3⟩
  · exact (a3.trans (WoA_congr hS.1 h_x3_lineCount z9 z6 (z7 _ a1.2) (z10 _ a1.2))).trans b3.symm
  · exact absurd a1 b1
  · rw [z7 _ a1.2 4 (by decide)] at a2; exact absurd a2 b2
  · exact absurd b1 a1
  · exact a2.trans b2.symm
  · exact absurd b1 a1
  · rw [z7 _ a1.2 4 (by decide)] at a2; exact absurd b2 a2
  · exact absurd a1 b1
  · exact a3.trans b3.symm
end
section
/-! total: the reference's, and alike -/
theorem doU_L {work : Nat → Nat → Int32} {s : Int32} {A : Ab} (h0 : 0 ≤ A.1 ∧ A.1 ≤ 20) : ∀ K : Nat, A.1 ≤ (doU work s K A).1 ∧ 0 ≤ (doU work s K A).1 ∧ (doU work s K A).1 ≤ 20
  | 0 => ⟨Int32.le_refl _, h0⟩
  | K + 1 => by
    have ih := doU_L h0 (s := s) (work := work) K
    show A.1 ≤ (if tq s K = true ∧ work K 4 = 0 then doA work K (doU work s K A) else doU work s K A).1 ∧ 0 ≤ (if tq s K = true ∧ work K 4 = 0 then doA work K (doU work s K A) else doU work s K A).1 ∧ (if tq s K = true ∧ work K 4 = 0 then doA work K (doU work s K A) else doU work s K A).1 ≤ 20
    by_cases hb : tq s K = true ∧ work K 4 = 0
    · rw [if_pos hb]
      have q := doA_L (work := work) (k := K) ih.2
      exact ⟨Int32.le_trans ih.1 q.1, q.2⟩
    · rw [if_neg hb]
      exact ih
theorem doU_congr {work work' : Nat → Nat → Int32} {s : Int32} {A B : Ab} (h : AbEq A B) (h0 : 0 ≤ A.1 ∧ A.1 ≤ 20) : ∀ K : Nat, (∀ k, k < K → ∀ c, c < 5 → work k c = work' k c) → (∀ k, k < K → Wf1 work A.1 k) → AbEq (doU work s K A) (doU work' s K B)
  | 0, _, _ => h
  | K + 1, hw, hf => by
    have ih := doU_congr h h0 K (fun k hk => hw k (by omega)) (fun k hk => hf k (by omega)) (s := s)
    show AbEq (if tq s K = true ∧ work K 4 = 0 then doA work K (doU work s K A) else doU work s K A) (if tq s K = true ∧ work' K 4 = 0 then doA work' K (doU work' s K B) else doU work' s K B)
    rw [← hw K (by omega) 4 (by decide)]
    have q := doU_L h0 (s := s) (work := work) K
    by_cases hb : tq s K = true ∧ work K 4 = 0
    · rw [if_pos hb, if_pos hb]
      exact doA_congr ih (fun c hc => hw K (by omega) c (by omega)) ((hf K (by omega)).mono q.1) q.2
    · rw [if_neg hb, if_neg hb]
      exact ih
theorem TotA_congr {A B : Ab} {coins coins' : Nat → Int32} {good good' : Nat → Nat → Int32} {G : Int32} {work work' : Nat → Nat → Int32} {W yr s : Int32} (h : AbEq A B) (h0 : 0 ≤ A.1 ∧ A.1 ≤ 20) (hco : ∀ w, w < 3 → coins w = coins' w) (hg : ∀ g, g < G.toNatClampNeg → ∀ c, c < 3 → good g c = good' g c) (hw : ∀ k, k < W.toNatClampNeg → ∀ c, c < 5 → work k c = work' k c) (hf : ∀ k, k < W.toNatClampNeg → Wf1 work A.1 k) : TotA A coins good G work W yr s = TotA B coins' good' G work' W yr s := by
  unfold TotA
  rw [FrA_congr (doU_congr h h0 _ hw hf) hco hg, sm_congr (f := cnU work s) (g := cnU work' s) _ (fun k hk => by unfold cnU; rw [hw k hk 3 (by decide), hw k hk 4 (by decide)])]
theorem totalOfR {n : Nat} {x0_shelf : (Nat → Int32)} {x0_rowSort : (Nat → Int32)} {x0_rowSize : (Nat → Int32)} {x0_rows : (Nat → Nat → Int64)} {x0_moved : (Nat → Int64)} {x0_shown : (Nat → Int32)} {x0_tape : (Nat → Int32)} {x0_tapeSize : Int32} {x0_refused : (Nat → Int32)} {x0_lines : Int32} {x0_line : (Nat → Nat → Int32)} {x0_changes : (Nat → Int32)} {x0_coins : (Nat → Int32)} {x0_goods : Int32} {x0_good : (Nat → Nat → Int32)} {x0_works : Int32} {x0_work : (Nat → Nat → Int32)} {x0_years : Int32} {x0_gone : Int32} {x0_spent : Int32} {x0_at : Int32} {x0_token : Int32} {x0_from : Int32} {x0_figures : Int64} {x0_fault : Int32} {x0_numbers : (Nat → Int32)} {x0_statements : Int32} {x0_left : (Nat → Int32)} {x0_far : (Nat → Int32)} {x0_tons : Int32} {x0_way : (Nat → Int32)} {x0_steps : Int32} {x0_met : Int64} {x0_queue : (Nat → Int32)} {x0_totals : (Nat → Int32)} {x1_shelf : (Nat → Int32)} {x1_rowSort : (Nat → Int32)} {x1_rowSize : (Nat → Int32)} {x1_rows : (Nat → Nat → Int64)} {x1_moved : (Nat → Int64)} {x1_shown : (Nat → Int32)} {x1_tape : (Nat → Int32)} {x1_tapeSize : Int32} {x1_refused : (Nat → Int32)} {x1_lines : Int32} {x1_line : (Nat → Nat → Int32)} {x1_changes : (Nat → Int32)} {x1_coins : (Nat → Int32)} {x1_goods : Int32} {x1_good : (Nat → Nat → Int32)} {x1_works : Int32} {x1_work : (Nat → Nat → Int32)} {x1_years : Int32} {x1_gone : Int32} {x1_spent : Int32} {x1_at : Int32} {x1_token : Int32} {x1_from : Int32} {x1_figures : Int64} {x1_fault : Int32} {x1_numbers : (Nat → Int32)} {x1_statements : Int32} {x1_left : (Nat → Int32)} {x1_far : (Nat → Int32)} {x1_tons : Int32} {x1_way : (Nat → Int32)} {x1_steps : Int32} {x1_met : Int64} {x1_queue : (Nat → Int32)} {x1_totals : (Nat → Int32)} {p1 : Int32} (hn : 1000000000000 ≤ n) (h_x0_shelf : (AI 0 2 x0_shelf)) (h_x0_rowSize : (AI 0 40 x0_rowSize)) (h_x0_tapeSize : (0 ≤ x0_tapeSize ∧ x0_tapeSize ≤ 250)) (h_x0_lines : (0 ≤ x0_lines ∧ x0_lines ≤ 20)) (h_x0_line : (LnM x0_line)) (h_x0_changes : (AI 0 99 x0_changes)) (h_x0_coins : (AI 0 9 x0_coins)) (h_x0_goods : (0 ≤ x0_goods ∧ x0_goods ≤ 8)) (h_x0_good : (GdM x0_good)) (h_x0_works : (0 ≤ x0_works ∧ x0_works ≤ 7)) (h_x0_work : (WkM x0_work)) (h_x0_years : (1 ≤ x0_years ∧ x0_years ≤ 30)) (h_x0_from : (0 ≤ x0_from ∧ x0_from ≤ 250)) (h_x0_far : (AI 0 1000000000 x0_far)) (h_x0_way : (AI 0 22 x0_way)) (h_x0_steps : (0 ≤ x0_steps ∧ x0_steps ≤ 37)) (h_x0_queue : (AI 0 35 x0_queue)) (h_x1_shelf : (AI 0 2 x1_shelf)) (h_x1_rowSize : (AI 0 40 x1_rowSize)) (h_x1_tapeSize : (0 ≤ x1_tapeSize ∧ x1_tapeSize ≤ 250)) (h_x1_lines : (0 ≤ x1_lines ∧ x1_lines ≤ 20)) (h_x1_line : (LnM x1_line)) (h_x1_changes : (AI 0 99 x1_changes)) (h_x1_coins : (AI 0 9 x1_coins)) (h_x1_goods : (0 ≤ x1_goods ∧ x1_goods ≤ 8)) (h_x1_good : (GdM x1_good)) (h_x1_works : (0 ≤ x1_works ∧ x1_works ≤ 7)) (h_x1_work : (WkM x1_work)) (h_x1_years : (1 ≤ x1_years ∧ x1_years ≤ 30)) (h_x1_from : (0 ≤ x1_from ∧ x1_from ≤ 250)) (h_x1_far : (AI 0 1000000000 x1_far)) (h_x1_way : (AI 0 22 x1_way)) (h_x1_steps : (0 ≤ x1_steps ∧ x1_steps ≤ 37)) (h_x1_queue : (AI 0 35 x1_queue)) (hf : ∀ k, k < x0_works.toNatClampNeg → Wf1 x0_work x0_lines k) : Sf (fX7_totalOf n (x0_shelf, x0_rowSort, x0_rowSize, x0_rows, x0_moved, x0_shown, x0_tape, x0_tapeSize, x0_refused, x0_lines, x0_line, x0_changes, x0_coins, x0_goods, x0_good, x0_works, x0_work, x0_years, x0_gone, x0_spent, x0_at, x0_token, x0_from, x0_figures, x0_fault, x0_numbers, x0_statements, x0_left, x0_far, x0_tons, x0_way, x0_steps, x0_met, x0_queue, x0_totals) (x1_shelf, x1_rowSort, x1_rowSize, x1_rows, x1_moved, x1_shown, x1_tape, x1_tapeSize, x1_refused, x1_lines, x1_line, x1_changes, x1_coins, x1_goods, x1_good, x1_works, x1_work, x1_years, x1_gone, x1_spent, x1_at, x1_token, x1_from, x1_figures, x1_fault, x1_numbers, x1_statements, x1_left, x1_far, x1_tons, x1_way, x1_steps, x1_met, x1_queue, x1_totals) p1) (fun r => r.1 = TotA (x0_lines, x0_line, x0_changes) x0_coins x0_good x0_goods x0_work x0_works x0_years p1) := by
  unfold fX7_totalOf
  dsimp only [u35]
  refine Sf.bind (Sf.and (sX7_fresh hn h_x0_shelf h_x0_rowSize h_x0_tapeSize h_x0_lines h_x0_line h_x0_changes h_x0_coins h_x0_goods h_x0_good h_x0_works h_x0_work h_x0_years h_x0_from h_x0_far h_x0_way h_x0_steps h_x0_queue h_x1_shelf h_x1_rowSize h_x1_tapeSize h_x1_lines h_x1_line h_x1_changes h_x1_coins h_x1_goods h_x1_good h_x1_works h_x1_work h_x1_years h_x1_from h_x1_far h_x1_way h_x1_steps h_x1_queue) (freshR hn)) ?_
  rintro ⟨g2, g3, g4, g5, g6, g7, g8, g9, g10, g11, g12⟩ ⟨⟨b1, b2, b3, b4, b5, b6, b7, b8, b9⟩, s1, s2, s3, s4, s5, s6, s7, s8, s9, _, _⟩
  have s1 : g2 = x0_lines := s1
  have s2 : ∀ l, l < 20 → ∀ c, c < 7 → g3 l c = x0_line l c := s2
  have s3 : ∀ p, p < 12 → g4 p = x0_changes p := s3
  have s4 : ∀ w, w < 3 → g5 w = x0_coins w := s4
  have s5 : g6 = x0_goods := s5
  have s6 : ∀ g, g < 8 → ∀ c, c < 3 → g7 g c = x0_good g c := s6
  have s8 : ∀ k, k < 7 → ∀ c, c < 5 → g9 k c = x0_work k c := s8
  have b1 : 0 ≤ g2 ∧ g2 ≤ 20 := b1
  have b2 : LnM g3 := b2
  have b3 : AI 0 99 g4 := b3
  have b8 : WkM g9 := b8
  have hL := nlt (M := 20) (N := 20) rfl h_x0_lines
  have hG := nlt (M := 8) (N := 8) rfl h_x0_goods
  have hW7 := nlt (M := 7) (N := 7) rfl h_x0_works
  subst s1 s5
  try dsimp only [u11]
  have hf9 : ∀ k, k < x0_works.toNatClampNeg → Wf1 g9 g2 k := fun k hk => (hf k hk).congr (fun c hc => (s8 k (by omega) c (by omega)).symm)
  refine Sf.bind (P := fun r : Int32 × Int32 × (Nat → Nat → Int32) × (Nat → Int32) × (Nat → Nat → Int32) => ((0 ≤ r.2.1 ∧ r.2.1 ≤ 20) ∧ LnM r.2.2.1 ∧ AI 0 99 r.2.2.2.1 ∧ WkM r.2.2.2.2) ∧ r.1 = sm (cnU g9 p1) x0_works.toNatClampNeg ∧ AbEq (r.2.1, r.2.2.1, r.2.2.2.1) (doU g9 p1 x0_works.toNatClampNeg (g2, g3, g4))) ?_ ?_
  · refine Sf.loop6 (fun (z15 z16 z17 : Int32) (z18 : Nat → Nat → Int32) (z19 : Nat → Int32) (z20 : Nat → Nat → Int32) => (0 ≤ z16 ∧ z16 ≤ x0_works) ∧ ((0 ≤ z17 ∧ z17 ≤ 20) ∧ LnM z18 ∧ AI 0 99 z19 ∧ WkM z20) ∧ z15 = sm (cnU g9 p1) z16.toNatClampNeg ∧ AbEq (z17, z18, z19) (doU g9 p1 z16.toNatClampNeg (g2, g3, g4)) ∧ ∀ j, z16.toNatClampNeg ≤ j → z20 j = g9 j) (fun z15 z16 z17 z18 z19 z20 => muUp z16) (fun z15 z16 z17 z18 z19 z20 h => ?_) (show (0 ≤ (0 : Int32) ∧ (0 : Int32) ≤ x0_works) ∧ ((0 ≤ g2 ∧ g2 ≤ 20) ∧ LnM g3 ∧ AI 0 99 g4 ∧ WkM g9) ∧ (0 : Int32) = sm (cnU g9 p1) (0 : Int32).toNatClampNeg ∧ AbEq (g2, g3, g4) (doU g9 p1 (0 : Int32).toNatClampNeg (g2, g3, g4)) ∧ ∀ j, (0 : Int32).toNatClampNeg ≤ j → g9 j = g9 j from ⟨⟨by decide, h_x0_works.1⟩, ⟨b1, b2, b3, b8⟩, rfl, AbEq.refl _, fun _ _ => rfl⟩) (muUp_n hn)
    obtain ⟨i0, ⟨l1, l2, l3, l4⟩, i1, i2, i3⟩ := h
    unfold fX7_totalOf_s10
    refine Sf.ite (fun hc => ?_) (fun hc => ?_)
    · have e : z16 = x0_works := Int32.le_antisymm i0.2 hc
      rw [e] at i1 i2
      exact Sf.inr ⟨⟨l1, l2, l3, l4⟩, i1, i2⟩
    obtain ⟨p0, p1', p3⟩ := up1 i0.1 (Int32.le_trans h_x0_works.2 (by decide)) hc
    have hz1 : z16 + 1 ≤ x0_works := by clear i1 i2 i3 hf hf9; grind
    have hz6 : 0 ≤ z16 ∧ z16 ≤ 6 := ⟨i0.1, by clear i1 i2 i3 hf hf9; grind⟩
    have hz30 : 0 ≤ z16 ∧ z16 ≤ 30 := ⟨i0.1, Int32.le_trans hz6.2 (by decide)⟩
    have hzn : z16.toNatClampNeg < x0_works.toNatClampNeg := by
      have a := i32_cl i0.1
      have b := i32_cl h_x0_works.1
      have c := Int32.lt_iff_toInt_lt.mp p3
      omega
    have hi : 0 ≤ z16 ∧ z16 < 7 := ⟨hz6.1, Int32.lt_of_le_of_lt hz6.2 (by decide)⟩
    have row : z20 z16.toNatClampNeg = g9 z16.toNatClampNeg := i3 _ (Nat.le_refl _)
    have nx1 : sm (cnU g9 p1) (z16 + 1).toNatClampNeg = z15 + cnU g9 p1 z16.toNatClampNeg := by
      rw [p1', i1]
      rfl
    have nx2 : doU g9 p1 (z16 + 1).toNatClampNeg (g2, g3, g4) = if tq p1 z16.toNatClampNeg = true ∧ g9 z16.toNatClampNeg 4 = 0 then doA g9 z16.toNatClampNeg (doU g9 p1 z16.toNatClampNeg (g2, g3, g4)) else doU g9 p1 z16.toNatClampNeg (g2, g3, g4) := by
      rw [p1']
      rfl
    have i3' : ∀ j, (z16 + 1).toNatClampNeg ≤ j → z20 j = g9 j := fun j hj => i3 j (by omega)
    have keep : ¬ (tq p1 z16.toNatClampNeg = true ∧ g9 z16.toNatClampNeg 4 = 0) → (0 ≤ z16 + 1 ∧ z16 + 1 ≤ x0_works) ∧ ((0 ≤ z17 ∧ z17 ≤ 20) ∧ LnM z18 ∧ AI 0 99 z19 ∧ WkM z20) ∧ z15 = sm (cnU g9 p1) (z16 + 1).toNatClampNeg ∧ AbEq (z17, z18, z19) (doU g9 p1 (z16 + 1).toNatClampNeg (g2, g3, g4)) ∧ ∀ j, (z16 + 1).toNatClampNeg ≤ j → z20 j = g9 j := by
      intro hno
      refine ⟨⟨p0, hz1⟩, ⟨l1, l2, l3, l4⟩, ?_, ?_, i3'⟩
      · rw [nx1]
        unfold cnU
        rw [if_neg hno, Int32.add_zero]
      · rw [nx2, if_neg hno]
        exact i2
    refine Sf.ite (fun hb => Sf.inl (keep (fun h => by rw [(bit_at hz30).mp hb] at h; exact absurd h.1 (by decide))) (muUp_lt hc)) (fun hb => ?_)
    have hb : tq p1 z16.toNatClampNeg = true := by
      cases hq : tq p1 z16.toNatClampNeg with
      | true => rfl
      | false => exact absurd ((bit_at hz30).mpr hq) hb
    refine Sf.ckb 7 rfl hi (fun q32 e32 _ => ?_)
    refine Sf.rdl 4 rfl rfl (fun v33 e33 => ?_)
    rw [e32, row] at e33
    refine Sf.ite (fun hv => ?_) (fun hv => Sf.inl (keep (fun h => hv (e33.trans h.2))) (muUp_lt hc))
    rw [e33] at hv
    refine Sf.ckb 7 rfl hi (fun q34 e34 _ => ?_)
    refine Sf.rdl 3 rfl rfl (fun v35 e35 => ?_)
    rw [e34, row] at e35
    refine Sf.bind (Sf.and (sX7_does h_x1_shelf h_x1_rowSize h_x1_tapeSize l1 l2 l3 b4 b5 b6 b7 l4 b9 h_x1_from h_x1_far h_x1_way h_x1_steps h_x1_queue hz6) (doesR l1 l4 hz6)) ?_
    rintro ⟨g36, g37, g38, g39⟩ ⟨⟨d1, d2, d3, d4, _⟩, e36, e39⟩
    have e36 : AbEq (g36, g37, g38) (doA z20 z16.toNatClampNeg (z17, z18, z19)) := e36
    have e39 : g39 = va_up z20 z16.toNatClampNeg (va_up (z20 z16.toNatClampNeg) 4 1) := e39
    try dsimp only [u4]
    have qL := doU_L (work := g9) (s := p1) (A := (g2, g3, g4)) b1 z16.toNatClampNeg
    have eL : z17 = (doU g9 p1 z16.toNatClampNeg (g2, g3, g4)).1 := i2.1
    have hw1 : Wf1 z20 z17 z16.toNatClampNeg := ((hf9 _ hzn).congr (fun c _ => by rw [row])).mono (by rw [eL]; exact qL.1)
    refine Sf.inl (show (0 ≤ z16 + 1 ∧ z16 + 1 ≤ x0_works) ∧ ((0 ≤ g36 ∧ g36 ≤ 20) ∧ LnM g37 ∧ AI 0 99 g38 ∧ WkM g39) ∧ z15 + v35 = sm (cnU g9 p1) (z16 + 1).toNatClampNeg ∧ AbEq (g36, g37, g38) (doU g9 p1 (z16 + 1).toNatClampNeg (g2, g3, g4)) ∧ ∀ j, (z16 + 1).toNatClampNeg ≤ j → g39 j = g9 j from ⟨⟨p0, hz1⟩, ⟨d1, d2, d3, d4⟩, ?_, ?_, fun j hj => ?_⟩) (muUp_lt hc)
    · rw [nx1, e35]
      unfold cnU
      rw [if_pos ⟨hb, hv⟩]
    · rw [nx2, if_pos ⟨hb, hv⟩]
      exact AbEq.trans e36 (doA_congr i2 (fun c _ => by rw [row]) hw1 l1)
    · rw [e39, va_ne _ _ (by omega)]
      exact i3' j hj
  · rintro ⟨w22, w23, w24, w25, w26⟩ ⟨⟨l1, l2, l3, l4⟩, h1, h2⟩
    have h1 : w22 = _ := h1
    have h2 : AbEq (w23, w24, w25) _ := h2
    try dsimp only [u5]
    refine Sf.bind (freeR hn h_x1_shelf h_x1_rowSize h_x1_tapeSize l1 l2 l3 b4 b5 b6 b7 l4 b9 h_x1_from h_x1_far h_x1_way h_x1_steps h_x1_queue) ?_
    rintro ⟨v27, g28, g29, g30⟩ e27
    have e27 : v27 = FrA (w23, w24, w25) g5 g7 g6 := e27
    refine Sf.ok ?_
    show w22 + x0_years * v27 = _
    have hA : AbEq (g2, g3, g4) (g2, x0_line, x0_changes) := ⟨rfl, fun l hl c hc => s2 l (Nat.lt_of_lt_of_le hl hL) c hc, s3⟩
    have q := TotA_congr (W := x0_works) (yr := x0_years) (s := p1) hA b1 s4 (fun g hg c hc => s6 g (Nat.lt_of_lt_of_le hg hG) c hc) (fun k hk c hc => s8 k (by omega) c hc) hf9
    rw [← q, h1, e27, FrA_congr h2 (fun _ _ => rfl) (fun _ _ _ _ => rfl)]
    unfold TotA
    rw [Int32.add_comm]
end
section
/-! total: alike -/
theorem totalR {n : Nat} {x0_shelf : (Nat → Int32)} {x0_rowSort : (Nat → Int32)} {x0_rowSize : (Nat → Int32)} {x0_rows : (Nat → Nat → Int64)} {x0_moved : (Nat → Int64)} {x0_shown : (Nat → Int32)} {x0_tape : (Nat → Int32)} {x0_tapeSize : Int32} {x0_refused : (Nat → Int32)} {x0_lines : Int32} {x0_line : (Nat → Nat → Int32)} {x0_changes : (Nat → Int32)} {x0_coins : (Nat → Int32)} {x0_goods : Int32} {x0_good : (Nat → Nat → Int32)} {x0_works : Int32} {x0_work : (Nat → Nat → Int32)} {x0_years : Int32} {x0_gone : Int32} {x0_spent : Int32} {x0_at : Int32} {x0_token : Int32} {x0_from : Int32} {x0_figures : Int64} {x0_fault : Int32} {x0_numbers : (Nat → Int32)} {x0_statements : Int32} {x0_left : (Nat → Int32)} {x0_far : (Nat → Int32)} {x0_tons : Int32} {x0_way : (Nat → Int32)} {x0_steps : Int32} {x0_met : Int64} {x0_queue : (Nat → Int32)} {x0_totals : (Nat → Int32)} {x1_shelf : (Nat → Int32)} {x1_rowSort : (Nat → Int32)} {x1_rowSize : (Nat → Int32)} {x1_rows : (Nat → Nat → Int64)} {x1_moved : (Nat → Int64)} {x1_shown : (Nat → Int32)} {x1_tape : (Nat → Int32)} {x1_tapeSize : Int32} {x1_refused : (Nat → Int32)} {x1_lines : Int32} {x1_line : (Nat → Nat → Int32)} {x1_changes : (Nat → Int32)} {x1_coins : (Nat → Int32)} {x1_goods : Int32} {x1_good : (Nat → Nat → Int32)} {x1_works : Int32} {x1_work : (Nat → Nat → Int32)} {x1_years : Int32} {x1_gone : Int32} {x1_spent : Int32} {x1_at : Int32} {x1_token : Int32} {x1_from : Int32} {x1_figures : Int64} {x1_fault : Int32} {x1_numbers : (Nat → Int32)} {x1_statements : Int32} {x1_left : (Nat → Int32)} {x1_far : (Nat → Int32)} {x1_tons : Int32} {x1_way : (Nat → Int32)} {x1_steps : Int32} {x1_met : Int64} {x1_queue : (Nat → Int32)} {x1_totals : (Nat → Int32)} {p1 : Int32} (hn : 1000000000000 ≤ n) (h_x0_shelf : (AI 0 2 x0_shelf)) (h_x0_rowSize : (AI 0 40 x0_rowSize)) (h_x0_tapeSize : (0 ≤ x0_tapeSize ∧ x0_tapeSize ≤ 250)) (h_x0_lines : (0 ≤ x0_lines ∧ x0_lines ≤ 20)) (h_x0_line : (LnM x0_line)) (h_x0_changes : (AI 0 99 x0_changes)) (h_x0_coins : (AI 0 9 x0_coins)) (h_x0_goods : (0 ≤ x0_goods ∧ x0_goods ≤ 8)) (h_x0_good : (GdM x0_good)) (h_x0_works : (0 ≤ x0_works ∧ x0_works ≤ 7)) (h_x0_work : (WkM x0_work)) (h_x0_years : (1 ≤ x0_years ∧ x0_years ≤ 30)) (h_x0_from : (0 ≤ x0_from ∧ x0_from ≤ 250)) (h_x0_far : (AI 0 1000000000 x0_far)) (h_x0_way : (AI 0 22 x0_way)) (h_x0_steps : (0 ≤ x0_steps ∧ x0_steps ≤ 37)) (h_x0_queue : (AI 0 35 x0_queue)) (h_x1_shelf : (AI 0 2 x1_shelf)) (h_x1_rowSize : (AI 0 40 x1_rowSize)) (h_x1_tapeSize : (0 ≤ x1_tapeSize ∧ x1_tapeSize ≤ 250)) (h_x1_lines : (0 ≤ x1_lines ∧ x1_lines ≤ 20)) (h_x1_line : (LnM x1_line)) (h_x1_changes : (AI 0 99 x1_changes)) (h_x1_coins : (AI 0 9 x1_coins)) (h_x1_goods : (0 ≤ x1_goods ∧ x1_goods ≤ 8)) (h_x1_good : (GdM x1_good)) (h_x1_works : (0 ≤ x1_works ∧ x1_works ≤ 7)) (h_x1_work : (WkM x1_work)) (h_x1_years : (1 ≤ x1_years ∧ x1_years ≤ 30)) (h_x1_from : (0 ≤ x1_from ∧ x1_from ≤ 250)) (h_x1_far : (AI 0 1000000000 x1_far)) (h_x1_way : (AI 0 22 x1_way)) (h_x1_steps : (0 ≤ x1_steps ∧ x1_steps ≤ 37)) (h_x1_queue : (AI 0 35 x1_queue)) (hf : ∀ k, k < x0_works.toNatClampNeg → Wf1 x0_work x0_lines k) : Sf (fX7_total n (x0_shelf, x0_rowSort, x0_rowSize, x0_rows, x0_moved, x0_shown, x0_tape, x0_tapeSize, x0_refused, x0_lines, x0_line, x0_changes, x0_coins, x0_goods, x0_good, x0_works, x0_work, x0_years, x0_gone, x0_spent, x0_at, x0_token, x0_from, x0_figures, x0_fault, x0_numbers, x0_statements, x0_left, x0_far, x0_tons, x0_way, x0_steps, x0_met, x0_queue, x0_totals) (x1_shelf, x1_rowSort, x1_rowSize, x1_rows, x1_moved, x1_shown, x1_tape, x1_tapeSize, x1_refused, x1_lines, x1_line, x1_changes, x1_coins, x1_goods, x1_good, x1_works, x1_work, x1_years, x1_gone, x1_spent, x1_at, x1_token, x1_from, x1_figures, x1_fault, x1_numbers, x1_statements, x1_left, x1_far, x1_tons, x1_way, x1_steps, x1_met, x1_queue, x1_totals) p1) (fun r => AP (0 ≤ p1 ∧ p1 ≤ ((1 : Int32) <<< (x0_works &&& 31)) - 1) r.1 (r.1 = TotA (x0_lines, x0_line, x0_changes) x0_coins x0_good x0_goods x0_work x0_works x0_years p1) True) := by
  unfold fX7_total
  dsimp only [u35]
  refine Sf.bind (s_inq p1 0 (((1 : Int32) <<< (x0_works &&& 31)) - 1) (by decide) rfl) (fun v1 h1 => Sf.ite (fun hz => ?_) (fun hz => ?_))
  · refine Sf.bind (sX7_refuse h_x0_shelf h_x0_rowSize h_x0_tapeSize h_x0_lines h_x0_line h_x0_changes h_x0_coins h_x0_goods h_x0_good h_x0_works h_x0_work h_x0_years h_x0_from h_x0_far h_x0_way h_x0_steps h_x0_queue (by decide)) ?_
    rintro ⟨v, g⟩ e
    exact Sf.ok (Or.inr ⟨gd0 h1 hz, e, trivial⟩)
  · refine Sf.bind (totalOfR hn h_x0_shelf h_x0_rowSize h_x0_tapeSize h_x0_lines h_x0_line h_x0_changes h_x0_coins h_x0_goods h_x0_good h_x0_works h_x0_work h_x0_years h_x0_from h_x0_far h_x0_way h_x0_steps h_x0_queue h_x1_shelf h_x1_rowSize h_x1_tapeSize h_x1_lines h_x1_line h_x1_changes h_x1_coins h_x1_goods h_x1_good h_x1_works h_x1_work h_x1_years h_x1_from h_x1_far h_x1_way h_x1_steps h_x1_queue hf) ?_
    rintro ⟨v6, g8, g9, g10, g11, g12, g13, g14, g15, g16, g17, g18, g19, g20, g21⟩ e
    exact Sf.ok (Or.inl ⟨gd1 h1 hz, e⟩)
theorem dTotal {n : Nat} {x0_refused : (Nat → Int32)} {x0_isKept : Int32} {x0_gone : Int32} {x0_spent : Int32} {x1_gained : Nat → Int32} {x2_lineCount : Int32} {x2_goodsCount : Int32} {x2_workCount : Int32} {x2_years : Int32} {x2_lines : (Nat → Int32)} {x2_goods : (Nat → Int32)} {x2_works : (Nat → Int32)} {x2_change : (Nat → Int32)} {x2_coin : (Nat → Int32)} {x2_knownFree : (Nat → Int32)} {x2_isKnown : Int32} {x3_lineCount : Int32} {x3_goodsCount : Int32} {x3_workCount : Int32} {x3_years : Int32} {x3_lines : (Nat → Int32)} {x3_goods : (Nat → Int32)} {x3_works : (Nat → Int32)} {x3_change : (Nat → Int32)} {x3_coin : (Nat → Int32)} {x3_knownFree : (Nat → Int32)} {x3_isKnown : Int32} {x4_left : (Nat → Int32)} {x4_earned : (Nat → Int32)} {x4_turnCost : Int32} {x4_turnWayless : Int32} {x5_edgeA : (Nat → Int32)} {x5_edgeB : (Nat → Int32)} {x5_edgeCost : (Nat → Int32)} {x5_edgeLine : (Nat → Int32)} {x5_change : (Nat → Int32)} {x5_away : (Nat → Int32)} {x5_steps : (Nat → Int32)} {x5_nodes : (Nat → Int32)} {x5_stepCount : Int32} {x5_open : (Nat → Int32)} {x5_openCount : Int32} {x5_seen : Int64} {x5_edgeCount : Int32} {x5_aim : Int32} {m_shelf : (Nat → Int32)} {m_rowSort : (Nat → Int32)} {m_rowSize : (Nat → Int32)} {m_rows : (Nat → Nat → Int64)} {m_moved : (Nat → Int64)} {m_shown : (Nat → Int32)} {m_tape : (Nat → Int32)} {m_tapeSize : Int32} {m_refused : (Nat → Int32)} {m_lines : Int32} {m_line : (Nat → Nat → Int32)} {m_changes : (Nat → Int32)} {m_coins : (Nat → Int32)} {m_goods : Int32} {m_good : (Nat → Nat → Int32)} {m_works : Int32} {m_work : (Nat → Nat → Int32)} {m_years : Int32} {m_gone : Int32} {m_spent : Int32} {m_at : Int32} {m_token : Int32} {m_from : Int32} {m_figures : Int64} {m_fault : Int32} {m_numbers : (Nat → Int32)} {m_statements : Int32} {m_left : (Nat → Int32)} {m_far : (Nat → Int32)} {m_tons : Int32} {m_way : (Nat → Int32)} {m_steps : Int32} {m_met : Int64} {m_queue : (Nat → Int32)} {m_totals : (Nat → Int32)} {t_shelf : (Nat → Int32)} {t_rowSort : (Nat → Int32)} {t_rowSize : (Nat → Int32)} {t_rows : (Nat → Nat → Int64)} {t_moved : (Nat → Int64)} {t_shown : (Nat → Int32)} {t_tape : (Nat → Int32)} {t_tapeSize : Int32} {t_refused : (Nat → Int32)} {t_lines : Int32} {t_line : (Nat → Nat → Int32)} {t_changes : (Nat → Int32)} {t_coins : (Nat → Int32)} {t_goods : Int32} {t_good : (Nat → Nat → Int32)} {t_works : Int32} {t_work : (Nat → Nat → Int32)} {t_years : Int32} {t_gone : Int32} {t_spent : Int32} {t_at : Int32} {t_token : Int32} {t_from : Int32} {t_figures : Int64} {t_fault : Int32} {t_numbers : (Nat → Int32)} {t_statements : Int32} {t_left : (Nat → Int32)} {t_far : (Nat → Int32)} {t_tons : Int32} {t_way : (Nat → Int32)} {t_steps : Int32} {t_met : Int64} {t_queue : (Nat → Int32)} {t_totals : (Nat → Int32)} {p1 er fr : Int32} {A6 : (Nat → Int32) × (Int32 × Int32 × Int32 × Int32 × (Nat → Int32) × (Nat → Int32) × (Nat → Int32) × (Nat → Int32) × (Nat → Int32) × Int32) × (Int32 × (Nat → Int32) × (Nat → Int32) × (Nat → Int32) × Int32) × ((Nat → Int32) × (Nat → Int32) × (Nat → Int32) × (Nat → Int32) × (Nat → Int32) × (Nat → Int32) × Int32 × Int32)} {B6 : (Nat → Int32) × (Int32 × (Nat → Nat → Int32) × (Nat → Int32) × (Nat → Int32) × Int32 × (Nat → Nat → Int32) × Int32 × (Nat → Nat → Int32) × Int32 × Int32 × Int32 × (Nat → Int32) × (Nat → Int32) × Int32)} (hn : 1000000000000 ≤ n) (h_x2_lineCount : (0 ≤ x2_lineCount ∧ x2_lineCount ≤ 20)) (h_x2_goodsCount : (0 ≤ x2_goodsCount ∧ x2_goodsCount ≤ 8)) (h_x2_workCount : (0 ≤ x2_workCount ∧ x2_workCount ≤ 7)) (h_x2_years : (1 ≤ x2_years ∧ x2_years ≤ 30)) (h_x2_lines : (LnOk x2_lines)) (h_x2_goods : (GdOk x2_goods)) (h_x2_works : (WkOk x2_works)) (h_x2_change : (AI 0 99 x2_change)) (h_x2_coin : (AI 0 9 x2_coin)) (h_x3_lineCount : (0 ≤ x3_lineCount ∧ x3_lineCount ≤ 20)) (h_x3_goodsCount : (0 ≤ x3_goodsCount ∧ x3_goodsCount ≤ 8)) (h_x3_workCount : (0 ≤ x3_workCount ∧ x3_workCount ≤ 7)) (h_x3_years : (1 ≤ x3_years ∧ x3_years ≤ 30)) (h_x3_lines : (LnOk x3_lines)) (h_x3_goods : (GdOk x3_goods)) (h_x3_works : (WkOk x3_works)) (h_x3_change : (AI 0 99 x3_change)) (h_x3_coin : (AI 0 9 x3_coin)) (h_x5_edgeA : (AI 0 35 x5_edgeA)) (h_x5_edgeB : (AI 0 35 x5_edgeB)) (h_x5_edgeLine : (AI 0 19 x5_edgeLine)) (h_x5_steps : (AI 0 22 x5_steps)) (h_x5_nodes : (AI 0 35 x5_nodes)) (h_x5_stepCount : (0 ≤ x5_stepCount ∧ x5_stepCount ≤ 36)) (h_x5_open : (AI 0 35 x5_open)) (h_x5_openCount : (0 ≤ x5_openCount ∧ x5_openCount ≤ 36)) (h_x5_edgeCount : (0 ≤ x5_edgeCount ∧ x5_edgeCount ≤ 60)) (h_m_shelf : (AI 0 2 m_shelf)) (h_m_rowSize : (AI 0 40 m_rowSize)) (h_m_tapeSize : (0 ≤ m_tapeSize ∧ m_tapeSize ≤ 250)) (h_m_lines : (0 ≤ m_lines ∧ m_lines ≤ 20)) (h_m_line : (LnM m_line)) (h_m_changes : (AI 0 99 m_changes)) (h_m_coins : (AI 0 9 m_coins)) (h_m_goods : (0 ≤ m_goods ∧ m_goods ≤ 8)) (h_m_good : (GdM m_good)) (h_m_works : (0 ≤ m_works ∧ m_works ≤ 7)) (h_m_work : (WkM m_work)) (h_m_years : (1 ≤ m_years ∧ m_years ≤ 30)) (h_m_from : (0 ≤ m_from ∧ m_from ≤ 250)) (h_m_far : (AI 0 1000000000 m_far)) (h_m_way : (AI 0 22 m_way)) (h_m_steps : (0 ≤ m_steps ∧ m_steps ≤ 37)) (h_m_queue : (AI 0 35 m_queue)) (h_t_shelf : (AI 0 2 t_shelf)) (h_t_rowSize : (AI 0 40 t_rowSize)) (h_t_tapeSize : (0 ≤ t_tapeSize ∧ t_tapeSize ≤ 250)) (h_t_lines : (0 ≤ t_lines ∧ t_lines ≤ 20)) (h_t_line : (LnM t_line)) (h_t_changes : (AI 0 99 t_changes)) (h_t_coins : (AI 0 9 t_coins)) (h_t_goods : (0 ≤ t_goods ∧ t_goods ≤ 8)) (h_t_good : (GdM t_good)) (h_t_works : (0 ≤ t_works ∧ t_works ≤ 7)) (h_t_work : (WkM t_work)) (h_t_years : (1 ≤ t_years ∧ t_years ≤ 30)) (h_t_from : (0 ≤ t_from ∧ t_from ≤ 250)) (h_t_far : (AI 0 1000000000 t_far)) (h_t_way : (AI 0 22 t_way)) (h_t_steps : (0 ≤ t_steps ∧ t_steps ≤ 37)) (h_t_queue : (AI 0 35 t_queue)) (hA : (LaD x3_lineCount x3_goodsCount x3_workCount x3_years x3_lines x3_goods x3_works x3_change x3_coin m_lines m_line m_changes m_coins m_goods m_good m_works m_work m_years)) (hk : Kn (FrS x3_lineCount (ro 7 x3_lines) x3_change x3_coin (ro 3 x3_goods) x3_goodsCount (ro 5 x3_works) x3_workCount) x3_knownFree x3_isKnown) (eqA : fX6_total n (x0_refused, x0_isKept, x0_gone, x0_spent) x1_gained (x2_lineCount, x2_goodsCount, x2_workCount, x2_years, x2_lines, x2_goods, x2_works, x2_change, x2_coin, x2_knownFree, x2_isKnown) (x3_lineCount, x3_goodsCount, x3_workCount, x3_years, x3_lines, x3_goods, x3_works, x3_change, x3_coin, x3_knownFree, x3_isKnown) (x4_left, x4_earned, x4_turnCost, x4_turnWayless) (x5_edgeA, x5_edgeB, x5_edgeCost, x5_edgeLine, x5_change, x5_away, x5_steps, x5_nodes, x5_stepCount, x5_open, x5_openCount, x5_seen, x5_edgeCount, x5_aim) p1 = some (er, A6)) (eqB : fX7_total n (m_shelf, m_rowSort, m_rowSize, m_rows, m_moved, m_shown, m_tape, m_tapeSize, m_refused, m_lines, m_line, m_changes, m_coins, m_goods, m_good, m_works, m_work, m_years, m_gone, m_spent, m_at, m_token, m_from, m_figures, m_fault, m_numbers, m_statements, m_left, m_far, m_tons, m_way, m_steps, m_met, m_queue, m_totals) (t_shelf, t_rowSort, t_rowSize, t_rows, t_moved, t_shown, t_tape, t_tapeSize, t_refused, t_lines, t_line, t_changes, t_coins, t_goods, t_good, t_works, t_work, t_years, t_gone, t_spent, t_at, t_token, t_from, t_figures, t_fault, t_numbers, t_statements, t_left, t_far, t_tons, t_way, t_steps, t_met, t_queue, t_totals) p1 = some (fr, B6)) : er = fr := by
  have a := ((kTotal hn h_x2_lineCount h_x2_goodsCount h_x2_workCount h_x2_years h_x2_lines h_x2_goods h_x2_works h_x2_change h_x2_coin h_x3_lineCount h_x3_goodsCount h_x3_workCount h_x3_years h_x3_lines h_x3_goods h_x3_works h_x3_change h_x3_coin h_x5_edgeA h_x5_edgeB h_x5_edgeLine h_x5_steps h_x5_nodes h_x5_stepCount h_x5_open h_x5_openCount h_x5_edgeCount hA.2.2.2.2.2.2 hk).at eqA).1
  obtain ⟨⟨z1, z2, z3, z4⟩, z5, z6, z7, z8, z9, z10⟩ := id hA
  have hS := hA.s
  subst z1 z2 z3 z4
  have hW : WfS x3_workCount.toNatClampNeg ((x3_lineCount, ro 7 x3_lines, x3_change), ro 5 x3_works) := ⟨h_x3_lineCount, z10⟩
  have hW2 := hW.congr hS
  have b := (totalR hn h_m_shelf h_m_rowSize h_m_tapeSize h_x3_lineCount h_m_line h_m_changes h_m_coins h_x3_goodsCount h_m_good h_x3_workCount h_m_work h_x3_years h_m_from h_m_far h_m_way h_m_steps h_m_queue h_t_shelf h_t_rowSize h_t_tapeSize h_t_lines h_t_line h_t_changes h_t_coins h_t_goods h_t_good h_t_works h_t_work h_t_years h_t_from h_t_far h_t_way h_t_steps h_t_queue hW2.2).at eqB
  rcases AP_eq a b with ⟨a1, b1⟩ | ⟨e, _, _⟩
  · exact (a1.trans (TotA_congr hS.1 h_x3_lineCount z9 z6 z7 z10)).trans b1.symm
  · exact e
end
section
/-! cheapest -/
theorem costBetweenC {n : Nat} {x0_left : (Nat → Int32)} {x0_earned : (Nat → Int32)} {x0_turnCost : Int32} {x0_turnWayless : Int32} {x1_edgeA : (Nat → Int32)} {x1_edgeB : (Nat → Int32)} {x1_edgeCost : (Nat → Int32)} {x1_edgeLine : (Nat → Int32)} {x1_change : (Nat → Int32)} {x1_away : (Nat → Int32)} {x1_steps : (Nat → Int32)} {x1_nodes : (Nat → Int32)} {x1_stepCount : Int32} {x1_open : (Nat → Int32)} {x1_openCount : Int32} {x1_seen : Int64} {x1_edgeCount : Int32} {x1_aim : Int32} {x2_lineCount : Int32} {x2_goodsCount : Int32} {x2_workCount : Int32} {x2_years : Int32} {x2_lines : (Nat → Int32)} {x2_goods : (Nat → Int32)} {x2_works : (Nat → Int32)} {x2_change : (Nat → Int32)} {x2_coin : (Nat → Int32)} {x2_knownFree : (Nat → Int32)} {x2_isKnown : Int32} {p2 p3 : Int32} (hn : 1000000000000 ≤ n) (h_x1_edgeA : (AI 0 35 x1_edgeA)) (h_x1_edgeB : (AI 0 35 x1_edgeB)) (h_x1_edgeLine : (AI 0 19 x1_edgeLine)) (h_x1_steps : (AI 0 22 x1_steps)) (h_x1_nodes : (AI 0 35 x1_nodes)) (h_x1_stepCount : (0 ≤ x1_stepCount ∧ x1_stepCount ≤ 36)) (h_x1_open : (AI 0 35 x1_open)) (h_x1_openCount : (0 ≤ x1_openCount ∧ x1_openCount ≤ 36)) (h_x1_edgeCount : (0 ≤ x1_edgeCount ∧ x1_edgeCount ≤ 60)) (h_x2_lineCount : (0 ≤ x2_lineCount ∧ x2_lineCount ≤ 20)) (h_x2_goodsCount : (0 ≤ x2_goodsCount ∧ x2_goodsCount ≤ 8)) (h_x2_workCount : (0 ≤ x2_workCount ∧ x2_workCount ≤ 7)) (h_x2_years : (1 ≤ x2_years ∧ x2_years ≤ 30)) (h_x2_lines : (LnOk x2_lines)) (h_x2_goods : (GdOk x2_goods)) (h_x2_works : (WkOk x2_works)) (h_x2_change : (AI 0 99 x2_change)) (h_x2_coin : (AI 0 9 x2_coin)) (hp2 : 0 ≤ p2 ∧ p2 ≤ 11) (hp3 : 0 ≤ p3 ∧ p3 ≤ 11) {Tq : Nat → Nat → Int32} (hT : Tz (EdL x2_lineCount.toNatClampNeg (ro 7 x2_lines) x2_change x2_coin) Tq) : Sf (fX4_costBetween n (x0_left, x0_earned, x0_turnCost, x0_turnWayless) (x1_edgeA, x1_edgeB, x1_edgeCost, x1_edgeLine, x1_change, x1_away, x1_steps, x1_nodes, x1_stepCount, x1_open, x1_openCount, x1_seen, x1_edgeCount, x1_aim) (x2_lineCount, x2_goodsCount, x2_workCount, x2_years, x2_lines, x2_goods, x2_works, x2_change, x2_coin, x2_knownFree, x2_isKnown) p2 p3) (fun r => ∃ m, Ls 1000000 (Tq p3.toNatClampNeg) p2.toNatClampNeg m ∧ r.1 = if 1000000 ≤ m then (-1) else m) := by
  unfold fX4_costBetween
  dsimp only [u4, u14, u11]
  refine Sf.bind (thereS hn h_x2_lineCount) (fun v1 hb => ?_)
  refine Sf.bind (prepS hn h_x2_lines h_x2_coin h_x2_lineCount h_x1_edgeA h_x1_edgeB) ?_
  rintro ⟨g2, g3, g4, g5, g6, g7, g8⟩ ⟨q1, q2, q3, q4, q5, q6, q7⟩
  have q1 : g8 = (-1) := q1
  have q2 : AI 0 35 g2 := q2
  have q3 : AI 0 35 g3 := q3
  have q4 : 0 ≤ g7 ∧ g7 ≤ 60 := q4
  have q5 : ∀ e, e < g7.toNatClampNeg → 0 ≤ g4 e ∧ g4 e ≤ 999 := q5
  have q6 : ∀ k, k < 12 → g6 k = x2_change k := q6
  have q7 : EgOk x2_lines x2_coin v1 (fun l _ => l < x2_lineCount.toNatClampNeg) g2 g3 g4 g7.toNatClampNeg := q7
  have hL20 := nlt (M := 20) (N := 20) rfl h_x2_lineCount
  have hE : EdC g7.toNatClampNeg g2 g3 g4 g6 = EdL x2_lineCount.toNatClampNeg (ro 7 x2_lines) x2_change x2_coin := by
    funext u v c
    exact propext (EdC_Ed q7 (fun l hl => by rw [ro_eq (by decide)]; exact hb l hl) hL20 (fun l _ c hc => ro_eq (by omega)) (fun w _ => rfl) (fun p hp => (q6 p hp).symm) (fun l _ => by decide) u v c)
  have hC12 : C12 g6 := fun p hp => by rw [q6 p hp]; exact h_x2_change p
  try dsimp only [u7]
  refine Sf.bind (aimS hn q2 q3 q4 q5 hC12 hp3 (T := Tq p3.toNatClampNeg) (by rw [hE]; exact hT _ (p_of hp3)) (fun e => by rw [q1] at e; rw [← e] at hp3; exact absurd hp3.1 (by decide))) ?_
  rintro ⟨g12, g13⟩ ⟨r1, r2⟩
  have r1 : ∀ v, v < 36 → g12 v = Tq p3.toNatClampNeg v := r1
  try dsimp only [u2]
  refine Sf.bind (costS hn hp2) ?_
  rintro v15 ⟨m, hm, e⟩
  exact Sf.ok ⟨m, Ls_congr (p_of hp2) r1 hm, e⟩
end
section
/-! cheapest: alike -/
def VPl (p1 p2 : Int32) : Prop := (0 ≤ p1 ∧ p1 ≤ 11) ∧ (0 ≤ p2 ∧ p2 ≤ 11)
def ChV (Tq : Nat → Nat → Int32) (p1 p2 a : Int32) : Prop := ∃ m, Ls 1000000 (Tq p2.toNatClampNeg) p1.toNatClampNeg m ∧ a = if 1000000 ≤ m then (-5) else m
theorem ChV_eq {Tq : Nat → Nat → Int32} {p1 p2 a a' : Int32} (h : ChV Tq p1 p2 a) (h' : ChV Tq p1 p2 a') : a = a' := by
  obtain ⟨m, h1, h2⟩ := h
  obtain ⟨m', h3, h4⟩ := h'
  rw [h2, h4, Ls_uniq h1 h3]
theorem Ls_pos {T : Nat → Int32} {p : Nat} {m : Int32} (hT : A6 T) (hp : p < 12) (h : Ls 1000000 T p m) : 0 ≤ m := by
  rcases h.2.2 with e | ⟨w, hw, e⟩
  · rw [e]; decide
  · rw [e]; exact (hT _ (by omega)).1
theorem cheapestC {n : Nat} {x0_refused : (Nat → Int32)} {x0_isKept : Int32} {x0_gone : Int32} {x0_spent : Int32} {x1_lineCount : Int32} {x1_goodsCount : Int32} {x1_workCount : Int32} {x1_years : Int32} {x1_lines : (Nat → Int32)} {x1_goods : (Nat → Int32)} {x1_works : (Nat → Int32)} {x1_change : (Nat → Int32)} {x1_coin : (Nat → Int32)} {x1_knownFree : (Nat → Int32)} {x1_isKnown : Int32} {x2_left : (Nat → Int32)} {x2_earned : (Nat → Int32)} {x2_turnCost : Int32} {x2_turnWayless : Int32} {x3_edgeA : (Nat → Int32)} {x3_edgeB : (Nat → Int32)} {x3_edgeCost : (Nat → Int32)} {x3_edgeLine : (Nat → Int32)} {x3_change : (Nat → Int32)} {x3_away : (Nat → Int32)} {x3_steps : (Nat → Int32)} {x3_nodes : (Nat → Int32)} {x3_stepCount : Int32} {x3_open : (Nat → Int32)} {x3_openCount : Int32} {x3_seen : Int64} {x3_edgeCount : Int32} {x3_aim : Int32} {p1 p2 : Int32} (hn : 1000000000000 ≤ n) (h_x1_lineCount : (0 ≤ x1_lineCount ∧ x1_lineCount ≤ 20)) (h_x1_goodsCount : (0 ≤ x1_goodsCount ∧ x1_goodsCount ≤ 8)) (h_x1_workCount : (0 ≤ x1_workCount ∧ x1_workCount ≤ 7)) (h_x1_years : (1 ≤ x1_years ∧ x1_years ≤ 30)) (h_x1_lines : (LnOk x1_lines)) (h_x1_goods : (GdOk x1_goods)) (h_x1_works : (WkOk x1_works)) (h_x1_change : (AI 0 99 x1_change)) (h_x1_coin : (AI 0 9 x1_coin)) (h_x3_edgeA : (AI 0 35 x3_edgeA)) (h_x3_edgeB : (AI 0 35 x3_edgeB)) (h_x3_edgeLine : (AI 0 19 x3_edgeLine)) (h_x3_steps : (AI 0 22 x3_steps)) (h_x3_nodes : (AI 0 35 x3_nodes)) (h_x3_stepCount : (0 ≤ x3_stepCount ∧ x3_stepCount ≤ 36)) (h_x3_open : (AI 0 35 x3_open)) (h_x3_openCount : (0 ≤ x3_openCount ∧ x3_openCount ≤ 36)) (h_x3_edgeCount : (0 ≤ x3_edgeCount ∧ x3_edgeCount ≤ 60)) {Tq : Nat → Nat → Int32} (hT : Tz (EdL x1_lineCount.toNatClampNeg (ro 7 x1_lines) x1_change x1_coin) Tq) : Sf (fX6_cheapest n (x0_refused, x0_isKept, x0_gone, x0_spent) (x1_lineCount, x1_goodsCount, x1_workCount, x1_years, x1_lines, x1_goods, x1_works, x1_change, x1_coin, x1_knownFree, x1_isKnown) (x2_left, x2_earned, x2_turnCost, x2_turnWayless) (x3_edgeA, x3_edgeB, x3_edgeCost, x3_edgeLine, x3_change, x3_away, x3_steps, x3_nodes, x3_stepCount, x3_open, x3_openCount, x3_seen, x3_edgeCount, x3_aim) p1 p2) (fun r => AP (VPl p1 p2) r.1 (ChV Tq p1 p2 r.1) True) := by
  unfold fX6_cheapest
  dsimp only [u4, u14, u11]
  refine Sf.bind sX6_isPlace (fun v1 h1 => Sf.ite (fun hz => ?_) (fun hz => ?_))
  · refine Sf.bind refC ?_
    rintro ⟨v, g⟩ e
    exact Sf.ok (Or.inr ⟨fun V => gd0 h1 hz V.1, e, trivial⟩)
  have c1 := gd1 h1 hz
  refine Sf.bind sX6_isPlace (fun v6 h6 => Sf.ite (fun hz => ?_) (fun hz => ?_))
  · refine Sf.bind refC ?_
    rintro ⟨v, g⟩ e
    exact Sf.ok (Or.inr ⟨fun V => gd0 h6 hz V.2, e, trivial⟩)
  have c2 := gd1 h6 hz
  have hTF := hT _ (p_of c2)
  refine Sf.ite (fun he => ?_) (fun he => ?_)
  · refine Sf.ok (Or.inl ⟨⟨c1, c2⟩, ?_⟩)
    obtain ⟨m, hm⟩ : ∃ m, Ls 1000000 (Tq p2.toNatClampNeg) p1.toNatClampNeg m := ⟨_, Ls_m3 hTF.1 (p_of c1)⟩
    have h0 : Tq p2.toNatClampNeg (3 * p1.toNatClampNeg + 0) = 0 := hTF.2.1 _ (by rw [he]; omega)
    have hle := hm.1 0 (by decide)
    rw [h0] at hle
    have hge := Ls_pos hTF.1 (p_of c1) hm
    have e0 := Int32.le_antisymm hle hge
    refine ⟨_, hm, ?_⟩
    rw [e0]
    rfl
  · refine Sf.bind (costBetweenC hn h_x3_edgeA h_x3_edgeB h_x3_edgeLine h_x3_steps h_x3_nodes h_x3_stepCount h_x3_open h_x3_openCount h_x3_edgeCount h_x1_lineCount h_x1_goodsCount h_x1_workCount h_x1_years h_x1_lines h_x1_goods h_x1_works h_x1_change h_x1_coin c1 c2 hT) ?_
    rintro ⟨v8, g10, g11, g12, g13, g14, g15, g16, g17⟩ ⟨m, hm, e8⟩
    have e8 : v8 = _ := e8
    have hge := Ls_pos hTF.1 (p_of c1) hm
    try dsimp only [u2, u8]
    by_cases hf : 1000000 ≤ m
    · rw [if_pos hf] at e8
      rw [if_pos e8]
      refine Sf.bind refC ?_
      rintro ⟨v, g⟩ e
      exact Sf.ok (Or.inl ⟨⟨c1, c2⟩, m, hm, by rw [if_pos hf]; exact e⟩)
    · rw [if_neg hf] at e8
      rw [if_neg (by rw [e8]; intro h; rw [h] at hge; exact absurd hge (by decide))]
      exact Sf.ok (Or.inl ⟨⟨c1, c2⟩, m, hm, by rw [if_neg hf]; exact e8⟩)
theorem cheapestR {n : Nat} {x0_shelf : (Nat → Int32)} {x0_rowSort : (Nat → Int32)} {x0_rowSize : (Nat → Int32)} {x0_rows : (Nat → Nat → Int64)} {x0_moved : (Nat → Int64)} {x0_shown : (Nat → Int32)} {x0_tape : (Nat → Int32)} {x0_tapeSize : Int32} {x0_refused : (Nat → Int32)} {x0_lines : Int32} {x0_line : (Nat → Nat → Int32)} {x0_changes : (Nat → Int32)} {x0_coins : (Nat → Int32)} {x0_goods : Int32} {x0_good : (Nat → Nat → Int32)} {x0_works : Int32} {x0_work : (Nat → Nat → Int32)} {x0_years : Int32} {x0_gone : Int32} {x0_spent : Int32} {x0_at : Int32} {x0_token : Int32} {x0_from : Int32} {x0_figures : Int64} {x0_fault : Int32} {x0_numbers : (Nat → Int32)} {x0_statements : Int32} {x0_left : (Nat → Int32)} {x0_far : (Nat → Int32)} {x0_tons : Int32} {x0_way : (Nat → Int32)} {x0_steps : Int32} {x0_met : Int64} {x0_queue : (Nat → Int32)} {x0_totals : (Nat → Int32)} {p1 p2 : Int32} (hn : 1000000000000 ≤ n) (h_x0_shelf : (AI 0 2 x0_shelf)) (h_x0_rowSize : (AI 0 40 x0_rowSize)) (h_x0_tapeSize : (0 ≤ x0_tapeSize ∧ x0_tapeSize ≤ 250)) (h_x0_lines : (0 ≤ x0_lines ∧ x0_lines ≤ 20)) (h_x0_line : (LnM x0_line)) (h_x0_changes : (AI 0 99 x0_changes)) (h_x0_coins : (AI 0 9 x0_coins)) (h_x0_goods : (0 ≤ x0_goods ∧ x0_goods ≤ 8)) (h_x0_good : (GdM x0_good)) (h_x0_works : (0 ≤ x0_works ∧ x0_works ≤ 7)) (h_x0_work : (WkM x0_work)) (h_x0_years : (1 ≤ x0_years ∧ x0_years ≤ 30)) (h_x0_from : (0 ≤ x0_from ∧ x0_from ≤ 250)) (h_x0_far : (AI 0 1000000000 x0_far)) (h_x0_way : (AI 0 22 x0_way)) (h_x0_steps : (0 ≤ x0_steps ∧ x0_steps ≤ 37)) (h_x0_queue : (AI 0 35 x0_queue)) {Tq : Nat → Nat → Int32} (hT : Tz (EdL x0_lines.toNatClampNeg x0_line x0_changes x0_coins) Tq) : Sf (fX7_cheapest n (x0_shelf, x0_rowSort, x0_rowSize, x0_rows, x0_moved, x0_shown, x0_tape, x0_tapeSize, x0_refused, x0_lines, x0_line, x0_changes, x0_coins, x0_goods, x0_good, x0_works, x0_work, x0_years, x0_gone, x0_spent, x0_at, x0_token, x0_from, x0_figures, x0_fault, x0_numbers, x0_statements, x0_left, x0_far, x0_tons, x0_way, x0_steps, x0_met, x0_queue, x0_totals) p1 p2) (fun r => AP (VPl p1 p2) r.1 (ChV Tq p1 p2 r.1) True) := by
  unfold fX7_cheapest
  dsimp only [u35]
  refine Sf.bind sX7_isPlace (fun v1 h1 => Sf.ite (fun hz => ?_) (fun hz => ?_))
  · refine Sf.bind (sX7_refuse h_x0_shelf h_x0_rowSize h_x0_tapeSize h_x0_lines h_x0_line h_x0_changes h_x0_coins h_x0_goods h_x0_good h_x0_works h_x0_work h_x0_years h_x0_from h_x0_far h_x0_way h_x0_steps h_x0_queue (by decide)) ?_
    rintro ⟨v, g⟩ e
    exact Sf.ok (Or.inr ⟨fun V => gd0 h1 hz V.1, e, trivial⟩)
  have c1 := gd1 h1 hz
  refine Sf.bind sX7_isPlace (fun v6 h6 => Sf.ite (fun hz => ?_) (fun hz => ?_))
  · refine Sf.bind (sX7_refuse h_x0_shelf h_x0_rowSize h_x0_tapeSize h_x0_lines h_x0_line h_x0_changes h_x0_coins h_x0_goods h_x0_good h_x0_works h_x0_work h_x0_years h_x0_from h_x0_far h_x0_way h_x0_steps h_x0_queue (by decide)) ?_
    rintro ⟨v, g⟩ e
    exact Sf.ok (Or.inr ⟨fun V => gd0 h6 hz V.2, e, trivial⟩)
  have c2 := gd1 h6 hz
  have hTF := hT _ (p_of c2)
  refine Sf.bind (refillS hn h_x0_lines) (fun g8 e8 => ?_)
  have hleft : ∀ l, l < x0_lines.toNatClampNeg → ¬ g8 l < 0 := by
    intro l hl
    rw [e8 l hl]
    exact Int32.not_lt.mpr (h_x0_line l 4).1
  refine Sf.bind (farT hn h_x0_shelf h_x0_rowSize h_x0_tapeSize h_x0_lines h_x0_line h_x0_changes h_x0_coins h_x0_goods h_x0_good h_x0_works h_x0_work h_x0_years h_x0_from h_x0_far h_x0_way h_x0_steps h_x0_queue c2 hleft) ?_
  rintro ⟨g10, g11⟩ ⟨hA, hF, hlt⟩
  have hA : AI 0 1000000000 g10 := hA
  have hlt : ∀ v, v < 36 → g10 v < 1000000000 → g10 v < 1000000 := hlt
  try dsimp only [u2]
  refine Sf.bind (leastS hn c1) (fun v13 h13 => ?_)
  have hm := Ls_m3 hTF.1 (p_of c1)
  have hm2 := Ls_congr (p_of c1) (fun v hv => (TF_uniq hF hTF v hv).symm) hm
  have key := Ls_eq (fun w hw => hlt _ (by have := p_of c1; omega)) hm2 h13
  refine Sf.ite (fun hc => ?_) (fun hc => ?_)
  · refine Sf.bind (leastS hn c1) (fun v15 h15 => ?_)
    have e15 := Ls_uniq h15 h13
    refine Sf.ok (Or.inl ⟨⟨c1, c2⟩, _, hm, ?_⟩)
    show v15 = _
    rcases key with ⟨_, k2⟩ | ⟨k1, _, k3⟩
    · exact absurd hc (Int32.not_lt.mpr k2)
    · rw [if_neg (Int32.not_le.mpr k1), k3, e15]
  · refine Sf.bind (sX7_refuse h_x0_shelf h_x0_rowSize h_x0_tapeSize h_x0_lines h_x0_line h_x0_changes h_x0_coins h_x0_goods h_x0_good h_x0_works h_x0_work h_x0_years h_x0_from hA h_x0_way h_x0_steps h_x0_queue (by decide)) ?_
    rintro ⟨v, g⟩ e
    refine Sf.ok (Or.inl ⟨⟨c1, c2⟩, _, hm, ?_⟩)
    show v = _
    rcases key with ⟨k1, _⟩ | ⟨_, k2, _⟩
    · rw [if_pos k1]; exact e
    · exact absurd k2 hc
theorem dCheapest {n : Nat} {x0_refused : (Nat → Int32)} {x0_isKept : Int32} {x0_gone : Int32} {x0_spent : Int32} {x1_lineCount : Int32} {x1_goodsCount : Int32} {x1_workCount : Int32} {x1_years : Int32} {x1_lines : (Nat → Int32)} {x1_goods : (Nat → Int32)} {x1_works : (Nat → Int32)} {x1_change : (Nat → Int32)} {x1_coin : (Nat → Int32)} {x1_knownFree : (Nat → Int32)} {x1_isKnown : Int32} {x2_left : (Nat → Int32)} {x2_earned : (Nat → Int32)} {x2_turnCost : Int32} {x2_turnWayless : Int32} {x3_edgeA : (Nat → Int32)} {x3_edgeB : (Nat → Int32)} {x3_edgeCost : (Nat → Int32)} {x3_edgeLine : (Nat → Int32)} {x3_change : (Nat → Int32)} {x3_away : (Nat → Int32)} {x3_steps : (Nat → Int32)} {x3_nodes : (Nat → Int32)} {x3_stepCount : Int32} {x3_open : (Nat → Int32)} {x3_openCount : Int32} {x3_seen : Int64} {x3_edgeCount : Int32} {x3_aim : Int32} {m_shelf : (Nat → Int32)} {m_rowSort : (Nat → Int32)} {m_rowSize : (Nat → Int32)} {m_rows : (Nat → Nat → Int64)} {m_moved : (Nat → Int64)} {m_shown : (Nat → Int32)} {m_tape : (Nat → Int32)} {m_tapeSize : Int32} {m_refused : (Nat → Int32)} {m_lines : Int32} {m_line : (Nat → Nat → Int32)} {m_changes : (Nat → Int32)} {m_coins : (Nat → Int32)} {m_goods : Int32} {m_good : (Nat → Nat → Int32)} {m_works : Int32} {m_work : (Nat → Nat → Int32)} {m_years : Int32} {m_gone : Int32} {m_spent : Int32} {m_at : Int32} {m_token : Int32} {m_from : Int32} {m_figures : Int64} {m_fault : Int32} {m_numbers : (Nat → Int32)} {m_statements : Int32} {m_left : (Nat → Int32)} {m_far : (Nat → Int32)} {m_tons : Int32} {m_way : (Nat → Int32)} {m_steps : Int32} {m_met : Int64} {m_queue : (Nat → Int32)} {m_totals : (Nat → Int32)} {p1 p2 er fr : Int32} {A6 : (Nat → Int32) × ((Nat → Int32) × (Nat → Int32) × (Nat → Int32) × (Nat → Int32) × (Nat → Int32) × (Nat → Int32) × Int32 × Int32)} {B6 : (Nat → Int32) × (Nat → Int32) × (Nat → Int32) × Int32} (hn : 1000000000000 ≤ n) (h_x1_lineCount : (0 ≤ x1_lineCount ∧ x1_lineCount ≤ 20)) (h_x1_goodsCount : (0 ≤ x1_goodsCount ∧ x1_goodsCount ≤ 8)) (h_x1_workCount : (0 ≤ x1_workCount ∧ x1_workCount ≤ 7)) (h_x1_years : (1 ≤ x1_years ∧ x1_years ≤ 30)) (h_x1_lines : (LnOk x1_lines)) (h_x1_goods : (GdOk x1_goods)) (h_x1_works : (WkOk x1_works)) (h_x1_change : (AI 0 99 x1_change)) (h_x1_coin : (AI 0 9 x1_coin)) (h_x3_edgeA : (AI 0 35 x3_edgeA)) (h_x3_edgeB : (AI 0 35 x3_edgeB)) (h_x3_edgeLine : (AI 0 19 x3_edgeLine)) (h_x3_steps : (AI 0 22 x3_steps)) (h_x3_nodes : (AI 0 35 x3_nodes)) (h_x3_stepCount : (0 ≤ x3_stepCount ∧ x3_stepCount ≤ 36)) (h_x3_open : (AI 0 35 x3_open)) (h_x3_openCount : (0 ≤ x3_openCount ∧ x3_openCount ≤ 36)) (h_x3_edgeCount : (0 ≤ x3_edgeCount ∧ x3_edgeCount ≤ 60)) (h_m_shelf : (AI 0 2 m_shelf)) (h_m_rowSize : (AI 0 40 m_rowSize)) (h_m_tapeSize : (0 ≤ m_tapeSize ∧ m_tapeSize ≤ 250)) (h_m_lines : (0 ≤ m_lines ∧ m_lines ≤ 20)) (h_m_line : (LnM m_line)) (h_m_changes : (AI 0 99 m_changes)) (h_m_coins : (AI 0 9 m_coins)) (h_m_goods : (0 ≤ m_goods ∧ m_goods ≤ 8)) (h_m_good : (GdM m_good)) (h_m_works : (0 ≤ m_works ∧ m_works ≤ 7)) (h_m_work : (WkM m_work)) (h_m_years : (1 ≤ m_years ∧ m_years ≤ 30)) (h_m_from : (0 ≤ m_from ∧ m_from ≤ 250)) (h_m_far : (AI 0 1000000000 m_far)) (h_m_way : (AI 0 22 m_way)) (h_m_steps : (0 ≤ m_steps ∧ m_steps ≤ 37)) (h_m_queue : (AI 0 35 m_queue)) (hA : (LaD x1_lineCount x1_goodsCount x1_workCount x1_years x1_lines x1_goods x1_works x1_change x1_coin m_lines m_line m_changes m_coins m_goods m_good m_works m_work m_years)) (eqA : fX6_cheapest n (x0_refused, x0_isKept, x0_gone, x0_spent) (x1_lineCount, x1_goodsCount, x1_workCount, x1_years, x1_lines, x1_goods, x1_works, x1_change, x1_coin, x1_knownFree, x1_isKnown) (x2_left, x2_earned, x2_turnCost, x2_turnWayless) (x3_edgeA, x3_edgeB, x3_edgeCost, x3_edgeLine, x3_change, x3_away, x3_steps, x3_nodes, x3_stepCount, x3_open, x3_openCount, x3_seen, x3_edgeCount, x3_aim) p1 p2 = some (er, A6)) (eqB : fX7_cheapest n (m_shelf, m_rowSort, m_rowSize, m_rows, m_moved, m_shown, m_tape, m_tapeSize, m_refused, m_lines, m_line, m_changes, m_coins, m_goods, m_good, m_works, m_work, m_years, m_gone, m_spent, m_at, m_token, m_from, m_figures, m_fault, m_numbers, m_statements, m_left, m_far, m_tons, m_way, m_steps, m_met, m_queue, m_totals) p1 p2 = some (fr, B6)) : er = fr := by
  obtain ⟨Tq, hT⟩ := Tz_ex h_m_lines h_m_line h_m_changes h_m_coins
  obtain ⟨⟨z1, z2, z3, z4⟩, z5, z6, z7, z8, z9, z10⟩ := hA
  have hE : EdL x1_lineCount.toNatClampNeg (ro 7 x1_lines) x1_change x1_coin = EdL m_lines.toNatClampNeg m_line m_changes m_coins := by
    rw [← z1]
    exact EdL_congr z5 z8 z9
  have hT2 : Tz (EdL x1_lineCount.toNatClampNeg (ro 7 x1_lines) x1_change x1_coin) Tq := by rw [hE]; exact hT
  have a := (cheapestC hn h_x1_lineCount h_x1_goodsCount h_x1_workCount h_x1_years h_x1_lines h_x1_goods h_x1_works h_x1_change h_x1_coin h_x3_edgeA h_x3_edgeB h_x3_edgeLine h_x3_steps h_x3_nodes h_x3_stepCount h_x3_open h_x3_openCount h_x3_edgeCount hT2).at eqA
  have b := (cheapestR hn h_m_shelf h_m_rowSize h_m_tapeSize h_m_lines h_m_line h_m_changes h_m_coins h_m_goods h_m_good h_m_works h_m_work h_m_years h_m_from h_m_far h_m_way h_m_steps h_m_queue hT).at eqB
  rcases AP_eq a b with ⟨a1, b1⟩ | ⟨e, _, _⟩
  · exact ChV_eq a1 b1
  · exact e
end
section
/-! THE WAY: what it is, and the reference's -/
def Pf {α : Type} (x : Option α) (Q : α → Prop) : Prop := ∀ r, x = some r → Q r
theorem Pf.ok {α : Type} {a : α} {Q : α → Prop} (h : Q a) : Pf (some a) Q := by
  intro r e
  cases e
  exact h
theorem Pf.bindP {α β : Type} {x : Option α} {f : α → Option β} {P : α → Prop} {Q : β → Prop} (hx : Pf x P) (hf : ∀ a, P a → Pf (f a) Q) : Pf (x.bind f) Q := by
  intro r e
  cases x with
  | none => cases e
  | some a => exact hf a (hx a rfl) r e
theorem Pf.bind {α β : Type} {x : Option α} {f : α → Option β} {Q : β → Prop} (hf : ∀ a, Pf (f a) Q) : Pf (x.bind f) Q := Pf.bindP (P := fun _ => True) (fun _ _ => trivial) (fun a _ => hf a)
theorem Pf.ite {α : Type} {c : Prop} [inst : Decidable c] {a b : Option α} {Q : α → Prop} (h1 : c → Pf a Q) (h2 : ¬ c → Pf b Q) : Pf (if c then a else b) Q := by
  by_cases h : c
  · rw [if_pos h]; exact h1 h
  · rw [if_neg h]; exact h2 h
theorem Pf.loop {S E : Type} {step : S → Option (S ⊕ E)} {Q : E → Prop} (I : S → Prop) (hs : ∀ s, I s → Pf (step s) (fun r => Sum.elim I Q r)) : ∀ (n : Nat) (s : S), I s → Pf (lp step n s) Q := by
  intro n
  induction n with
  | zero => intro s _ r e; cases e
  | succ n ih =>
    intro s hI r e
    cases er : step s with
    | none => simp only [lp, er] at e; cases e
    | some w =>
      have hw := hs s hI w er
      cases w with
      | inl s' =>
        simp only [lp, er] at e
        exact ih s' hw r e
      | inr x =>
        simp only [lp, er] at e
        cases e
        exact hw
theorem Pf.sf {α : Type} {x : Option α} {P : α → Prop} (h : Sf x P) : Pf x P := fun _ e => h.at e
theorem Pf.imp {α : Type} {x : Option α} {P Q : α → Prop} (h : Pf x P) (hq : ∀ a, P a → Q a) : Pf x Q := fun r e => hq r (h r e)
theorem inb_rng {i : Int32} {n : Nat} (h : inb i n = true) : 0 ≤ i ∧ i.toNatClampNeg < n := by
  have q : ¬ (i < 0 ∨ n ≤ i.toNatClampNeg) := inb_vp h
  exact ⟨Int32.not_lt.mp (fun z => q (Or.inl z)), Nat.not_le.mp (fun z => q (Or.inr z))⟩
theorem Pf.rdb {α β : Type} {N : Nat} {f : Nat → α} {i : Int32} {k : α → Option β} {Q : β → Prop} (hk : ∀ v, v = f i.toNatClampNeg → (0 ≤ i ∧ i.toNatClampNeg < N) → Pf (k v) Q) : Pf ((rd N f i).bind k) Q :=
  Pf.bindP (P := fun v => v = f i.toNatClampNeg ∧ (0 ≤ i ∧ i.toNatClampNeg < N)) (fun _ e => ⟨(rd_ok e).2, inb_rng (rd_ok e).1⟩) (fun v h => hk v h.1 h.2)
theorem Pf.wrb {α β : Type} {N : Nat} {f : Nat → α} {i : Int32} {x : α} {k : (Nat → α) → Option β} {Q : β → Prop} (hk : ∀ g, g = va_up f i.toNatClampNeg x → (0 ≤ i ∧ i.toNatClampNeg < N) → Pf (k g) Q) : Pf ((wr N f i x).bind k) Q :=
  Pf.bindP (P := fun g => g = va_up f i.toNatClampNeg x ∧ (0 ≤ i ∧ i.toNatClampNeg < N)) (fun _ e => ⟨(wr_ok e).2, inb_rng (wr_ok e).1⟩) (fun v h => hk v h.1 h.2)
theorem Pf.ckb {β : Type} {N : Nat} {i : Int32} {k : Nat → Option β} {Q : β → Prop} (hk : ∀ q, q = i.toNatClampNeg → (0 ≤ i ∧ q < N) → Pf (k q) Q) : Pf ((ck i N).bind k) Q :=
  Pf.bindP (P := fun q => q = i.toNatClampNeg ∧ (0 ≤ i ∧ q < N)) (fun _ e => ⟨(ck_ok e).2.1, (inb_rng (ck_ok e).1).1, (ck_ok e).2.2⟩) (fun v h => hk v h.1 h.2)
/-- a way that ends at g and meets nothing of M -/
abbrev CE (E : Nat → Nat → Prop) (g : Nat) (M : Nat → Prop) (u : Nat) : Prop := ∃ k, Pk E (fun u => u / 3 = g) M k u
/-- the least step after which the end can still be come to -/
def Nx (T : Nat → Nat → Nat → Prop) (E : Nat → Nat → Prop) (g : Nat) (M : Nat → Prop) (u s v : Nat) : Prop :=
  T u s v ∧ CE E g M v ∧ ∀ s', s' < s → ∀ v', T u s' v' → ¬ CE E g M v'
def Wy (T : Nat → Nat → Nat → Prop) (E : Nat → Nat → Prop) (g : Nat) : List (Nat × Nat) → (Nat → Prop) → Nat → Prop
  | [], _, u => u / 3 = g
  | p :: r, M, u => ¬ u / 3 = g ∧ Nx T E g M u p.1 p.2 ∧ Wy T E g r (fun x => M x ∨ x = p.2) p.2
theorem Nx.uniq {T : Nat → Nat → Nat → Prop} {E : Nat → Nat → Prop} {g : Nat} {M : Nat → Prop} (hT : ∀ u s v v', T u s v → T u s v' → v = v') {u s v s' v' : Nat} (h : Nx T E g M u s v) (h' : Nx T E g M u s' v') : s = s' ∧ v = v' := by
  have e : s = s' := by
    rcases Nat.lt_trichotomy s s' with l | l | l
    · exact absurd h.2.1 (h'.2.2 s l v h.1)
    · exact l
    · exact absurd h'.2.1 (h.2.2 s' l v' h'.1)
  subst e
  exact ⟨rfl, hT _ _ _ _ h.1 h'.1⟩
theorem Wy.uniq {T : Nat → Nat → Nat → Prop} {E : Nat → Nat → Prop} {g : Nat} (hT : ∀ u s v v', T u s v → T u s v' → v = v') : ∀ (a b : List (Nat × Nat)) (M : Nat → Prop) (u : Nat), Wy T E g a M u → Wy T E g b M u → a = b := by
  intro a
  induction a with
  | nil =>
    intro b M u ha hb
    cases b with
    | nil => rfl
    | cons q r => exact absurd ha hb.1
  | cons p a ih =>
    intro b M u ha hb
    cases b with
    | nil => exact absurd hb ha.1
    | cons q r =>
      obtain ⟨e1, e2⟩ := Nx.uniq hT ha.2.1 hb.2.1
      have e : p = q := Prod.ext e1 e2
      subst e
      rw [ih r _ _ ha.2.2 hb.2.2]
theorem Pk.cong {E E' : Nat → Nat → Prop} {G M : Nat → Prop} {R : Nat → Prop} (hR : ∀ u v, R u → E u v → R v) (hE : ∀ u v, R u → E u v → E' u v) : ∀ (k u : Nat), R u → Pk E G M k u → Pk E' G M k u := by
  intro k
  induction k with
  | zero => intro u _ h; exact h
  | succ k ih =>
    intro u hu h
    obtain ⟨hm, v, hv, hk⟩ := h
    exact ⟨hm, v, hE u v hu hv, ih v (hR u v hu hv) hk⟩
/-- the same on a set of nodes that the steps don't leave -/
theorem Wy.cong {T T' : Nat → Nat → Nat → Prop} {E E' : Nat → Nat → Prop} {g : Nat} {R : Nat → Prop} (hT : ∀ u s v, R u → (T u s v ↔ T' u s v)) (hE : ∀ u v, R u → (E u v ↔ E' u v)) (hR : ∀ u v, R u → E u v → R v) (hTE : ∀ u s v, T u s v → E u v) : ∀ (a : List (Nat × Nat)) (M : Nat → Prop) (u : Nat), R u → Wy T E g a M u → Wy T' E' g a M u := by
  intro a
  induction a with
  | nil => intro M u _ h; exact h
  | cons p a ih =>
    intro M u hu h
    have hv : R p.2 := hR _ _ hu (hTE _ _ _ h.2.1.1)
    have c1 : ∀ v, R v → CE E g M v → CE E' g M v := fun v hv ⟨k, hk⟩ => ⟨k, Pk.cong hR (fun u v hu h => (hE u v hu).mp h) k v hv hk⟩
    have c2 : ∀ v, R v → CE E' g M v → CE E g M v := fun v hv ⟨k, hk⟩ => ⟨k, Pk.cong (fun u v hu h => hR u v hu ((hE u v hu).mpr h)) (fun u v hu h => (hE u v hu).mpr h) k v hv hk⟩
    refine ⟨h.1, ⟨(hT _ _ _ hu).mp h.2.1.1, c1 _ hv h.2.1.2.1, fun s' hs v' ht hc => ?_⟩, ih _ _ hv h.2.2⟩
    have ht2 := (hT _ _ _ hu).mpr ht
    exact h.2.1.2.2 s' hs v' ht2 (c2 _ (hR _ _ hu (hTE _ _ _ ht2)) hc)
/-- the steps so far -/
def PreW (T : Nat → Nat → Nat → Prop) (E : Nat → Nat → Prop) (g : Nat) (M0 : Nat → Prop) (u0 : Nat) (pre : List (Nat × Nat)) (M : Nat → Prop) (u : Nat) : Prop := ∀ r, Wy T E g r M u → Wy T E g (pre ++ r) M0 u0
theorem PreW.nil {T : Nat → Nat → Nat → Prop} {E : Nat → Nat → Prop} {g : Nat} {M : Nat → Prop} {u : Nat} : PreW T E g M u [] M u := fun _ h => h
theorem PreW.snoc {T : Nat → Nat → Nat → Prop} {E : Nat → Nat → Prop} {g : Nat} {M0 : Nat → Prop} {u0 : Nat} {pre : List (Nat × Nat)} {M : Nat → Prop} {u s v : Nat} (h : PreW T E g M0 u0 pre M u) (hg : ¬ u / 3 = g) (hx : Nx T E g M u s v) : PreW T E g M0 u0 (pre ++ [(s, v)]) (fun x => M x ∨ x = v) v := by
  intro r hr
  rw [List.append_assoc]
  exact h ((s, v) :: r) ⟨hg, hx, hr⟩
theorem PreW.done {T : Nat → Nat → Nat → Prop} {E : Nat → Nat → Prop} {g : Nat} {M0 : Nat → Prop} {u0 : Nat} {pre : List (Nat × Nat)} {M : Nat → Prop} {u : Nat} (h : PreW T E g M0 u0 pre M u) (hg : u / 3 = g) : Wy T E g pre M0 u0 := by
  have q := h [] hg
  rw [List.append_nil] at q
  exact q
/-- the steps as they stand in an array, the first one left out -/
def Arr (f : Nat → Int32) (pre : List (Nat × Nat)) : Prop := ∀ i p, pre[i]? = some p → f (i + 1) = Int32.ofNat p.1
def ArrN (f : Nat → Int32) (pre : List (Nat × Nat)) : Prop := ∀ i p, pre[i]? = some p → f (i + 1) = Int32.ofNat p.2
theorem snoc_get {pre : List (Nat × Nat)} {q p : Nat × Nat} {i : Nat} (h : (pre ++ [q])[i]? = some p) : (i < pre.length ∧ pre[i]? = some p) ∨ (i = pre.length ∧ p = q) := by
  rcases Nat.lt_trichotomy i pre.length with l | l | l
  · rw [List.getElem?_append_left l] at h
    exact Or.inl ⟨l, h⟩
  · subst l
    rw [List.getElem?_append_right (Nat.le_refl _), Nat.sub_self] at h
    have h : some q = some p := h
    exact Or.inr ⟨rfl, (Option.some.inj h).symm⟩
  · rw [List.getElem?_eq_none (by simp only [List.length_append, List.length_cons, List.length_nil]; omega)] at h
    cases h
theorem Arr.snoc {f : Nat → Int32} {pre : List (Nat × Nat)} {s v : Nat} (h : Arr f pre) : Arr (va_up f (pre.length + 1) (Int32.ofNat s)) (pre ++ [(s, v)]) := by
  intro i p hp
  rcases snoc_get hp with ⟨l, e⟩ | ⟨l, e⟩
  · rw [va_ne _ _ (by omega)]
    exact h i p e
  · rw [l, va_eq, e]
theorem ArrN.snoc {f : Nat → Int32} {pre : List (Nat × Nat)} {s v : Nat} (h : ArrN f pre) : ArrN (va_up f (pre.length + 1) (Int32.ofNat v)) (pre ++ [(s, v)]) := by
  intro i p hp
  rcases snoc_get hp with ⟨l, e⟩ | ⟨l, e⟩
  · rw [va_ne _ _ (by omega)]
    exact h i p e
  · rw [l, va_eq, e]
theorem Arr.nil {f : Nat → Int32} : Arr f [] := fun i p h => by cases h
theorem ArrN.nil {f : Nat → Int32} : ArrN f [] := fun i p h => by cases h
/-- the reference's steps -/
def T7 (L : Nat) (line : Nat → Nat → Int32) (changes coins left far : Nat → Int32) (tons : Int32) (u s v : Nat) : Prop := v < 36 ∧ s < 3 + L ∧ stF line changes coins left far tons (Int32.ofNat u) (Int32.ofNat s) = some (Int32.ofNat v)
theorem T7.e {L : Nat} {line : Nat → Nat → Int32} {changes coins left far : Nat → Int32} {tons : Int32} (u s v : Nat) (h : T7 L line changes coins left far tons u s v) : EP L line changes coins left far tons u v := ⟨h.1, s, h.2.1, h.2.2⟩
theorem T7.det {L : Nat} {line : Nat → Nat → Int32} {changes coins left far : Nat → Int32} {tons : Int32} (u s v v' : Nat) (h : T7 L line changes coins left far tons u s v) (h' : T7 L line changes coins left far tons u s v') : v = v' := by
  have e := h.2.2
  rw [h'.2.2] at e
  exact (oinj (Nat.lt_trans h'.1 (by decide)) (Nat.lt_trans h.1 (by decide)) (Option.some.inj e)).symm
theorem tb_fun {s : Int64} {v : Int32} (h : 0 ≤ v ∧ v ≤ 35) : (fun x => tb (s ||| ((1 : Int64) <<< (v.toInt64 &&& 63))) x = true) = (fun x => tb s x = true ∨ x = v.toNatClampNeg) := by
  funext x
  rw [tb_setA h]
  simp
end
section
/-! the reference's findWay -/
theorem Pf.inl {S E : Type} {I : S → Prop} {Q : E → Prop} {s : S} (h : I s) : Pf (some (Sum.inl s : S ⊕ E)) (fun r => Sum.elim I Q r) := Pf.ok h
theorem Pf.inr {S E : Type} {I : S → Prop} {Q : E → Prop} {e : E} (h : Q e) : Pf (some (Sum.inr e : S ⊕ E)) (fun r => Sum.elim I Q r) := Pf.ok h
theorem Pf.someb {α β : Type} {a : α} {f : α → Option β} {Q : β → Prop} (h : Pf (f a) Q) : Pf ((some a).bind f) Q := h
theorem o_succ (k : Nat) : Int32.ofNat (k + 1) = Int32.ofNat k + 1 := by
  rw [Int32.ofNat_add]
  rfl
theorem Arr.up0 {f : Nat → Int32} {x : Int32} : (va_up f (0 : Int32).toNatClampNeg x) 0 = x := va_eq f 0 x
theorem stF_rng {line good work : Nat → Nat → Int32} {changes coins left far : Nat → Int32} {tons u s r : Int32} (hl : LnM line) (hch : AI 0 99 changes) (hco : AI 0 9 coins) (hA : AI 0 1000000000 far) (hgo : GdM good) (hwk : WkM work) (hu : 0 ≤ u ∧ u ≤ 35) (hs : 0 ≤ s ∧ s ≤ 22) (e : stF line changes coins left far tons u s = some r) : -1 ≤ r ∧ r ≤ 35 := by
  have q := sX7_stepTo (x0_shelf := fun _ => 0) (x0_rowSort := fun _ => 0) (x0_rowSize := fun _ => 0) (x0_rows := fun _ _ => 0) (x0_moved := fun _ => 0) (x0_shown := fun _ => 0) (x0_tape := fun _ => 0) (x0_tapeSize := 0) (x0_refused := fun _ => 0) (x0_lines := 0) (x0_line := line) (x0_changes := changes) (x0_coins := coins) (x0_goods := 0) (x0_good := good) (x0_works := 0) (x0_work := work) (x0_years := 1) (x0_gone := 0) (x0_spent := 0) (x0_at := 0) (x0_token := 0) (x0_from := 0) (x0_figures := 0) (x0_fault := 0) (x0_numbers := fun _ => 0) (x0_statements := 0) (x0_left := left) (x0_far := far) (x0_tons := tons) (x0_way := fun _ => 0) (x0_steps := 0) (x0_met := 0) (x0_queue := fun _ => 0) (x0_totals := fun _ => 0) (fun _ => (by decide : (0 : Int32) ≤ 0 ∧ (0 : Int32) ≤ 2)) (fun _ => (by decide : (0 : Int32) ≤ 0 ∧ (0 : Int32) ≤ 40)) (by decide) (by decide) hl hch hco (by decide) hgo (by decide) hwk (by decide) (by decide) hA (fun _ => (by decide : (0 : Int32) ≤ 0 ∧ (0 : Int32) ≤ 22)) (by decide) (fun _ => (by decide : (0 : Int32) ≤ 0 ∧ (0 : Int32) ≤ 35)) hu hs
  rw [stF_eq] at q
  exact q.at e

theorem s146P {n : Nat} {p2 : Int32} {x0_shelf : (Nat → Int32)} {x0_rowSort : (Nat → Int32)} {x0_rowSize : (Nat → Int32)} {x0_rows : (Nat → Nat → Int64)} {x0_moved : (Nat → Int64)} {x0_shown : (Nat → Int32)} {x0_tape : (Nat → Int32)} {x0_tapeSize : Int32} {x0_refused : (Nat → Int32)} {x0_lines : Int32} {x0_line : (Nat → Nat → Int32)} {x0_changes : (Nat → Int32)} {x0_coins : (Nat → Int32)} {x0_goods : Int32} {x0_good : (Nat → Nat → Int32)} {x0_works : Int32} {x0_work : (Nat → Nat → Int32)} {x0_years : Int32} {x0_gone : Int32} {x0_spent : Int32} {x0_at : Int32} {x0_token : Int32} {x0_from : Int32} {x0_figures : Int64} {x0_fault : Int32} {x0_numbers : (Nat → Int32)} {x0_statements : Int32} {x0_left : (Nat → Int32)} {x0_totals : (Nat → Int32)} {g1 z17 z20 : Nat → Int32} {g2 z16 z18 w26 : Int32} {z19 : Int64} {vS sS : Nat} (hn : 1000000000000 ≤ n) (h_x0_shelf : (AI 0 2 x0_shelf)) (h_x0_rowSize : (AI 0 40 x0_rowSize)) (h_x0_tapeSize : (0 ≤ x0_tapeSize ∧ x0_tapeSize ≤ 250)) (h_x0_lines : (0 ≤ x0_lines ∧ x0_lines ≤ 20)) (h_x0_line : (LnM x0_line)) (h_x0_changes : (AI 0 99 x0_changes)) (h_x0_coins : (AI 0 9 x0_coins)) (h_x0_goods : (0 ≤ x0_goods ∧ x0_goods ≤ 8)) (h_x0_good : (GdM x0_good)) (h_x0_works : (0 ≤ x0_works ∧ x0_works ≤ 7)) (h_x0_work : (WkM x0_work)) (h_x0_years : (1 ≤ x0_years ∧ x0_years ≤ 30)) (h_x0_from : (0 ≤ x0_from ∧ x0_from ≤ 250)) (hg1 : AI 0 1000000000 g1) (h17 : AI 0 22 z17) (h18 : 0 ≤ z18 ∧ z18 ≤ 37) (hp2 : 0 ≤ p2 ∧ p2 ≤ 11) (h16 : 0 ≤ z16 ∧ z16 ≤ 35) (hS : (T7 x0_lines.toNatClampNeg x0_line x0_changes x0_coins x0_left g1 g2) z16.toNatClampNeg sS vS) (hC : CE (EP x0_lines.toNatClampNeg x0_line x0_changes x0_coins x0_left g1 g2) p2.toNatClampNeg (fun x => tb z19 x = true) vS) (h20 : AI 0 35 z20) (e26 : stF x0_line x0_changes x0_coins x0_left g1 g2 z16 0 = some w26) : Pf (lp (u3 (fX7_findWay_s146 n p2 x0_shelf x0_rowSort x0_rowSize x0_rows x0_moved x0_shown x0_tape x0_tapeSize x0_refused x0_lines x0_line x0_changes x0_coins x0_goods x0_good x0_works x0_work x0_years x0_gone x0_spent x0_at x0_token x0_from x0_figures x0_fault x0_numbers x0_statements x0_left       x0_totals g1 g2 z16 z17 z18 z19)) n (0, w26, z20)) (fun e => ∃ s v : Nat, e.1 = Int32.ofNat s ∧ e.2.1 = Int32.ofNat v ∧ AI 0 35 e.2.2 ∧ v < 36 ∧ s ≤ 22 ∧ Nx (T7 x0_lines.toNatClampNeg x0_line x0_changes x0_coins x0_left g1 g2) (EP x0_lines.toNatClampNeg x0_line x0_changes x0_coins x0_left g1 g2) p2.toNatClampNeg (fun x => tb z19 x = true) z16.toNatClampNeg s v) := by
  have lL : x0_lines.toNatClampNeg ≤ 20 := by
    have a := i32_cl h_x0_lines.1
    have b := Int32.le_iff_toInt_le.mp h_x0_lines.2
    have z20 : (20 : Int32).toInt = 20 := by decide
    rw [z20] at b
    omega
  have hS22 : sS ≤ 22 := by
    have q := hS.2.1
    omega
  refine Pf.loop (fun z => ∃ k : Nat, z.1 = Int32.ofNat k ∧ k ≤ sS ∧ stF x0_line x0_changes x0_coins x0_left g1 g2 z16 (Int32.ofNat k) = some z.2.1 ∧ AI 0 35 z.2.2 ∧ ∀ s', s' < k → ∀ v', (T7 x0_lines.toNatClampNeg x0_line x0_changes x0_coins x0_left g1 g2) z16.toNatClampNeg s' v' → ¬ CE (EP x0_lines.toNatClampNeg x0_line x0_changes x0_coins x0_left g1 g2) p2.toNatClampNeg (fun x => tb z19 x = true) v') (fun z hz => ?_) n _ ⟨0, rfl, Nat.zero_le _, e26, h20, fun s' h => absurd h (Nat.not_lt_zero _)⟩
  obtain ⟨z29, z30, z31⟩ := z
  obtain ⟨k, e1, hk, e2, a31, hno⟩ := hz
  have e1 : z29 = Int32.ofNat k := e1
  have e2 : stF x0_line x0_changes x0_coins x0_left g1 g2 z16 (Int32.ofNat k) = some z30 := e2
  have a31 : AI 0 35 z31 := a31
  dsimp only [u3]
  unfold fX7_findWay_s146
  have go : ∀ x38 : Nat → Int32, AI 0 35 x38 → (∀ v', (T7 x0_lines.toNatClampNeg x0_line x0_changes x0_coins x0_left g1 g2) z16.toNatClampNeg k v' → ¬ CE (EP x0_lines.toNatClampNeg x0_line x0_changes x0_coins x0_left g1 g2) p2.toNatClampNeg (fun x => tb z19 x = true) v') → Pf (fX7_findWay_j162 x0_shelf x0_rowSort x0_rowSize x0_rows x0_moved x0_shown x0_tape x0_tapeSize x0_refused x0_lines x0_line x0_changes x0_coins x0_goods x0_good x0_works x0_work x0_years x0_gone x0_spent x0_at x0_token x0_from x0_figures x0_fault x0_numbers x0_statements x0_left       x0_totals g1 g2 z16 z17 z18 z19 z29 x38) (fun r => Sum.elim (fun z => ∃ k : Nat, z.1 = Int32.ofNat k ∧ k ≤ sS ∧ stF x0_line x0_changes x0_coins x0_left g1 g2 z16 (Int32.ofNat k) = some z.2.1 ∧ AI 0 35 z.2.2 ∧ ∀ s', s' < k → ∀ v', (T7 x0_lines.toNatClampNeg x0_line x0_changes x0_coins x0_left g1 g2) z16.toNatClampNeg s' v' → ¬ CE (EP x0_lines.toNatClampNeg x0_line x0_changes x0_coins x0_left g1 g2) p2.toNatClampNeg (fun x => tb z19 x = true) v') (fun e => ∃ s v : Nat, e.1 = Int32.ofNat s ∧ e.2.1 = Int32.ofNat v ∧ AI 0 35 e.2.2 ∧ v < 36 ∧ s ≤ 22 ∧ Nx (T7 x0_lines.toNatClampNeg x0_line x0_changes x0_coins x0_left g1 g2) (EP x0_lines.toNatClampNeg x0_line x0_changes x0_coins x0_left g1 g2) p2.toNatClampNeg (fun x => tb z19 x = true) z16.toNatClampNeg s v) r) := by
    intro x38 ax hno2
    unfold fX7_findWay_j162
    have hlt : k + 1 ≤ sS := by
      rcases Nat.lt_or_ge k sS with h | h
      · exact h
      · have e : k = sS := by omega
        rw [e] at hno2
        exact absurd hC (hno2 _ hS)
    refine Pf.bindP (P := fun v => stF x0_line x0_changes x0_coins x0_left g1 g2 z16 (z29 + 1) = some v) (fun v e => e) (fun v39 e39 => Pf.inl ⟨k + 1, ?_, hlt, ?_, ax, ?_⟩)
    · show z29 + 1 = _
      rw [e1, o_succ]
    · show stF x0_line x0_changes x0_coins x0_left g1 g2 z16 (Int32.ofNat (k + 1)) = some v39
      rw [o_succ, ← e1]
      exact e39
    · intro s' hs v' ht
      rcases Nat.lt_or_ge s' k with h | h
      · exact hno s' h v' ht
      · have e : s' = k := by omega
        rw [e] at ht
        exact hno2 v' ht
  refine Pf.ite (fun hm => go z31 a31 (fun v' ht => ?_)) (fun hm => ?_)
  · exfalso
    have q := ht.2.2
    rw [o_of h16.1, e2, hm] at q
    have b := (o36 ht.1).1.1
    rw [← Option.some.inj q] at b
    exact absurd b (by decide)
  · have hk22 : 0 ≤ Int32.ofNat k ∧ Int32.ofNat k ≤ 22 := by
      have q : k ≤ 22 := Nat.le_trans hk hS22
      clear hno e1 e2 go
      rcases Nat.lt_or_ge k 23 with h | h
      · exact ⟨(o36 (u := k) (by omega)).1.1, by
          have a := ocl (a := k) (by omega)
          have b := i32_cl (o36 (u := k) (by omega)).1.1
          rw [a] at b
          have z22 : (22 : Int32).toInt = 22 := by decide
          exact Int32.le_iff_toInt_le.mpr (by rw [z22]; omega)⟩
      · omega
    have rg := stF_rng h_x0_line h_x0_changes h_x0_coins hg1 h_x0_good h_x0_work h16 hk22 e2
    have b30 : 0 ≤ z30 ∧ z30 ≤ 35 := by
      clear hno go e1 e2 hk22
      grind
    refine Pf.bindP (Pf.sf (sX7_canEnd hn h_x0_shelf h_x0_rowSize h_x0_tapeSize h_x0_lines h_x0_line h_x0_changes h_x0_coins h_x0_goods h_x0_good h_x0_works h_x0_work h_x0_years h_x0_from hg1 h17 h18 a31 b30 hp2)) (fun r hr => ?_)
    obtain ⟨v41, g42⟩ := r
    obtain ⟨_, a42, hr⟩ : (0 ≤ v41 ∧ v41 ≤ 1) ∧ AI 0 35 g42 ∧ ((v41 = 1 ∧ CE (EP x0_lines.toNatClampNeg x0_line x0_changes x0_coins x0_left g1 g2) p2.toNatClampNeg (fun x => tb z19 x = true) z30.toNatClampNeg) ∨ (v41 = 0 ∧ ¬ CE (EP x0_lines.toNatClampNeg x0_line x0_changes x0_coins x0_left g1 g2) p2.toNatClampNeg (fun x => tb z19 x = true) z30.toNatClampNeg)) := hr
    dsimp only [u2]
    have hT : (T7 x0_lines.toNatClampNeg x0_line x0_changes x0_coins x0_left g1 g2) z16.toNatClampNeg k z30.toNatClampNeg := ⟨(n36 b30).1, Nat.lt_of_le_of_lt hk hS.2.1, by rw [o_of h16.1, (n36 b30).2]; exact e2⟩
    refine Pf.ite (fun hz => go g42 a42 (fun v' ht => ?_)) (fun hz => Pf.inr ⟨k, z30.toNatClampNeg, e1, (n36 b30).2.symm, a42, (n36 b30).1, Nat.le_trans hk hS22, hT, ?_, hno⟩)
    · have e : v' = z30.toNatClampNeg := T7.det _ _ _ _ ht hT
      rw [e]
      rcases hr with h | h
      · exact absurd (h.1.symm.trans hz) (by decide)
      · exact h.2
    · rcases hr with h | h
      · exact h.2
      · exact absurd h.1 hz

theorem s125P {n : Nat} {p2 : Int32} {x0_shelf : (Nat → Int32)} {x0_rowSort : (Nat → Int32)} {x0_rowSize : (Nat → Int32)} {x0_rows : (Nat → Nat → Int64)} {x0_moved : (Nat → Int64)} {x0_shown : (Nat → Int32)} {x0_tape : (Nat → Int32)} {x0_tapeSize : Int32} {x0_refused : (Nat → Int32)} {x0_lines : Int32} {x0_line : (Nat → Nat → Int32)} {x0_changes : (Nat → Int32)} {x0_coins : (Nat → Int32)} {x0_goods : Int32} {x0_good : (Nat → Nat → Int32)} {x0_works : Int32} {x0_work : (Nat → Nat → Int32)} {x0_years : Int32} {x0_gone : Int32} {x0_spent : Int32} {x0_at : Int32} {x0_token : Int32} {x0_from : Int32} {x0_figures : Int64} {x0_fault : Int32} {x0_numbers : (Nat → Int32)} {x0_statements : Int32} {x0_left : (Nat → Int32)} {x0_totals : (Nat → Int32)} {g1 z17 z20 : Nat → Int32} {g2 z16 z18 w0 : Int32} {z19 : Int64} {M0 : Nat → Prop} {U0 : Nat} (hn : 1000000000000 ≤ n) (h_x0_shelf : (AI 0 2 x0_shelf)) (h_x0_rowSize : (AI 0 40 x0_rowSize)) (h_x0_tapeSize : (0 ≤ x0_tapeSize ∧ x0_tapeSize ≤ 250)) (h_x0_lines : (0 ≤ x0_lines ∧ x0_lines ≤ 20)) (h_x0_line : (LnM x0_line)) (h_x0_changes : (AI 0 99 x0_changes)) (h_x0_coins : (AI 0 9 x0_coins)) (h_x0_goods : (0 ≤ x0_goods ∧ x0_goods ≤ 8)) (h_x0_good : (GdM x0_good)) (h_x0_works : (0 ≤ x0_works ∧ x0_works ≤ 7)) (h_x0_work : (WkM x0_work)) (h_x0_years : (1 ≤ x0_years ∧ x0_years ≤ 30)) (h_x0_from : (0 ≤ x0_from ∧ x0_from ≤ 250)) (hg1 : AI 0 1000000000 g1) (hp2 : 0 ≤ p2 ∧ p2 ≤ 11) (hI : (fun (z : Int32 × (Nat → Int32) × Int32 × Int64 × (Nat → Int32)) => ∃ pre : List (Nat × Nat), (0 ≤ z.1 ∧ z.1 ≤ 35) ∧ AI 0 22 z.2.1 ∧ (z.2.2.1 = Int32.ofNat (pre.length + 1) ∧ pre.length ≤ 36) ∧ tb z.2.2.2.1 z.1.toNatClampNeg = true ∧ AI 0 35 z.2.2.2.2 ∧ CE (EP x0_lines.toNatClampNeg x0_line x0_changes x0_coins x0_left g1 g2) p2.toNatClampNeg (fun v => tb z.2.2.2.1 v = true ∧ v ≠ z.1.toNatClampNeg) z.1.toNatClampNeg ∧ PreW (T7 x0_lines.toNatClampNeg x0_line x0_changes x0_coins x0_left g1 g2) (EP x0_lines.toNatClampNeg x0_line x0_changes x0_coins x0_left g1 g2) p2.toNatClampNeg M0 U0 pre (fun x => tb z.2.2.2.1 x = true) z.1.toNatClampNeg ∧ Arr z.2.1 pre ∧ z.2.1 0 = w0) (z16, z17, z18, z19, z20)) : Pf (lp (u5 (fX7_findWay_s125 n p2 x0_shelf x0_rowSort x0_rowSize x0_rows x0_moved x0_shown x0_tape x0_tapeSize x0_refused x0_lines x0_line x0_changes x0_coins x0_goods x0_good x0_works x0_work x0_years x0_gone x0_spent x0_at x0_token x0_from x0_figures x0_fault x0_numbers x0_statements x0_left       x0_totals g1 g2)) n (z16, z17, z18, z19, z20)) (fun e => ∃ ws : List (Nat × Nat), Wy (T7 x0_lines.toNatClampNeg x0_line x0_changes x0_coins x0_left g1 g2) (EP x0_lines.toNatClampNeg x0_line x0_changes x0_coins x0_left g1 g2) p2.toNatClampNeg ws M0 U0 ∧ Arr e.1 ws ∧ e.1 0 = w0 ∧ (e.2.1 = Int32.ofNat (ws.length + 1) ∧ ws.length ≤ 36) ∧ AI 0 22 e.1) := by
  refine Pf.loop (fun z => ∃ pre : List (Nat × Nat), (0 ≤ z.1 ∧ z.1 ≤ 35) ∧ AI 0 22 z.2.1 ∧ (z.2.2.1 = Int32.ofNat (pre.length + 1) ∧ pre.length ≤ 36) ∧ tb z.2.2.2.1 z.1.toNatClampNeg = true ∧ AI 0 35 z.2.2.2.2 ∧ CE (EP x0_lines.toNatClampNeg x0_line x0_changes x0_coins x0_left g1 g2) p2.toNatClampNeg (fun v => tb z.2.2.2.1 v = true ∧ v ≠ z.1.toNatClampNeg) z.1.toNatClampNeg ∧ PreW (T7 x0_lines.toNatClampNeg x0_line x0_changes x0_coins x0_left g1 g2) (EP x0_lines.toNatClampNeg x0_line x0_changes x0_coins x0_left g1 g2) p2.toNatClampNeg M0 U0 pre (fun x => tb z.2.2.2.1 x = true) z.1.toNatClampNeg ∧ Arr z.2.1 pre ∧ z.2.1 0 = w0) (fun z hz => ?_) n _ hI
  clear hI z16 z17 z18 z19 z20
  obtain ⟨z16, z17, z18, z19, z20⟩ := z
  obtain ⟨pre, h16, h17, ⟨h18, l18⟩, ht, h20, ⟨k, hk⟩, hPre, hArr, h0⟩ := hz
  have h16 : 0 ≤ z16 ∧ z16 ≤ 35 := h16
  have h17 : AI 0 22 z17 := h17
  have h18 : z18 = Int32.ofNat (pre.length + 1) := h18
  have ht : tb z19 z16.toNatClampNeg = true := ht
  have h20 : AI 0 35 z20 := h20
  have hk : Pk (EP x0_lines.toNatClampNeg x0_line x0_changes x0_coins x0_left g1 g2) (fun u => u / 3 = p2.toNatClampNeg) (fun v => tb z19 v = true ∧ v ≠ z16.toNatClampNeg) k z16.toNatClampNeg := hk
  have hPre : PreW (T7 x0_lines.toNatClampNeg x0_line x0_changes x0_coins x0_left g1 g2) (EP x0_lines.toNatClampNeg x0_line x0_changes x0_coins x0_left g1 g2) p2.toNatClampNeg M0 U0 pre (fun x => tb z19 x = true) z16.toNatClampNeg := hPre
  have hArr : Arr z17 pre := hArr
  have h0 : z17 0 = w0 := h0
  dsimp only [u5]
  unfold fX7_findWay_s125
  have dn := dv_n h16
  refine Pf.ite (fun h => Pf.inr ⟨pre, hPre.done (by rw [← dn, h]), hArr, h0, ⟨h18, l18⟩, h17⟩) (fun h => ?_)
  have hG : ¬ (z16.toNatClampNeg / 3 = p2.toNatClampNeg) := by
    intro hx
    apply h
    rw [← o_of (dv3 h16).1, ← o_of hp2.1, dn, hx]
  obtain ⟨v, j, e, hj⟩ := Pk.step (G := (fun u => u / 3 = p2.toNatClampNeg)) hG k hk
  have hj' : Pk (EP x0_lines.toNatClampNeg x0_line x0_changes x0_coins x0_left g1 g2) (fun u => u / 3 = p2.toNatClampNeg) (fun v => tb z19 v = true) j v := by
    refine Pk.congr (fun x hx => ?_) j v hj
    by_cases hxz : x = z16.toNatClampNeg
    · exact Or.inr hxz
    · exact Or.inl ⟨hx, hxz⟩
  obtain ⟨hv, s, hs, es⟩ := e
  have hS : (T7 x0_lines.toNatClampNeg x0_line x0_changes x0_coins x0_left g1 g2) z16.toNatClampNeg s v := ⟨hv, hs, es⟩
  have h18r : 0 ≤ z18 ∧ z18 ≤ 37 := by
    have q : pre.length + 1 ≤ 37 := by omega
    rw [h18]
    generalize pre.length + 1 = m at q
    have c := ocl (a := m) (by omega)
    have p0 : 0 ≤ Int32.ofNat m := Int32.not_lt.mp (fun hlt => by
      have q2 := Int32.lt_iff_toInt_lt.mp hlt
      rw [Int32.toInt_ofNat_of_lt (by omega)] at q2
      have z0 : (0 : Int32).toInt = 0 := by decide
      omega)
    have b := i32_cl p0
    rw [c] at b
    have z37 : (37 : Int32).toInt = 37 := by decide
    exact ⟨p0, Int32.le_iff_toInt_le.mpr (by rw [z37]; omega)⟩
  have c18 : z18.toNatClampNeg = pre.length + 1 := by
    rw [h18]
    exact ocl (by omega)
  refine Pf.bindP (P := fun v26 => stF x0_line x0_changes x0_coins x0_left g1 g2 z16 0 = some v26) (fun _ e => e) (fun v26 e26 => ?_)
  refine Pf.bindP (s146P hn h_x0_shelf h_x0_rowSize h_x0_tapeSize h_x0_lines h_x0_line h_x0_changes h_x0_coins h_x0_goods h_x0_good h_x0_works h_x0_work h_x0_years h_x0_from hg1 h17 h18r hp2 h16 hS ⟨j, hj'⟩ h20 e26) (fun r hr => ?_)
  obtain ⟨w33, w34, w35⟩ := r
  obtain ⟨s', v', e1, e2, a35, hv', hs22, hN⟩ := hr
  have e1 : w33 = Int32.ofNat s' := e1
  have e2 : w34 = Int32.ofNat v' := e2
  have a35 : AI 0 35 w35 := a35
  dsimp only [u3]
  obtain ⟨b34, c34, _⟩ := o36 hv'
  rw [← e2] at b34 c34
  refine Pf.wrb (fun f36 e36 b36 => Pf.someb ?_)
  have lt36 : pre.length + 1 < 37 := by
    rw [← c18]
    exact b36.2
  have b33 : 0 ≤ w33 ∧ w33 ≤ 22 := by
    have o := o36 (u := s') (by omega)
    have q := i32_cl o.1.1
    rw [o.2.1] at q
    have z22 : (22 : Int32).toInt = 22 := by decide
    rw [e1]
    exact ⟨o.1.1, Int32.le_iff_toInt_le.mpr (by rw [z22]; omega)⟩
  refine Pf.inl ⟨pre ++ [(s', v')], b34, ?_, ⟨?_, ?_⟩, ?_, a35, ?_, ?_, ?_, ?_⟩
  · show AI 0 22 f36
    rw [e36]
    exact h17.up b33
  · show z18 + 1 = _
    rw [List.length_append, h18, ← o_succ]
    rfl
  · rw [List.length_append]
    show pre.length + 1 ≤ 36
    omega
  · show tb (z19 ||| ((1 : Int64) <<< (w34.toInt64 &&& 63))) w34.toNatClampNeg = true
    rw [tb_setA b34]
    simp
  · show CE (EP x0_lines.toNatClampNeg x0_line x0_changes x0_coins x0_left g1 g2) p2.toNatClampNeg (fun x => tb (z19 ||| ((1 : Int64) <<< (w34.toInt64 &&& 63))) x = true ∧ x ≠ w34.toNatClampNeg) w34.toNatClampNeg
    obtain ⟨k2, hk2⟩ := hN.2.1
    rw [c34]
    refine ⟨k2, Pk.congr (fun x hx => ?_) k2 _ hk2⟩
    obtain ⟨h1, h2⟩ := hx
    rw [tb_setA b34, c34] at h1
    simpa [h2] using h1
  · show PreW (T7 x0_lines.toNatClampNeg x0_line x0_changes x0_coins x0_left g1 g2) (EP x0_lines.toNatClampNeg x0_line x0_changes x0_coins x0_left g1 g2) p2.toNatClampNeg M0 U0 (pre ++ [(s', v')]) (fun x => tb (z19 ||| ((1 : Int64) <<< (w34.toInt64 &&& 63))) x = true) w34.toNatClampNeg
    rw [tb_fun b34, c34]
    exact hPre.snoc hG hN
  · show Arr f36 (pre ++ [(s', v')])
    rw [e36, c18, e1]
    exact hArr.snoc
  · show f36 0 = w0
    rw [e36, c18, va_ne _ _ (by omega)]
    exact h0

theorem s38P {n : Nat} {p2 : Int32} {x0_shelf : (Nat → Int32)} {x0_rowSort : (Nat → Int32)} {x0_rowSize : (Nat → Int32)} {x0_rows : (Nat → Nat → Int64)} {x0_moved : (Nat → Int64)} {x0_shown : (Nat → Int32)} {x0_tape : (Nat → Int32)} {x0_tapeSize : Int32} {x0_refused : (Nat → Int32)} {x0_lines : Int32} {x0_line : (Nat → Nat → Int32)} {x0_changes : (Nat → Int32)} {x0_coins : (Nat → Int32)} {x0_goods : Int32} {x0_good : (Nat → Nat → Int32)} {x0_works : Int32} {x0_work : (Nat → Nat → Int32)} {x0_years : Int32} {x0_gone : Int32} {x0_spent : Int32} {x0_at : Int32} {x0_token : Int32} {x0_from : Int32} {x0_figures : Int64} {x0_fault : Int32} {x0_numbers : (Nat → Int32)} {x0_statements : Int32} {x0_left : (Nat → Int32)} {x0_totals : (Nat → Int32)} {g1 z0q : Nat → Int32} {x0_way : Nat → Int32} {g2 p1 v4 : Int32} (hn : 1000000000000 ≤ n) (h_x0_shelf : (AI 0 2 x0_shelf)) (h_x0_rowSize : (AI 0 40 x0_rowSize)) (h_x0_tapeSize : (0 ≤ x0_tapeSize ∧ x0_tapeSize ≤ 250)) (h_x0_lines : (0 ≤ x0_lines ∧ x0_lines ≤ 20)) (h_x0_line : (LnM x0_line)) (h_x0_changes : (AI 0 99 x0_changes)) (h_x0_coins : (AI 0 9 x0_coins)) (h_x0_goods : (0 ≤ x0_goods ∧ x0_goods ≤ 8)) (h_x0_good : (GdM x0_good)) (h_x0_works : (0 ≤ x0_works ∧ x0_works ≤ 7)) (h_x0_work : (WkM x0_work)) (h_x0_years : (1 ≤ x0_years ∧ x0_years ≤ 30)) (h_x0_from : (0 ≤ x0_from ∧ x0_from ≤ 250)) (hg1 : AI 0 1000000000 g1) (h_x0_way : AI 0 22 x0_way) (hq : AI 0 35 z0q) (hp1 : 0 ≤ p1 ∧ p1 ≤ 11) (hp2 : 0 ≤ p2 ∧ p2 ≤ 11) (hway : ∀ u, u < 36 → g1 u = v4 → CE (EP x0_lines.toNatClampNeg x0_line x0_changes x0_coins x0_left g1 g2) p2.toNatClampNeg (fun v => tb 0 v = true) u) (hex : ∃ w : Nat, w < 3 ∧ g1 (3 * p1.toNatClampNeg + w) = v4) : Pf (lp (u3 (fX7_findWay_s38 n p1 p2 x0_shelf x0_rowSort x0_rowSize x0_rows x0_moved x0_shown x0_tape x0_tapeSize x0_refused x0_lines x0_line x0_changes x0_coins x0_goods x0_good x0_works x0_work x0_years x0_gone x0_spent x0_at x0_token x0_from x0_figures x0_fault x0_numbers x0_statements x0_left   x0_way    x0_totals g1 g2 v4)) n ((-1), 2, z0q)) (fun e => AI 0 35 e.2 ∧ ∃ w : Nat, w < 3 ∧ e.1 = Int32.ofNat (3 * p1.toNatClampNeg + w) ∧ g1 (3 * p1.toNatClampNeg + w) = v4 ∧ ∀ w', w' < w → ¬ g1 (3 * p1.toNatClampNeg + w') = v4) := by
  refine Pf.loop (fun z => AI 0 35 z.2.2 ∧ ∃ j : Nat, j ≤ 3 ∧ z.2.1 = Int32.ofNat j - 1 ∧ ((∀ w : Nat, j ≤ w → w < 3 → ¬ g1 (3 * p1.toNatClampNeg + w) = v4) ∨ ∃ w : Nat, j ≤ w ∧ w < 3 ∧ z.1 = Int32.ofNat (3 * p1.toNatClampNeg + w) ∧ g1 (3 * p1.toNatClampNeg + w) = v4 ∧ ∀ w', j ≤ w' → w' < w → ¬ g1 (3 * p1.toNatClampNeg + w') = v4)) (fun z hz => ?_) n _ ⟨hq, 3, Nat.le_refl _, rfl, Or.inl (fun w a b => absurd b (Nat.not_lt.mpr a))⟩
  obtain ⟨z7, z8, z9⟩ := z
  obtain ⟨a9, j, hj, e8, hF⟩ := hz
  have a9 : AI 0 35 z9 := a9
  have e8 : z8 = Int32.ofNat j - 1 := e8
  dsimp only [u3]
  unfold fX7_findWay_s38
  rcases Nat.eq_zero_or_pos j with j0 | jp
  · subst j0
    have e8 : z8 = -1 := e8
    refine Pf.ite (fun _ => Pf.inr ⟨a9, ?_⟩) (fun h => absurd (by rw [e8]; decide) h)
    rcases hF with h | ⟨w, h1, h2, h3, h4, h5⟩
    · obtain ⟨w, h1, h2⟩ := hex
      exact absurd h2 (h w (Nat.zero_le _) h1)
    · exact ⟨w, h2, h3, h4, fun w' hw => h5 w' (Nat.zero_le _) hw⟩
  · obtain ⟨i, rfl⟩ : ∃ i, j = i + 1 := ⟨j - 1, by omega⟩
    have e8 : z8 = Int32.ofNat i := by rw [e8, o_succ, Int32.add_sub_cancel]
    have hi : i < 3 := by omega
    have b8 : 0 ≤ z8 ∧ z8 < 3 := by
      rw [e8]
      rcases (by omega : i = 0 ∨ i = 1 ∨ i = 2) with rfl | rfl | rfl <;> decide
    have c8 : z8.toNatClampNeg = i := by rw [e8]; exact ocl (by omega)
    have ix := ix3 hp1 b8
    have ei : (3 * p1 + z8).toNatClampNeg = 3 * p1.toNatClampNeg + i := by rw [ix.2, c8]
    have b35 : 0 ≤ 3 * p1 + z8 ∧ 3 * p1 + z8 ≤ 35 := ⟨ix.1.1, by have q := ix.1.2; generalize 3 * p1 + z8 = y at q; grind⟩
    have e9 : z8 + (-1) = Int32.ofNat i - 1 := by rw [e8, Int32.sub_eq_add_neg]
    refine Pf.ite (fun h => absurd b8.1 (Int32.not_le.mpr h)) (fun _ => ?_)
    refine Pf.rdb (fun v44 e44 _ => ?_)
    rw [ei] at e44
    rw [e44]
    refine Pf.ite (fun heq => ?_) (fun hne => Pf.inl ⟨a9, i, by omega, e9, ?_⟩)
    · refine Pf.bindP (Pf.sf (sX7_canEnd hn h_x0_shelf h_x0_rowSize h_x0_tapeSize h_x0_lines h_x0_line h_x0_changes h_x0_coins h_x0_goods h_x0_good h_x0_works h_x0_work h_x0_years h_x0_from hg1 h_x0_way (by decide) a9 b35 hp2)) (fun r hr => ?_)
      obtain ⟨v45, g46⟩ := r
      obtain ⟨_, a46, hr⟩ : (0 ≤ v45 ∧ v45 ≤ 1) ∧ AI 0 35 g46 ∧ ((v45 = 1 ∧ CE (EP x0_lines.toNatClampNeg x0_line x0_changes x0_coins x0_left g1 g2) p2.toNatClampNeg (fun x => tb 0 x = true) (3 * p1 + z8).toNatClampNeg) ∨ (v45 = 0 ∧ ¬ CE (EP x0_lines.toNatClampNeg x0_line x0_changes x0_coins x0_left g1 g2) p2.toNatClampNeg (fun x => tb 0 x = true) (3 * p1 + z8).toNatClampNeg)) := hr
      dsimp only [u2]
      refine Pf.ite (fun hz => ?_) (fun _ => Pf.inl ⟨a46, i, by omega, e9, Or.inr ⟨i, Nat.le_refl _, hi, ?_, heq, fun w' a b => absurd b (Nat.not_lt.mpr a)⟩⟩)
      · rcases hr with h | h
        · exact absurd (h.1.symm.trans hz) (by decide)
        · rw [ei] at h
          exact absurd (hway _ (by have q := (n36 b35).1; rw [ei] at q; exact q) heq) h.2
      · show 3 * p1 + z8 = _
        rw [← ei]
        exact (n36 b35).2.symm
    · rcases hF with h | ⟨w, h1, h2, h3, h4, h5⟩
      · refine Or.inl (fun w a b => ?_)
        rcases Nat.lt_or_ge i w with q | q
        · exact h w q b
        · have e : w = i := by omega
          rw [e]; exact hne
      · refine Or.inr ⟨w, by omega, h2, h3, h4, fun w' a b => ?_⟩
        rcases Nat.lt_or_ge i w' with q | q
        · exact h5 w' q b
        · have e : w' = i := by omega
          rw [e]; exact hne

/-- what findWay finds -/
def FWay (L : Nat) (line : Nat → Nat → Int32) (changes coins left far : Nat → Int32) (tons : Int32) (p g : Nat) (r : Int32) (way : Nat → Int32) (steps : Int32) : Prop :=
  (r = 0 ∧ ∀ w : Nat, w < 3 → 1000000000 ≤ far (3 * p + w)) ∨ (r = 1 ∧ ∃ (w : Nat) (ws : List (Nat × Nat)), w < 3 ∧ far (3 * p + w) < 1000000000 ∧ (∀ w' : Nat, w' < 3 → far (3 * p + w) ≤ far (3 * p + w')) ∧ (∀ w' : Nat, w' < w → ¬ far (3 * p + w') = far (3 * p + w)) ∧ Wy (T7 L line changes coins left far tons) (EP L line changes coins left far tons) g ws (fun x => x = 3 * p + w) (3 * p + w) ∧ way 0 = Int32.ofNat w ∧ Arr way ws ∧ (steps = Int32.ofNat (ws.length + 1) ∧ ws.length ≤ 36))
theorem findWayP {n : Nat} {x0_shelf : (Nat → Int32)} {x0_rowSort : (Nat → Int32)} {x0_rowSize : (Nat → Int32)} {x0_rows : (Nat → Nat → Int64)} {x0_moved : (Nat → Int64)} {x0_shown : (Nat → Int32)} {x0_tape : (Nat → Int32)} {x0_tapeSize : Int32} {x0_refused : (Nat → Int32)} {x0_lines : Int32} {x0_line : (Nat → Nat → Int32)} {x0_changes : (Nat → Int32)} {x0_coins : (Nat → Int32)} {x0_goods : Int32} {x0_good : (Nat → Nat → Int32)} {x0_works : Int32} {x0_work : (Nat → Nat → Int32)} {x0_years : Int32} {x0_gone : Int32} {x0_spent : Int32} {x0_at : Int32} {x0_token : Int32} {x0_from : Int32} {x0_figures : Int64} {x0_fault : Int32} {x0_numbers : (Nat → Int32)} {x0_statements : Int32} {x0_left : (Nat → Int32)} {x0_far : (Nat → Int32)} {x0_tons : Int32} {x0_way : (Nat → Int32)} {x0_steps : Int32} {x0_met : Int64} {x0_queue : (Nat → Int32)} {x0_totals : (Nat → Int32)} {p1 p2 p3 : Int32} (hn : 1000000000000 ≤ n) (h_x0_shelf : (AI 0 2 x0_shelf)) (h_x0_rowSize : (AI 0 40 x0_rowSize)) (h_x0_tapeSize : (0 ≤ x0_tapeSize ∧ x0_tapeSize ≤ 250)) (h_x0_lines : (0 ≤ x0_lines ∧ x0_lines ≤ 20)) (h_x0_line : (LnM x0_line)) (h_x0_changes : (AI 0 99 x0_changes)) (h_x0_coins : (AI 0 9 x0_coins)) (h_x0_goods : (0 ≤ x0_goods ∧ x0_goods ≤ 8)) (h_x0_good : (GdM x0_good)) (h_x0_works : (0 ≤ x0_works ∧ x0_works ≤ 7)) (h_x0_work : (WkM x0_work)) (h_x0_years : (1 ≤ x0_years ∧ x0_years ≤ 30)) (h_x0_from : (0 ≤ x0_from ∧ x0_from ≤ 250)) (h_x0_far : (AI 0 1000000000 x0_far)) (h_x0_way : (AI 0 22 x0_way)) (h_x0_steps : (0 ≤ x0_steps ∧ x0_steps ≤ 37)) (h_x0_queue : (AI 0 35 x0_queue)) (hp1 : 0 ≤ p1 ∧ p1 ≤ 11) (hp2 : 0 ≤ p2 ∧ p2 ≤ 11) : Pf (fX7_findWay n (x0_shelf, x0_rowSort, x0_rowSize, x0_rows, x0_moved, x0_shown, x0_tape, x0_tapeSize, x0_refused, x0_lines, x0_line, x0_changes, x0_coins, x0_goods, x0_good, x0_works, x0_work, x0_years, x0_gone, x0_spent, x0_at, x0_token, x0_from, x0_figures, x0_fault, x0_numbers, x0_statements, x0_left, x0_far, x0_tons, x0_way, x0_steps, x0_met, x0_queue, x0_totals) p1 p2 p3) (fun r => (AI 0 1000000000 r.2.1 ∧ At (Ed x0_lines.toNatClampNeg x0_line x0_changes x0_coins x0_left p3) (fun u => u / 3 = p2.toNatClampNeg) r.2.1 ∧ ((∀ l : Nat, l < x0_lines.toNatClampNeg → ∀ w : Nat, w < 3 → OKl x0_line x0_coins x0_left p3 r.2.1 l w) ∧ (∀ m : Nat, m < 36 → ∀ w : Nat, w < 3 → OKc x0_changes r.2.1 m w)) ∧ r.2.2.1 = p3) ∧ FWay x0_lines.toNatClampNeg x0_line x0_changes x0_coins x0_left r.2.1 p3 p1.toNatClampNeg p2.toNatClampNeg r.1 r.2.2.2.1 r.2.2.2.2.1) := by
  unfold fX7_findWay
  dsimp only [u35]
  refine Pf.bindP (Pf.sf (farS hn h_x0_shelf h_x0_rowSize h_x0_tapeSize h_x0_lines h_x0_line h_x0_changes h_x0_coins h_x0_goods h_x0_good h_x0_works h_x0_work h_x0_years h_x0_from h_x0_far h_x0_way h_x0_steps h_x0_queue hp2)) (fun r hr => ?_)
  obtain ⟨g1, g2⟩ := r
  obtain ⟨a1, hAt, ⟨hO, hC⟩, eg⟩ : AI 0 1000000000 g1 ∧ At (Ed x0_lines.toNatClampNeg x0_line x0_changes x0_coins x0_left p3) (fun u => u / 3 = p2.toNatClampNeg) g1 ∧ ((∀ l : Nat, l < x0_lines.toNatClampNeg → ∀ w : Nat, w < 3 → OKl x0_line x0_coins x0_left p3 g1 l w) ∧ (∀ m : Nat, m < 36 → ∀ w : Nat, w < 3 → OKc x0_changes g1 m w)) ∧ g2 = p3 := hr
  subst eg
  dsimp only [u2]
  have lst : Sf (fX7_least n (x0_shelf, x0_rowSort, x0_rowSize, x0_rows, x0_moved, x0_shown, x0_tape, x0_tapeSize, x0_refused, x0_lines, x0_line, x0_changes, x0_coins, x0_goods, x0_good, x0_works, x0_work, x0_years, x0_gone, x0_spent, x0_at, x0_token, x0_from, x0_figures, x0_fault, x0_numbers, x0_statements, x0_left, g1, g2, x0_way, 0, 0, x0_queue, x0_totals) p1) (Ls 1000000000 g1 p1.toNatClampNeg) := by
    unfold fX7_least
    dsimp only [u35]
    exact Sf.bind (leastL hn hp1) (fun v h => Sf.ok h)
  refine Pf.bindP (Pf.sf lst) (fun v4 h4 => ?_)
  refine Pf.ite (fun hlt => ?_) (fun hlt => Pf.ok ⟨⟨a1, hAt, ⟨hO, hC⟩, rfl⟩, Or.inl ⟨rfl, fun w hw => Int32.le_trans (Int32.not_lt.mp hlt) (h4.1 w hw)⟩⟩)
  have lL : x0_lines.toNatClampNeg ≤ 20 := by
    have a := i32_cl h_x0_lines.1
    have b := Int32.le_iff_toInt_le.mp h_x0_lines.2
    have z20 : (20 : Int32).toInt = 20 := by decide
    rw [z20] at b
    omega
  have hlt2 : v4.toInt < 1000000000 := by
    have q := Int32.lt_iff_toInt_lt.mp hlt
    have zF : (1000000000 : Int32).toInt = 1000000000 := by decide
    rw [zF] at q
    exact q
  have hway : ∀ u, u < 36 → g1 u = v4 → CE (EP x0_lines.toNatClampNeg x0_line x0_changes x0_coins x0_left g1 g2) p2.toNatClampNeg (fun v => tb 0 v = true) u := by
    intro u hu hf
    obtain ⟨j, hj⟩ := far_way lL h_x0_line h_x0_changes h_x0_coins a1 hAt hO hC hu (by rw [hf]; exact hlt2)
    refine ⟨j, Pk.congr (fun x hx => ?_) j u hj⟩
    rw [tb_zero] at hx
    cases hx
  have hex : ∃ w : Nat, w < 3 ∧ g1 (3 * p1.toNatClampNeg + w) = v4 := by
    rcases h4.2.2 with h | ⟨w, h1, h2⟩
    · rw [h] at hlt; exact absurd hlt (by decide)
    · exact ⟨w, h1, h2.symm⟩
  refine Pf.bindP (s38P hn h_x0_shelf h_x0_rowSize h_x0_tapeSize h_x0_lines h_x0_line h_x0_changes h_x0_coins h_x0_goods h_x0_good h_x0_works h_x0_work h_x0_years h_x0_from a1 h_x0_way h_x0_queue hp1 hp2 hway hex) (fun r hr => ?_)
  obtain ⟨w11, w12⟩ := r
  obtain ⟨a12, w, hw, e11, h6, h7⟩ := hr
  have a12 : AI 0 35 w12 := a12
  have e11 : w11 = Int32.ofNat (3 * p1.toNatClampNeg + w) := e11
  dsimp only [u2]
  have hp12 := p_of hp1
  have hu : 3 * p1.toNatClampNeg + w < 36 := by omega
  obtain ⟨b11, c11, d11, m11⟩ := o36 hu
  rw [← e11] at b11 c11 d11 m11
  have mw : (3 * p1.toNatClampNeg + w) % 3 = w := by omega
  rw [mw] at m11
  refine Pf.wrb (fun f13 e13 _ => Pf.someb ?_)
  have f0 : f13 0 = Int32.ofNat w := by
    rw [e13, m11]
    exact va_eq _ _ _
  have a13 : AI 0 22 f13 := by
    rw [e13, m11]
    refine h_x0_way.up ?_
    rcases (by omega : w = 0 ∨ w = 1 ∨ w = 2) with rfl | rfl | rfl <;> decide
  have t0 : (fun x => tb (0 ||| ((1 : Int64) <<< (w11.toInt64 &&& 63))) x = true) = (fun x => x = 3 * p1.toNatClampNeg + w) := by
    rw [tb_fun b11, c11]
    funext x
    rw [tb_zero]
    simp
  refine Pf.bindP (s125P (w0 := Int32.ofNat w) (M0 := fun x => x = 3 * p1.toNatClampNeg + w) (U0 := 3 * p1.toNatClampNeg + w) hn h_x0_shelf h_x0_rowSize h_x0_tapeSize h_x0_lines h_x0_line h_x0_changes h_x0_coins h_x0_goods h_x0_good h_x0_works h_x0_work h_x0_years h_x0_from a1 hp2   ⟨[], b11, a13, ⟨rfl, Nat.zero_le _⟩, ?_, a12, ?_, ?_, Arr.nil, f0⟩) (fun r hr => ?_)
  · show tb (0 ||| ((1 : Int64) <<< (w11.toInt64 &&& 63))) w11.toNatClampNeg = true
    rw [tb_setA b11]
    simp
  · show CE (EP x0_lines.toNatClampNeg x0_line x0_changes x0_coins x0_left g1 g2) p2.toNatClampNeg (fun x => tb (0 ||| ((1 : Int64) <<< (w11.toInt64 &&& 63))) x = true ∧ x ≠ w11.toNatClampNeg) w11.toNatClampNeg
    obtain ⟨k, hk⟩ := hway _ hu h6
    rw [c11]
    refine ⟨k, Pk.congr (fun x hx => ?_) k _ hk⟩
    obtain ⟨h1, h2⟩ := hx
    rw [tb_setA b11, c11] at h1
    simpa [h2] using h1
  · show PreW (T7 x0_lines.toNatClampNeg x0_line x0_changes x0_coins x0_left g1 g2) (EP x0_lines.toNatClampNeg x0_line x0_changes x0_coins x0_left g1 g2) p2.toNatClampNeg (fun x => x = 3 * p1.toNatClampNeg + w) (3 * p1.toNatClampNeg + w) [] (fun x => tb (0 ||| ((1 : Int64) <<< (w11.toInt64 &&& 63))) x = true) w11.toNatClampNeg
    rw [t0, c11]
    exact PreW.nil
  · obtain ⟨w22, w23, w24, w25⟩ := r
    obtain ⟨ws, q1, q2, q3, q4, _⟩ := hr
    refine Pf.ok ⟨⟨a1, hAt, ⟨hO, hC⟩, rfl⟩, Or.inr ⟨rfl, w, ws, hw, ?_, fun w' hw' => ?_, fun w' hw' => ?_, q1, q3, q2, q4⟩⟩
    · show g1 (3 * p1.toNatClampNeg + w) < 1000000000
      rw [h6]
      exact hlt
    · show g1 (3 * p1.toNatClampNeg + w) ≤ g1 (3 * p1.toNatClampNeg + w')
      rw [h6]
      exact h4.1 w' hw'
    · show ¬ g1 (3 * p1.toNatClampNeg + w') = g1 (3 * p1.toNatClampNeg + w)
      rw [h6]
      exact h7 w' hw'
end
section
/-! the class's arrives -/
def Oe (eA eB : Nat → Int32) (e u v : Nat) : Prop := ((eA e).toNatClampNeg = u ∧ v = (eB e).toNatClampNeg) ∨ (¬ (eA e).toNatClampNeg = u ∧ (eB e).toNatClampNeg = u ∧ v = (eA e).toNatClampNeg)
def TC (ec : Nat) (eA eB eC eL chg aw : Nat → Int32) (u s v : Nat) : Prop := v < 36 ∧ ((s < 3 ∧ v = u / 3 * 3 + s ∧ ¬ v = u ∧ aw u = chg (u / 3) + aw v) ∨ ∃ e, e < ec ∧ s = 3 + (eL e).toNatClampNeg ∧ Oe eA eB e u v ∧ aw u = eC e + aw v)
def EC (ec : Nat) (eA eB eC eL chg aw : Nat → Int32) (u v : Nat) : Prop := ∃ s, TC ec eA eB eC eL chg aw u s v
def DS (E : Nat → Nat → Prop) (M : Nat → Prop) (n0 : Nat) (P X : Nat → Prop) (c : Nat) (q : Nat → Int32) (m : Nat) (s : Int64) : Prop :=
  AI 0 35 q ∧ c + m ≤ cnt s ∧ (tb s n0 = true ∧ n0 < 36 ∧ ¬ M n0) ∧ (∀ j, j < m → tb s (q j).toNatClampNeg = true ∧ ∃ k, Rk E M n0 k (q j).toNatClampNeg) ∧ (∀ v, v < 36 → tb s v = true → M v ∨ (∃ j, j < m ∧ (q j).toNatClampNeg = v) ∨ P v ∨ X v) ∧ ∀ v, v < 36 → M v → tb s v = true
theorem room {s : Int64} {v : Int32} {c m : Nat} (hv : 0 ≤ v ∧ v ≤ 35) (hb : tb s v.toNatClampNeg = false) (h : c + m ≤ cnt s) : c + m < 36 := by
  have c1 := cnt_set hv hb
  have c2 := cnt_le (s ||| ((1 : Int64) <<< (v.toInt64 &&& 63)))
  omega
theorem DS.add {E : Nat → Nat → Prop} {M : Nat → Prop} {n0 u : Nat} {P X : Nat → Prop} {c m : Nat} {q : Nat → Int32} {s : Int64} {v : Int32} (h : DS E M n0 P X c q m s) (hu : ∃ k, Rk E M n0 k u) (hv : 0 ≤ v ∧ v ≤ 35) (hb : tb s v.toNatClampNeg = false) (hE : E u v.toNatClampNeg) : DS E M n0 P X c (va_up q m v) (m + 1) (s ||| ((1 : Int64) <<< (v.toInt64 &&& 63))) ∧ (∀ x, tb s x = true → tb (s ||| ((1 : Int64) <<< (v.toInt64 &&& 63))) x = true) ∧ tb (s ||| ((1 : Int64) <<< (v.toInt64 &&& 63))) v.toNatClampNeg = true := by
  obtain ⟨hA, hc, hn, h2, h3, h4⟩ := h
  have c1 := cnt_set hv hb
  have lv := (n36 hv).1
  have mono : ∀ x, tb s x = true → tb (s ||| ((1 : Int64) <<< (v.toInt64 &&& 63))) x = true := by
    intro x hx
    rw [tb_setA hv, hx]
    rfl
  have nM : ¬ M v.toNatClampNeg := fun hm => by
    have q := h4 _ lv hm
    rw [hb] at q
    cases q
  refine ⟨⟨hA.up hv, by omega, ⟨mono _ hn.1, hn.2⟩, fun j hj => ?_, fun x hx ht => ?_, fun x hx hm => mono x (h4 x hx hm)⟩, mono, by rw [tb_setA hv]; simp⟩
  · by_cases hjm : j = m
    · subst hjm
      rw [va_up_self]
      obtain ⟨k, hk⟩ := hu
      exact ⟨by rw [tb_setA hv]; simp, k + 1, nM, u, hk, hE⟩
    · rw [va_up_ne _ _ hjm]
      have q := h2 j (by omega)
      exact ⟨mono _ q.1, q.2⟩
  · rw [tb_setA hv] at ht
    by_cases ho : tb s x = true
    · rcases h3 x hx ho with h | ⟨j, hj, e⟩ | h
      · exact Or.inl h
      · exact Or.inr (Or.inl ⟨j, by omega, by rw [va_up_ne _ _ (by omega)]; exact e⟩)
      · exact Or.inr (Or.inr h)
    · have ho : tb s x = false := by simpa using ho
      rw [ho] at ht
      have e : x = v.toNatClampNeg := by simpa using ht
      exact Or.inr (Or.inl ⟨m, by omega, by rw [va_up_self]; exact e.symm⟩)
theorem openP {x0_edgeA : (Nat → Int32)} {x0_edgeB : (Nat → Int32)} {x0_edgeCost : (Nat → Int32)} {x0_edgeLine : (Nat → Int32)} {x0_change : (Nat → Int32)} {x0_away : (Nat → Int32)} {x0_steps : (Nat → Int32)} {x0_nodes : (Nat → Int32)} {x0_stepCount : Int32} {x0_edgeCount : Int32} {x0_aim : Int32} {z18 : Nat → Int32} {z19 v15 v cost : Int32} {z20 : Int64} {E : Nat → Nat → Prop} {M P X : Nat → Prop} {n0 c : Nat} (h19 : 0 ≤ z19) (hD : DS E M n0 P X c z18 z19.toNatClampNeg z20) (hu : ∃ k, Rk E M n0 k v15.toNatClampNeg) (hv : 0 ≤ v ∧ v ≤ 35) (hsn : tb z20 v15.toNatClampNeg = true) (hE : x0_away v15.toNatClampNeg = cost + x0_away v.toNatClampNeg → ¬ v.toNatClampNeg = v15.toNatClampNeg → E v15.toNatClampNeg v.toNatClampNeg) : Pf (fX5_openIfCheapest (x0_edgeA, x0_edgeB, x0_edgeCost, x0_edgeLine, x0_change, x0_away, x0_steps, x0_nodes, x0_stepCount, z18, z19, z20, x0_edgeCount, x0_aim) v15 v cost) (fun r => 0 ≤ r.2.1 ∧ DS E M n0 P X c r.1 r.2.1.toNatClampNeg r.2.2 ∧ (∀ x, tb z20 x = true → tb r.2.2 x = true) ∧ (x0_away v15.toNatClampNeg = cost + x0_away v.toNatClampNeg → tb r.2.2 v.toNatClampNeg = true)) := by
  unfold fX5_openIfCheapest
  dsimp only [u14]
  refine Pf.ite (fun hb => ?_) (fun hb => ?_)
  · have hb := (tb_get hv).mp hb
    have rm := room hv hb hD.2.1
    refine Pf.ite (fun hx => ?_) (fun _ => ?_)
    · exfalso
      have a := i32_cl h19
      have b := Int32.le_iff_toInt_le.mp hx
      have z36 : (36 : Int32).toInt = 36 := by decide
      rw [z36] at b
      omega
    · unfold fX5_openIfCheapest_j27
      rw [if_neg (by decide)]
      refine Pf.rdb (fun v2 e2 _ => Pf.rdb (fun v3 e3 _ => ?_))
      rw [e2, e3]
      refine Pf.ite (fun ht => Pf.someb (Pf.wrb (fun f5 e5 b5 => ?_))) (fun ht => Pf.ok ⟨h19, hD, fun x h => h, fun h => absurd h ht⟩)
      have hne : ¬ v.toNatClampNeg = v15.toNatClampNeg := fun e => by
        rw [e, hsn] at hb
        cases hb
      obtain ⟨d1, d2, d3⟩ := hD.add hu hv hb (hE ht hne)
      have lt : ¬ (36 : Int32) ≤ z19 := fun hx => by
        have a := i32_cl h19
        have b := Int32.le_iff_toInt_le.mp hx
        have z36 : (36 : Int32).toInt = 36 := by decide
        rw [z36] at b
        omega
      obtain ⟨p, q, _⟩ := up1 h19 (by decide) lt
      refine Pf.ok ⟨p, ?_, d2, fun _ => d3⟩
      show DS E M n0 P X c f5 (z19 + 1).toNatClampNeg _
      rw [e5, q]
      exact d1
  · have hb : tb z20 v.toNatClampNeg = true := by
      have q : ¬ tb z20 v.toNatClampNeg = false := fun h => hb ((tb_get hv).mpr h)
      simpa using q
    unfold fX5_openIfCheapest_j26 fX5_openIfCheapest_j27
    rw [if_pos rfl]
    exact Pf.ok ⟨h19, hD, fun x h => h, fun _ => hb⟩
theorem otherP {x0_edgeA : (Nat → Int32)} {x0_edgeB : (Nat → Int32)} {x0_edgeCost : (Nat → Int32)} {x0_edgeLine : (Nat → Int32)} {x0_change : (Nat → Int32)} {x0_away : (Nat → Int32)} {x0_steps : (Nat → Int32)} {x0_nodes : (Nat → Int32)} {x0_stepCount : Int32} {x0_open : (Nat → Int32)} {x0_openCount : Int32} {x0_seen : Int64} {x0_edgeCount : Int32} {x0_aim : Int32} {e u : Int32} (hA : AI 0 35 x0_edgeA) (hB : AI 0 35 x0_edgeB) (hu : 0 ≤ u ∧ u ≤ 35) : Pf (fX5_otherEnd (x0_edgeA, x0_edgeB, x0_edgeCost, x0_edgeLine, x0_change, x0_away, x0_steps, x0_nodes, x0_stepCount, x0_open, x0_openCount, x0_seen, x0_edgeCount, x0_aim) e u) (fun r => (r = -1 ∧ ∀ v, ¬ Oe x0_edgeA x0_edgeB e.toNatClampNeg u.toNatClampNeg v) ∨ ((0 ≤ r ∧ r ≤ 35) ∧ Oe x0_edgeA x0_edgeB e.toNatClampNeg u.toNatClampNeg r.toNatClampNeg)) := by
  have inj : ∀ {x : Int32}, 0 ≤ x → x.toNatClampNeg = u.toNatClampNeg → x = u := fun h0 h => by
    rw [← o_of h0, h, o_of hu.1]
  unfold fX5_otherEnd
  dsimp only [u14]
  refine Pf.rdb (fun v1 e1 _ => Pf.ite (fun h => Pf.rdb (fun v4 e4 _ => Pf.ok (Or.inr ⟨?_, Or.inl ⟨?_, ?_⟩⟩))) (fun h => Pf.rdb (fun v2 e2 _ => Pf.ite (fun h2 => Pf.rdb (fun v3 e3 _ => Pf.ok (Or.inr ⟨?_, Or.inr ⟨fun hx => ?_, ?_, ?_⟩⟩))) (fun h2 => Pf.ok (Or.inl ⟨rfl, fun v hv => ?_⟩)))))
  · rw [e4]; exact hB _
  · rw [← e1, h]
  · rw [e4]
  · rw [e3]; exact hA _
  · exact h (by rw [e1]; exact inj (hA _).1 hx)
  · rw [← e2, h2]
  · rw [e3]
  · rcases hv with hv | hv
    · exact h (by rw [e1]; exact inj (hA _).1 hv.1)
    · exact h2 (by rw [e2]; exact inj (hB _).1 hv.2.1)

theorem s79P {n : Nat} {x0_edgeA : (Nat → Int32)} {x0_edgeB : (Nat → Int32)} {x0_edgeCost : (Nat → Int32)} {x0_edgeLine : (Nat → Int32)} {x0_change : (Nat → Int32)} {x0_away : (Nat → Int32)} {x0_steps : (Nat → Int32)} {x0_nodes : (Nat → Int32)} {x0_stepCount : Int32} {x0_edgeCount : Int32} {x0_aim : Int32} {z18 : Nat → Int32} {z19 v15 : Int32} {z20 : Int64} {M P X : Nat → Prop} {n0 c : Nat} (h15 : 0 ≤ v15 ∧ v15 ≤ 35) (h19 : 0 ≤ z19) (hD : DS (EC x0_edgeCount.toNatClampNeg x0_edgeA x0_edgeB x0_edgeCost x0_edgeLine x0_change x0_away) M n0 P X c z18 z19.toNatClampNeg z20) (hu : ∃ k, Rk (EC x0_edgeCount.toNatClampNeg x0_edgeA x0_edgeB x0_edgeCost x0_edgeLine x0_change x0_away) M n0 k v15.toNatClampNeg) (hsn : tb z20 v15.toNatClampNeg = true) : Pf (lp (u4 (fX5_arrives_s79 x0_edgeA x0_edgeB x0_edgeCost x0_edgeLine x0_change x0_away x0_steps x0_nodes x0_stepCount    x0_edgeCount x0_aim v15)) n (0, z18, z19, z20)) (fun e => 0 ≤ e.2.1 ∧ DS (EC x0_edgeCount.toNatClampNeg x0_edgeA x0_edgeB x0_edgeCost x0_edgeLine x0_change x0_away) M n0 P X c e.1 e.2.1.toNatClampNeg e.2.2 ∧ (∀ x, tb z20 x = true → tb e.2.2 x = true) ∧ ∀ w : Nat, w < 3 → x0_away v15.toNatClampNeg = x0_change (v15.toNatClampNeg / 3) + x0_away (v15.toNatClampNeg / 3 * 3 + w) → tb e.2.2 (v15.toNatClampNeg / 3 * 3 + w) = true) := by
  refine Pf.loop (fun z => 0 ≤ z.1 ∧ (0 ≤ z.2.2.1 ∧ DS (EC x0_edgeCount.toNatClampNeg x0_edgeA x0_edgeB x0_edgeCost x0_edgeLine x0_change x0_away) M n0 P X c z.2.1 z.2.2.1.toNatClampNeg z.2.2.2 ∧ (∀ x, tb z20 x = true → tb z.2.2.2 x = true)) ∧ ∀ w : Nat, w < z.1.toNatClampNeg → w < 3 → x0_away v15.toNatClampNeg = x0_change (v15.toNatClampNeg / 3) + x0_away (v15.toNatClampNeg / 3 * 3 + w) → tb z.2.2.2 (v15.toNatClampNeg / 3 * 3 + w) = true) (fun z hz => ?_) n _ ⟨Int32.le_refl _, ⟨h19, hD, fun _ h => h⟩, fun w h => absurd h (Nat.not_lt_zero _)⟩
  obtain ⟨z17, y18, y19, y20⟩ := z
  obtain ⟨h17, ⟨g19, gD, gM⟩, gW⟩ := hz
  have h17 : 0 ≤ z17 := h17
  have g19 : 0 ≤ y19 := g19
  have gD : DS (EC x0_edgeCount.toNatClampNeg x0_edgeA x0_edgeB x0_edgeCost x0_edgeLine x0_change x0_away) M n0 P X c y18 y19.toNatClampNeg y20 := gD
  have gM : ∀ x, tb z20 x = true → tb y20 x = true := gM
  have gW : ∀ w : Nat, w < z17.toNatClampNeg → w < 3 → x0_away v15.toNatClampNeg = x0_change (v15.toNatClampNeg / 3) + x0_away (v15.toNatClampNeg / 3 * 3 + w) → tb y20 (v15.toNatClampNeg / 3 * 3 + w) = true := gW
  dsimp only [u4]
  unfold fX5_arrives_s79
  refine Pf.ite (fun h => Pf.inr ⟨g19, gD, gM, fun w hw => gW w ?_ hw⟩) (fun h => ?_)
  · have a := i32_cl h17
    have b := Int32.le_iff_toInt_le.mp h
    have z3 : (3 : Int32).toInt = 3 := by decide
    rw [z3] at b
    omega
  obtain ⟨p17, q17, l17⟩ := up1 h17 (by decide) h
  have d3 := dv3 h15
  have ix := ix3 ⟨d3.1, d3.2.1⟩ ⟨h17, l17⟩
  have e3 : v15 / 3 * 3 + z17 = 3 * (v15 / 3) + z17 := by rw [Int32.mul_comm]
  have n3 : (v15 / 3 * 3 + z17).toNatClampNeg = v15.toNatClampNeg / 3 * 3 + z17.toNatClampNeg := by
    rw [e3, ix.2, dv_n h15, Nat.mul_comm]
  have b3 : 0 ≤ v15 / 3 * 3 + z17 ∧ v15 / 3 * 3 + z17 ≤ 35 := by
    rw [e3]
    exact ⟨ix.1.1, by have q := ix.1.2; generalize 3 * (v15 / 3) + z17 = y at q; grind⟩
  have lw : z17.toNatClampNeg < 3 := i32_lt (M := 3) rfl ⟨h17, l17⟩
  refine Pf.rdb (fun v41 e41 _ => ?_)
  rw [dv_n h15] at e41
  refine Pf.bindP (openP g19 gD hu b3 (gM _ hsn) (fun ht hne => ?_)) (fun r hr => ?_)
  · rw [n3] at ht hne ⊢
    have q := (n36 b3).1
    rw [n3] at q
    exact ⟨z17.toNatClampNeg, q, Or.inl ⟨lw, rfl, hne, by rw [← e41]; exact ht⟩⟩
  · obtain ⟨g42, g43, g44⟩ := r
    obtain ⟨r1, r2, r3, r4⟩ := hr
    dsimp only [u3]
    refine Pf.inl ⟨p17, ⟨r1, r2, fun x hx => r3 x (gM x hx)⟩, fun w hw hw3 ht => ?_⟩
    have hw : w < (z17 + 1).toNatClampNeg := hw
    rw [q17] at hw
    show tb g44 _ = true
    rcases Nat.lt_or_ge w z17.toNatClampNeg with l | l
    · exact r3 _ (gW w l hw3 ht)
    · have e : w = z17.toNatClampNeg := by omega
      rw [e] at ht ⊢
      rw [← n3] at ht ⊢
      exact r4 (by rw [e41]; exact ht)
theorem s114P {n : Nat} {x0_edgeA : (Nat → Int32)} {x0_edgeB : (Nat → Int32)} {x0_edgeCost : (Nat → Int32)} {x0_edgeLine : (Nat → Int32)} {x0_change : (Nat → Int32)} {x0_away : (Nat → Int32)} {x0_steps : (Nat → Int32)} {x0_nodes : (Nat → Int32)} {x0_stepCount : Int32} {x0_edgeCount : Int32} {x0_aim : Int32} {z18 : Nat → Int32} {z19 v15 : Int32} {z20 : Int64} {M P X : Nat → Prop} {n0 c : Nat} (hA : AI 0 35 x0_edgeA) (hB : AI 0 35 x0_edgeB) (hec : 0 ≤ x0_edgeCount ∧ x0_edgeCount ≤ 60) (h15 : 0 ≤ v15 ∧ v15 ≤ 35) (h19 : 0 ≤ z19) (hD : DS (EC x0_edgeCount.toNatClampNeg x0_edgeA x0_edgeB x0_edgeCost x0_edgeLine x0_change x0_away) M n0 P X c z18 z19.toNatClampNeg z20) (hu : ∃ k, Rk (EC x0_edgeCount.toNatClampNeg x0_edgeA x0_edgeB x0_edgeCost x0_edgeLine x0_change x0_away) M n0 k v15.toNatClampNeg) (hsn : tb z20 v15.toNatClampNeg = true) : Pf (lp (u4 (fX5_arrives_s114 x0_edgeA x0_edgeB x0_edgeCost x0_edgeLine x0_change x0_away x0_steps x0_nodes x0_stepCount    x0_edgeCount x0_aim v15)) n (0, z18, z19, z20)) (fun e => 0 ≤ e.2.1 ∧ DS (EC x0_edgeCount.toNatClampNeg x0_edgeA x0_edgeB x0_edgeCost x0_edgeLine x0_change x0_away) M n0 P X c e.1 e.2.1.toNatClampNeg e.2.2 ∧ (∀ x, tb z20 x = true → tb e.2.2 x = true) ∧ ∀ i v : Nat, i < x0_edgeCount.toNatClampNeg → Oe x0_edgeA x0_edgeB i v15.toNatClampNeg v → x0_away v15.toNatClampNeg = x0_edgeCost i + x0_away v → tb e.2.2 v = true) := by
  refine Pf.loop (fun z => 0 ≤ z.1 ∧ (0 ≤ z.2.2.1 ∧ DS (EC x0_edgeCount.toNatClampNeg x0_edgeA x0_edgeB x0_edgeCost x0_edgeLine x0_change x0_away) M n0 P X c z.2.1 z.2.2.1.toNatClampNeg z.2.2.2 ∧ (∀ x, tb z20 x = true → tb z.2.2.2 x = true)) ∧ ∀ i v : Nat, i < z.1.toNatClampNeg → Oe x0_edgeA x0_edgeB i v15.toNatClampNeg v → x0_away v15.toNatClampNeg = x0_edgeCost i + x0_away v → tb z.2.2.2 v = true) (fun z hz => ?_) n _ ⟨Int32.le_refl _, ⟨h19, hD, fun _ h => h⟩, fun i v h => absurd h (Nat.not_lt_zero _)⟩
  obtain ⟨z26, y18, y19, y20⟩ := z
  obtain ⟨h26, ⟨g19, gD, gM⟩, gW⟩ := hz
  have h26 : 0 ≤ z26 := h26
  have g19 : 0 ≤ y19 := g19
  have gD : DS (EC x0_edgeCount.toNatClampNeg x0_edgeA x0_edgeB x0_edgeCost x0_edgeLine x0_change x0_away) M n0 P X c y18 y19.toNatClampNeg y20 := gD
  have gM : ∀ x, tb z20 x = true → tb y20 x = true := gM
  have gW : ∀ i v : Nat, i < z26.toNatClampNeg → Oe x0_edgeA x0_edgeB i v15.toNatClampNeg v → x0_away v15.toNatClampNeg = x0_edgeCost i + x0_away v → tb y20 v = true := gW
  dsimp only [u4]
  unfold fX5_arrives_s114
  refine Pf.ite (fun h => Pf.inr ⟨g19, gD, gM, fun i v hi => gW i v ?_⟩) (fun h => ?_)
  · have a := i32_cl h26
    have b := Int32.le_iff_toInt_le.mp h
    have d := i32_cl hec.1
    omega
  have l60 : x0_edgeCount ≤ 1000 := Int32.le_trans hec.2 (by decide)
  obtain ⟨p26, q26, l26⟩ := up1 h26 l60 h
  have lt : z26.toNatClampNeg < x0_edgeCount.toNatClampNeg := by
    have a := i32_cl h26
    have b := Int32.lt_iff_toInt_lt.mp l26
    have d := i32_cl hec.1
    omega
  refine Pf.bindP (otherP hA hB h15) (fun v34 h34 => ?_)
  refine Pf.ite (fun hm => Pf.inl ⟨p26, ⟨g19, gD, gM⟩, fun i v hi ho ht => ?_⟩) (fun hm => ?_)
  · have hi : i < (z26 + 1).toNatClampNeg := hi
    rw [q26] at hi
    rcases Nat.lt_or_ge i z26.toNatClampNeg with l | l
    · exact gW i v l ho ht
    · have e : i = z26.toNatClampNeg := by omega
      rw [e] at ho
      rcases h34 with h | h
      · exact absurd ho (h.2 v)
      · rw [hm] at h
        exact absurd h.1.1 (by decide)
  · rcases h34 with h | ⟨b34, o34⟩
    · exact absurd h.1 hm
    refine Pf.rdb (fun v36 e36 _ => ?_)
    refine Pf.bindP (openP g19 gD hu b34 (gM _ hsn) (fun ht hne => ?_)) (fun r hr => ?_)
    · exact ⟨_, (n36 b34).1, Or.inr ⟨z26.toNatClampNeg, lt, rfl, o34, by rw [← e36]; exact ht⟩⟩
    · obtain ⟨g37, g38, g39⟩ := r
      obtain ⟨r1, r2, r3, r4⟩ := hr
      dsimp only [u3]
      refine Pf.inl ⟨p26, ⟨r1, r2, fun x hx => r3 x (gM x hx)⟩, fun i v hi ho ht => ?_⟩
      have hi : i < (z26 + 1).toNatClampNeg := hi
      rw [q26] at hi
      show tb g39 v = true
      rcases Nat.lt_or_ge i z26.toNatClampNeg with l | l
      · exact r3 _ (gW i v l ho ht)
      · have e : i = z26.toNatClampNeg := by omega
        rw [e] at ho ht
        have ev : v = v34.toNatClampNeg := by
          rcases ho with a | a <;> rcases o34 with b | b
          · rw [a.2, b.2]
          · exact absurd a.1 b.1
          · exact absurd b.1 a.1
          · rw [a.2.2, b.2.2]
        rw [ev] at ht ⊢
        exact r4 (by rw [e36]; exact ht)

theorem arrivesP {n : Nat} {x0_edgeA : (Nat → Int32)} {x0_edgeB : (Nat → Int32)} {x0_edgeCost : (Nat → Int32)} {x0_edgeLine : (Nat → Int32)} {x0_change : (Nat → Int32)} {x0_away : (Nat → Int32)} {x0_steps : (Nat → Int32)} {x0_nodes : (Nat → Int32)} {x0_stepCount : Int32} {x0_open : (Nat → Int32)} {x0_openCount : Int32} {x0_seen : Int64} {x0_edgeCount : Int32} {x0_aim : Int32} {p1 : Int32} {p2 : Int64} (hA : AI 0 35 x0_edgeA) (hB : AI 0 35 x0_edgeB) (hec : 0 ≤ x0_edgeCount ∧ x0_edgeCount ≤ 60) (hop : AI 0 35 x0_open) (ham : 0 ≤ x0_aim ∧ x0_aim ≤ 11) (hp : 0 ≤ p1 ∧ p1 ≤ 35) (hnm : tb p2 p1.toNatClampNeg = false) : Pf (fX5_arrives n (x0_edgeA, x0_edgeB, x0_edgeCost, x0_edgeLine, x0_change, x0_away, x0_steps, x0_nodes, x0_stepCount, x0_open, x0_openCount, x0_seen, x0_edgeCount, x0_aim) p1 p2) (fun r => AI 0 35 r.2.1 ∧ ((¬ r.1 = 0 ∧ CE (EC x0_edgeCount.toNatClampNeg x0_edgeA x0_edgeB x0_edgeCost x0_edgeLine x0_change x0_away) x0_aim.toNatClampNeg (fun x => tb p2 x = true) p1.toNatClampNeg) ∨ (r.1 = 0 ∧ ¬ CE (EC x0_edgeCount.toNatClampNeg x0_edgeA x0_edgeB x0_edgeCost x0_edgeLine x0_change x0_away) x0_aim.toNatClampNeg (fun x => tb p2 x = true) p1.toNatClampNeg))) := by
  unfold fX5_arrives
  dsimp only [u14]
  refine Pf.someb (Pf.wrb (fun f2 e2 _ => ?_))
  have E36 : ∀ u v, (EC x0_edgeCount.toNatClampNeg x0_edgeA x0_edgeB x0_edgeCost x0_edgeLine x0_change x0_away) u v → v < 36 := fun u v ⟨s, h⟩ => h.1
  have nM : ¬ tb p2 p1.toNatClampNeg = true := by rw [hnm]; simp
  have hp36 := (n36 hp).1
  have i0 : DS (EC x0_edgeCount.toNatClampNeg x0_edgeA x0_edgeB x0_edgeCost x0_edgeLine x0_change x0_away) (fun x => tb p2 x = true) p1.toNatClampNeg (fun _ => False) (fun _ => False) 0 f2 1 (p2 ||| ((1 : Int64) <<< (p1.toInt64 &&& 63))) := by
    refine ⟨by rw [e2]; exact hop.up hp, ?_, ⟨by rw [tb_setA hp]; simp, hp36, nM⟩, fun j hj => ?_, fun v hv ht => ?_, fun v hv hm => ?_⟩
    · have c1 := cnt_set hp hnm
      omega
    · have e : j = 0 := by omega
      rw [e, e2]
      exact ⟨by show tb _ (va_up x0_open 0 p1 0).toNatClampNeg = true; rw [va_eq, tb_setA hp]; simp, 0, by show (va_up x0_open 0 p1 0).toNatClampNeg = _; rw [va_eq], nM⟩
    · rw [tb_setA hp] at ht
      by_cases ho : tb p2 v = true
      · exact Or.inl ho
      · have ho : tb p2 v = false := by simpa using ho
        rw [ho] at ht
        have e : v = p1.toNatClampNeg := by simpa using ht
        exact Or.inr (Or.inl ⟨0, by decide, by rw [e2]; show (va_up x0_open 0 p1 0).toNatClampNeg = v; rw [va_eq]; exact e.symm⟩)
    · have hm : tb p2 v = true := hm
      rw [tb_setA hp, hm]
      rfl
  refine Pf.bindP (P := fun r => Sum.elim (fun e => AI 0 35 e.1 ∧ CE (EC x0_edgeCount.toNatClampNeg x0_edgeA x0_edgeB x0_edgeCost x0_edgeLine x0_change x0_away) x0_aim.toNatClampNeg (fun x => tb p2 x = true) p1.toNatClampNeg) (fun e => AI 0 35 e.1 ∧ ¬ CE (EC x0_edgeCount.toNatClampNeg x0_edgeA x0_edgeB x0_edgeCost x0_edgeLine x0_change x0_away) x0_aim.toNatClampNeg (fun x => tb p2 x = true) p1.toNatClampNeg) r) ?_ (fun r hr => ?_)
  · refine Pf.loop (fun z => ∃ P : Nat → Prop, 0 ≤ z.1 ∧ 0 ≤ z.2.2.1 ∧ DS (EC x0_edgeCount.toNatClampNeg x0_edgeA x0_edgeB x0_edgeCost x0_edgeLine x0_change x0_away) (fun x => tb p2 x = true) p1.toNatClampNeg P (fun _ => False) z.1.toNatClampNeg z.2.1 z.2.2.1.toNatClampNeg z.2.2.2 ∧ ∀ v, P v → ¬ v / 3 = x0_aim.toNatClampNeg ∧ ∀ x, x < 36 → (EC x0_edgeCount.toNatClampNeg x0_edgeA x0_edgeB x0_edgeCost x0_edgeLine x0_change x0_away) v x → tb z.2.2.2 x = true) (fun z hz => ?_) n _ ⟨fun _ => False, Int32.le_refl _, (by decide : (0 : Int32) ≤ 1), i0, fun v h => h.elim⟩
    obtain ⟨z4, z5, z6, z7⟩ := z
    obtain ⟨P, h4, h6, hD, hP⟩ := hz
    have h4 : 0 ≤ z4 := h4
    have h6 : 0 ≤ z6 := h6
    have hD : DS (EC x0_edgeCount.toNatClampNeg x0_edgeA x0_edgeB x0_edgeCost x0_edgeLine x0_change x0_away) (fun x => tb p2 x = true) p1.toNatClampNeg P (fun _ => False) z4.toNatClampNeg z5 z6.toNatClampNeg z7 := hD
    have hP : ∀ v, P v → ¬ v / 3 = x0_aim.toNatClampNeg ∧ ∀ x, x < 36 → (EC x0_edgeCount.toNatClampNeg x0_edgeA x0_edgeB x0_edgeCost x0_edgeLine x0_change x0_away) v x → tb z7 x = true := hP
    have none : z6.toNatClampNeg = 0 → ¬ CE (EC x0_edgeCount.toNatClampNeg x0_edgeA x0_edgeB x0_edgeCost x0_edgeLine x0_change x0_away) x0_aim.toNatClampNeg (fun x => tb p2 x = true) p1.toNatClampNeg := by
      intro h0
      rintro ⟨k, hk⟩
      obtain ⟨_, _, hn0, _, h3, _⟩ := hD
      refine Pk.closed (C := fun u => u < 36 ∧ P u) ?_ ?_ k _ ?_ hk
      · rintro u ⟨_, hu⟩
        exact (hP u hu).1
      · rintro u v ⟨_, hu⟩ e
        have hv := E36 u v e
        rcases h3 v hv ((hP u hu).2 v hv e) with hm | ⟨j, hj, _⟩ | h | h
        · exact Or.inl hm
        · omega
        · exact Or.inr ⟨hv, h⟩
        · exact h.elim
      · refine ⟨hn0.2.1, ?_⟩
        rcases h3 _ hn0.2.1 hn0.1 with hm | ⟨j, hj, _⟩ | h | h
        · exact absurd hm hn0.2.2
        · omega
        · exact h
        · exact h.elim
    dsimp only [u4]
    unfold fX5_arrives_s24
    refine Pf.ite (fun h => Pf.inr (show _ ∧ _ from ⟨hD.1, none ?_⟩)) (fun h36 => Pf.ite (fun h => Pf.inr (show _ ∧ _ from ⟨hD.1, none ?_⟩)) (fun hz => ?_))
    · have a := i32_cl h4
      have b := Int32.le_iff_toInt_le.mp h
      have z36 : (36 : Int32).toInt = 36 := by decide
      rw [z36] at b
      have c2 := cnt_le z7
      have c3 := hD.2.1
      omega
    · have e : z6 = 0 := Int32.le_antisymm h h6
      rw [e]
      rfl
    have m0 : z6.toNatClampNeg ≤ 36 := by
      have c2 := cnt_le z7
      have c3 := hD.2.1
      omega
    have b6 : 1 ≤ z6 ∧ z6 ≤ 36 := by
      have a := i32_cl h6
      have z36 : (36 : Int32).toInt = 36 := by decide
      exact ⟨by clear hD hP none; grind, Int32.le_iff_toInt_le.mpr (by rw [z36]; omega)⟩
    have e61 : 0 ≤ z6 - 1 ∧ (z6 - 1).toNatClampNeg + 1 = z6.toNatClampNeg := by
      have p : 0 ≤ z6 - 1 := by clear hD hP none; grind
      have q := up1 (B := 1000) p (by decide) (by clear hD hP none; grind)
      have e : z6 - 1 + 1 = z6 := Int32.sub_add_cancel z6 1
      rw [e] at q
      exact ⟨p, q.2.1.symm⟩
    refine Pf.rdb (fun v15 e15 _ => ?_)
    have h15 : 0 ≤ v15 ∧ v15 ≤ 35 := by rw [e15]; exact hD.1 _
    have hu : ∃ k, Rk (EC x0_edgeCount.toNatClampNeg x0_edgeA x0_edgeB x0_edgeCost x0_edgeLine x0_change x0_away) (fun x => tb p2 x = true) p1.toNatClampNeg k v15.toNatClampNeg := by
      rw [e15]
      exact (hD.2.2.2.1 _ (by omega)).2
    refine Pf.ite (fun hg => Pf.inr (show _ ∧ _ from ?_)) (fun hg => ?_)
    · have hG : v15.toNatClampNeg / 3 = x0_aim.toNatClampNeg := by rw [← dv_n h15, hg]
      obtain ⟨k, hk⟩ := hu
      have nm : ¬ tb p2 v15.toNatClampNeg = true := by
        cases k with
        | zero => obtain ⟨ea, eb⟩ := hk; rw [ea]; exact eb
        | succ k => exact hk.1
      exact ⟨hD.1, Rk.way (G := fun u => u / 3 = x0_aim.toNatClampNeg) k _ 0 hk ⟨nm, hG⟩⟩
    have hG : ¬ v15.toNatClampNeg / 3 = x0_aim.toNatClampNeg := fun hx => hg (by
      rw [← o_of (dv3 h15).1, ← o_of ham.1, dv_n h15, hx])
    obtain ⟨p4, q4, _⟩ := up1 h4 (by decide) h36
    have hsn : tb z7 v15.toNatClampNeg = true := by
      rw [e15]
      exact (hD.2.2.2.1 _ (by omega)).1
    have D1 : DS (EC x0_edgeCount.toNatClampNeg x0_edgeA x0_edgeB x0_edgeCost x0_edgeLine x0_change x0_away) (fun x => tb p2 x = true) p1.toNatClampNeg P (fun x => x = v15.toNatClampNeg) (z4.toNatClampNeg + 1) z5 (z6 - 1).toNatClampNeg z7 := by
      obtain ⟨d1, d2, d3, d4, d5, d6⟩ := hD
      refine ⟨d1, by omega, d3, fun j hj => d4 j (by omega), fun v hv ht => ?_, d6⟩
      rcases d5 v hv ht with h | ⟨j, hj, e⟩ | h | h
      · exact Or.inl h
      · rcases Nat.lt_or_ge j (z6 - 1).toNatClampNeg with l | l
        · exact Or.inr (Or.inl ⟨j, l, e⟩)
        · have ej : j = (z6 - 1).toNatClampNeg := by omega
          rw [ej, ← e15] at e
          exact Or.inr (Or.inr (Or.inr e.symm))
      · exact Or.inr (Or.inr (Or.inl h))
      · exact h.elim
    refine Pf.bindP (s79P h15 e61.1 D1 hu hsn) (fun r hr => ?_)
    obtain ⟨w22, w23, w24⟩ := r
    obtain ⟨a1, a2, a3, a4⟩ := hr
    dsimp only [u3]
    refine Pf.bindP (s114P hA hB hec h15 a1 a2 hu (a3 _ hsn)) (fun r hr => ?_)
    obtain ⟨w31, w32, w33⟩ := r
    obtain ⟨c1, c2, c3, c4⟩ := hr
    dsimp only [u3]
    refine Pf.inl ⟨fun x => P x ∨ x = v15.toNatClampNeg, p4, c1, ?_, fun v hv => ?_⟩
    · show DS (EC x0_edgeCount.toNatClampNeg x0_edgeA x0_edgeB x0_edgeCost x0_edgeLine x0_change x0_away) (fun x => tb p2 x = true) p1.toNatClampNeg (fun x => P x ∨ x = v15.toNatClampNeg) (fun _ => False) (z4 + 1).toNatClampNeg w31 w32.toNatClampNeg w33
      rw [q4]
      obtain ⟨d1, d2, d3, d4, d5, d6⟩ := c2
      refine ⟨d1, d2, d3, d4, fun v hv ht => ?_, d6⟩
      rcases d5 v hv ht with h | h | h | h
      · exact Or.inl h
      · exact Or.inr (Or.inl h)
      · exact Or.inr (Or.inr (Or.inl (Or.inl h)))
      · exact Or.inr (Or.inr (Or.inl (Or.inr h)))
    · rcases hv with hv | hv
      · exact ⟨(hP v hv).1, fun x hx e => c3 _ (a3 _ ((hP v hv).2 x hx e))⟩
      · rw [hv]
        refine ⟨hG, fun x hx e => ?_⟩
        obtain ⟨s, _, h | ⟨i, h1, _, h2, h3⟩⟩ := e
        · obtain ⟨s3, ex, _, ht⟩ := h
          rw [ex] at ht ⊢
          exact c3 _ (a4 s s3 ht)
        · exact c4 i x h1 h2 h3
  · rcases r with ⟨w9, w10, w11⟩ | ⟨w12, w13, w14⟩
    · exact Pf.ok ⟨hr.1, Or.inl ⟨(by decide : ¬ (1 : Int32) = 0), hr.2⟩⟩
    · exact Pf.ok ⟨hr.1, Or.inr ⟨rfl, hr.2⟩⟩
end
section
/-! the class's stepOn -/
theorem leadsP {n : Nat} {x0_edgeA : (Nat → Int32)} {x0_edgeB : (Nat → Int32)} {x0_edgeCost : (Nat → Int32)} {x0_edgeLine : (Nat → Int32)} {x0_change : (Nat → Int32)} {x0_away : (Nat → Int32)} {x0_steps : (Nat → Int32)} {x0_nodes : (Nat → Int32)} {x0_stepCount : Int32} {x0_open : (Nat → Int32)} {x0_openCount : Int32} {x0_seen : Int64} {x0_edgeCount : Int32} {x0_aim : Int32} {p1 v c : Int32} {p2 : Int64} (hA : AI 0 35 x0_edgeA) (hB : AI 0 35 x0_edgeB) (hec : 0 ≤ x0_edgeCount ∧ x0_edgeCount ≤ 60) (hL : AI 0 19 x0_edgeLine) (ham : 0 ≤ x0_aim ∧ x0_aim ≤ 11) (hop : AI 0 35 x0_open) (hv : 0 ≤ v ∧ v ≤ 35) (hpos : x0_away p1.toNatClampNeg = c + x0_away v.toNatClampNeg → 0 < c → tb p2 v.toNatClampNeg = false → CE (EC x0_edgeCount.toNatClampNeg x0_edgeA x0_edgeB x0_edgeCost x0_edgeLine x0_change x0_away) x0_aim.toNatClampNeg (fun x => tb p2 x = true) v.toNatClampNeg) : Pf (fX5_leads n (x0_edgeA, x0_edgeB, x0_edgeCost, x0_edgeLine, x0_change, x0_away, x0_steps, x0_nodes, x0_stepCount, x0_open, x0_openCount, x0_seen, x0_edgeCount, x0_aim) p1 v c p2) (fun r => AI 0 35 r.2.1 ∧ ((¬ r.1 = 0 ∧ x0_away p1.toNatClampNeg = c + x0_away v.toNatClampNeg ∧ CE (EC x0_edgeCount.toNatClampNeg x0_edgeA x0_edgeB x0_edgeCost x0_edgeLine x0_change x0_away) x0_aim.toNatClampNeg (fun x => tb p2 x = true) v.toNatClampNeg) ∨ (r.1 = 0 ∧ ¬ (x0_away p1.toNatClampNeg = c + x0_away v.toNatClampNeg ∧ CE (EC x0_edgeCount.toNatClampNeg x0_edgeA x0_edgeB x0_edgeCost x0_edgeLine x0_change x0_away) x0_aim.toNatClampNeg (fun x => tb p2 x = true) v.toNatClampNeg)))) := by
  unfold fX5_leads
  dsimp only [u14]
  refine Pf.ite (fun hb => ?_) (fun hb => ?_)
  · have hb := (tb_get hv).mp hb
    refine Pf.rdb (fun v1 e1 _ => Pf.rdb (fun v2 e2 _ => ?_))
    rw [e1, e2]
    refine Pf.ite (fun ht => Pf.ite (fun hc => Pf.ok ⟨hop, Or.inl ⟨(by decide : ¬ (1 : Int32) = 0), ht, hpos ht hc hb⟩⟩) (fun hc => Pf.bindP (arrivesP hA hB hec hop ham hv hb) (fun r hr => ?_))) (fun ht => Pf.ok ⟨hop, Or.inr ⟨rfl, fun h => ht h.1⟩⟩)
    obtain ⟨v3, g4, g5, g6⟩ := r
    obtain ⟨r1, r2⟩ := hr
    dsimp only [u4]
    refine Pf.ite (fun hz => Pf.ok ⟨r1, Or.inr ⟨rfl, fun h => ?_⟩⟩) (fun hz => Pf.ok ⟨r1, Or.inl ⟨(by decide : ¬ (1 : Int32) = 0), ht, ?_⟩⟩)
    · rcases r2 with q | q
      · exact q.1 hz
      · exact q.2 h.2
    · rcases r2 with q | q
      · exact q.2
      · exact absurd q.1 hz
  · have hb : tb p2 v.toNatClampNeg = true := by
      have q : ¬ tb p2 v.toNatClampNeg = false := fun h => hb ((tb_get hv).mpr h)
      simpa using q
    exact Pf.ok ⟨hop, Or.inr ⟨rfl, fun h => by
      obtain ⟨k, hk⟩ := h.2
      exact Pk.nm hk hb⟩⟩
theorem noteP {x0_edgeA : (Nat → Int32)} {x0_edgeB : (Nat → Int32)} {x0_edgeCost : (Nat → Int32)} {x0_edgeLine : (Nat → Int32)} {x0_change : (Nat → Int32)} {x0_away : (Nat → Int32)} {x0_steps : (Nat → Int32)} {x0_nodes : (Nat → Int32)} {x0_stepCount : Int32} {x0_open : (Nat → Int32)} {x0_openCount : Int32} {x0_seen : Int64} {x0_edgeCount : Int32} {x0_aim : Int32} {s v : Int32} : Pf (fX5_note (x0_edgeA, x0_edgeB, x0_edgeCost, x0_edgeLine, x0_change, x0_away, x0_steps, x0_nodes, x0_stepCount, x0_open, x0_openCount, x0_seen, x0_edgeCount, x0_aim) s v) (fun r => ¬ 36 ≤ x0_stepCount → r.1 = va_up x0_steps x0_stepCount.toNatClampNeg s ∧ r.2.1 = va_up x0_nodes x0_stepCount.toNatClampNeg v ∧ r.2.2 = x0_stepCount + 1) := by
  unfold fX5_note
  dsimp only [u14]
  exact Pf.ite (fun h => Pf.ok (fun h2 => absurd h h2)) (fun _ => Pf.wrb (fun f1 e1 _ => Pf.wrb (fun f2 e2 _ => Pf.ok (fun _ => ⟨e1, e2, rfl⟩))))

theorem stepOnP {n : Nat} {x0_edgeA : (Nat → Int32)} {x0_edgeB : (Nat → Int32)} {x0_edgeCost : (Nat → Int32)} {x0_edgeLine : (Nat → Int32)} {x0_change : (Nat → Int32)} {x0_away : (Nat → Int32)} {x0_steps : (Nat → Int32)} {x0_nodes : (Nat → Int32)} {x0_stepCount : Int32} {x0_open : (Nat → Int32)} {x0_openCount : Int32} {x0_seen : Int64} {x0_edgeCount : Int32} {x0_aim : Int32} {p1 : Int32} {p2 : Int64} (hA : AI 0 35 x0_edgeA) (hB : AI 0 35 x0_edgeB) (hec : 0 ≤ x0_edgeCount ∧ x0_edgeCount ≤ 60) (hL : AI 0 19 x0_edgeLine) (ham : 0 ≤ x0_aim ∧ x0_aim ≤ 11) (hop : AI 0 35 x0_open) (h1 : 0 ≤ p1 ∧ p1 ≤ 35) (hm : tb p2 p1.toNatClampNeg = true) (hpos : ∀ v c, x0_away p1.toNatClampNeg = c + x0_away v → 0 < c → tb p2 v = false → v < 36 → ((∃ w : Nat, w < 3 ∧ v = p1.toNatClampNeg / 3 * 3 + w ∧ c = x0_change (p1.toNatClampNeg / 3)) ∨ ∃ i, i < x0_edgeCount.toNatClampNeg ∧ Oe x0_edgeA x0_edgeB i p1.toNatClampNeg v ∧ c = x0_edgeCost i) → CE (EC x0_edgeCount.toNatClampNeg x0_edgeA x0_edgeB x0_edgeCost x0_edgeLine x0_change x0_away) x0_aim.toNatClampNeg (fun x => tb p2 x = true) v) (hord : ∀ i j v v', i < j → j < x0_edgeCount.toNatClampNeg → Oe x0_edgeA x0_edgeB i p1.toNatClampNeg v → Oe x0_edgeA x0_edgeB j p1.toNatClampNeg v' → (x0_edgeLine i).toNatClampNeg < (x0_edgeLine j).toNatClampNeg) : Pf (fX5_stepOn n (x0_edgeA, x0_edgeB, x0_edgeCost, x0_edgeLine, x0_change, x0_away, x0_steps, x0_nodes, x0_stepCount, x0_open, x0_openCount, x0_seen, x0_edgeCount, x0_aim) p1 p2) (fun r => AI 0 35 r.2.2.2.2.1 ∧ ((r.1 = -1 ∧ ∀ s v, (TC x0_edgeCount.toNatClampNeg x0_edgeA x0_edgeB x0_edgeCost x0_edgeLine x0_change x0_away) p1.toNatClampNeg s v → ¬ CE (EC x0_edgeCount.toNatClampNeg x0_edgeA x0_edgeB x0_edgeCost x0_edgeLine x0_change x0_away) x0_aim.toNatClampNeg (fun x => tb p2 x = true) v) ∨ ∃ s v : Nat, r.1 = Int32.ofNat v ∧ v < 36 ∧ s ≤ 22 ∧ Nx (TC x0_edgeCount.toNatClampNeg x0_edgeA x0_edgeB x0_edgeCost x0_edgeLine x0_change x0_away) (EC x0_edgeCount.toNatClampNeg x0_edgeA x0_edgeB x0_edgeCost x0_edgeLine x0_change x0_away) x0_aim.toNatClampNeg (fun x => tb p2 x = true) p1.toNatClampNeg s v ∧ (¬ 36 ≤ x0_stepCount → r.2.1 = va_up x0_steps x0_stepCount.toNatClampNeg (Int32.ofNat s) ∧ r.2.2.1 = va_up x0_nodes x0_stepCount.toNatClampNeg (Int32.ofNat v) ∧ r.2.2.2.1 = x0_stepCount + 1))) := by
  have d3 := dv3 h1
  have nu : ∀ v, CE (EC x0_edgeCount.toNatClampNeg x0_edgeA x0_edgeB x0_edgeCost x0_edgeLine x0_change x0_away) x0_aim.toNatClampNeg (fun x => tb p2 x = true) v → ¬ v = p1.toNatClampNeg := fun v ⟨k, hk⟩ e => Pk.nm hk (by rw [e]; exact hm)
  unfold fX5_stepOn
  dsimp only [u14]
  refine Pf.bindP (P := fun r => Sum.elim (fun e => AI 0 35 e.2.2.1 ∧ ∃ s : Nat, s < 3 ∧ e.1 = Int32.ofNat s ∧ e.2.1 = Int32.ofNat (p1.toNatClampNeg / 3 * 3 + s) ∧ p1.toNatClampNeg / 3 * 3 + s < 36 ∧ Nx (TC x0_edgeCount.toNatClampNeg x0_edgeA x0_edgeB x0_edgeCost x0_edgeLine x0_change x0_away) (EC x0_edgeCount.toNatClampNeg x0_edgeA x0_edgeB x0_edgeCost x0_edgeLine x0_change x0_away) x0_aim.toNatClampNeg (fun x => tb p2 x = true) p1.toNatClampNeg s (p1.toNatClampNeg / 3 * 3 + s)) (fun e => AI 0 35 e.1 ∧ ∀ s v, s < 3 → (TC x0_edgeCount.toNatClampNeg x0_edgeA x0_edgeB x0_edgeCost x0_edgeLine x0_change x0_away) p1.toNatClampNeg s v → ¬ CE (EC x0_edgeCount.toNatClampNeg x0_edgeA x0_edgeB x0_edgeCost x0_edgeLine x0_change x0_away) x0_aim.toNatClampNeg (fun x => tb p2 x = true) v) r) ?_ (fun r hr => ?_)
  · refine Pf.loop (fun z => 0 ≤ z.1 ∧ AI 0 35 z.2.1 ∧ ∀ s v, s < z.1.toNatClampNeg → s < 3 → (TC x0_edgeCount.toNatClampNeg x0_edgeA x0_edgeB x0_edgeCost x0_edgeLine x0_change x0_away) p1.toNatClampNeg s v → ¬ CE (EC x0_edgeCount.toNatClampNeg x0_edgeA x0_edgeB x0_edgeCost x0_edgeLine x0_change x0_away) x0_aim.toNatClampNeg (fun x => tb p2 x = true) v) (fun z hz => ?_) n _ ⟨Int32.le_refl _, hop, fun s v h => absurd h (Nat.not_lt_zero _)⟩
    obtain ⟨z2, z3, z4, z5⟩ := z
    obtain ⟨h2, a3, hno⟩ := hz
    have h2 : 0 ≤ z2 := h2
    have a3 : AI 0 35 z3 := a3
    have hno : ∀ s v, s < z2.toNatClampNeg → s < 3 → (TC x0_edgeCount.toNatClampNeg x0_edgeA x0_edgeB x0_edgeCost x0_edgeLine x0_change x0_away) p1.toNatClampNeg s v → ¬ CE (EC x0_edgeCount.toNatClampNeg x0_edgeA x0_edgeB x0_edgeCost x0_edgeLine x0_change x0_away) x0_aim.toNatClampNeg (fun x => tb p2 x = true) v := hno
    dsimp only [u4]
    unfold fX5_stepOn_s8
    refine Pf.ite (fun h => Pf.inr (show _ ∧ _ from ⟨a3, fun s v hs => hno s v ?_ hs⟩)) (fun h => ?_)
    · have a := i32_cl h2
      have b := Int32.le_iff_toInt_le.mp h
      have z3 : (3 : Int32).toInt = 3 := by decide
      rw [z3] at b
      omega
    obtain ⟨p2_, q2, l2⟩ := up1 h2 (by decide) h
    have ix := ix3 ⟨d3.1, d3.2.1⟩ ⟨h2, l2⟩
    have e3 : p1 / 3 * 3 + z2 = 3 * (p1 / 3) + z2 := by rw [Int32.mul_comm]
    have n3 : (p1 / 3 * 3 + z2).toNatClampNeg = p1.toNatClampNeg / 3 * 3 + z2.toNatClampNeg := by
      rw [e3, ix.2, dv_n h1, Nat.mul_comm]
    have b3 : 0 ≤ p1 / 3 * 3 + z2 ∧ p1 / 3 * 3 + z2 ≤ 35 := by
      rw [e3]
      exact ⟨ix.1.1, by have q := ix.1.2; generalize 3 * (p1 / 3) + z2 = y at q; grind⟩
    have lw : z2.toNatClampNeg < 3 := i32_lt (M := 3) rfl ⟨h2, l2⟩
    have lt36 : p1.toNatClampNeg / 3 * 3 + z2.toNatClampNeg < 36 := by
      have q := (n36 b3).1
      rw [n3] at q
      exact q
    refine Pf.rdb (fun v46 e46 _ => ?_)
    rw [dv_n h1] at e46
    refine Pf.bindP (leadsP hA hB hec hL ham a3 b3 (fun ht hc hb => ?_)) (fun r hr => ?_)
    · rw [n3] at ht hb ⊢
      exact hpos _ _ ht hc hb lt36 (Or.inl ⟨_, lw, rfl, e46⟩)
    obtain ⟨v47, g48, g49, g50⟩ := r
    obtain ⟨r1, r2⟩ := hr
    dsimp only [u4]
    rw [n3, e46] at r2
    refine Pf.ite (fun hz => Pf.inl ⟨p2_, r1, fun s v hs hs3 ht hc => ?_⟩) (fun hz => Pf.inr (show _ ∧ _ from ⟨r1, z2.toNatClampNeg, lw, (o_of h2).symm, ?_, lt36, ?_, ?_, ?_⟩))
    · have hs : s < (z2 + 1).toNatClampNeg := hs
      rw [q2] at hs
      rcases Nat.lt_or_ge s z2.toNatClampNeg with l | l
      · exact hno s v l hs3 ht hc
      · have e : s = z2.toNatClampNeg := by omega
        rw [e] at ht
        obtain ⟨_, h | ⟨i, _, h, _⟩⟩ := ht
        · rcases r2 with q | q
          · exact q.1 hz
          · rw [h.2.1] at hc
            have t := h.2.2.2
            rw [h.2.1] at t
            exact q.2 ⟨t, hc⟩
        · omega
    · show p1 / 3 * 3 + z2 = _
      rw [← n3]
      exact (n36 b3).2.symm
    · rcases r2 with q | q
      · exact ⟨lt36, Or.inl ⟨lw, rfl, nu _ q.2.2, q.2.1⟩⟩
      · exact absurd q.1 hz
    · rcases r2 with q | q
      · exact q.2.2
      · exact absurd q.1 hz
    · intro s' hs' v' ht
      exact hno s' v' hs' (by omega) ht
  rcases r with ⟨w7, w8, w9, w10, w11⟩ | ⟨w16, w17, w18⟩
  · obtain ⟨a9, s, hs3, e7, e8, lt, hN⟩ := hr
    have e7 : w7 = Int32.ofNat s := e7
    have e8 : w8 = Int32.ofNat (p1.toNatClampNeg / 3 * 3 + s) := e8
    dsimp only [Sum.elim, u5]
    refine Pf.bindP noteP (fun r hr => ?_)
    dsimp only [u3]
    refine Pf.ok ⟨a9, Or.inr ⟨s, _, e8, lt, by omega, hN, fun hc => ?_⟩⟩
    rw [← e7, ← e8]
    exact hr hc
  · obtain ⟨a16, hno⟩ := hr
    have a16 : AI 0 35 w16 := a16
    dsimp only [Sum.elim, u3]
    refine Pf.bindP (P := fun r => Sum.elim (fun e => AI 0 35 e.2.2.1 ∧ ∃ v : Nat, (0 ≤ e.1 ∧ e.1.toNatClampNeg < x0_edgeCount.toNatClampNeg) ∧ e.2.1 = Int32.ofNat v ∧ v < 36 ∧ Nx (TC x0_edgeCount.toNatClampNeg x0_edgeA x0_edgeB x0_edgeCost x0_edgeLine x0_change x0_away) (EC x0_edgeCount.toNatClampNeg x0_edgeA x0_edgeB x0_edgeCost x0_edgeLine x0_change x0_away) x0_aim.toNatClampNeg (fun x => tb p2 x = true) p1.toNatClampNeg (3 + (x0_edgeLine e.1.toNatClampNeg).toNatClampNeg) v) (fun e => AI 0 35 e.1 ∧ ∀ s v, (TC x0_edgeCount.toNatClampNeg x0_edgeA x0_edgeB x0_edgeCost x0_edgeLine x0_change x0_away) p1.toNatClampNeg s v → ¬ CE (EC x0_edgeCount.toNatClampNeg x0_edgeA x0_edgeB x0_edgeCost x0_edgeLine x0_change x0_away) x0_aim.toNatClampNeg (fun x => tb p2 x = true) v) r) ?_ (fun r hr => ?_)
    · refine Pf.loop (fun z => 0 ≤ z.1 ∧ AI 0 35 z.2.1 ∧ ∀ i v, i < z.1.toNatClampNeg → Oe x0_edgeA x0_edgeB i p1.toNatClampNeg v → x0_away p1.toNatClampNeg = x0_edgeCost i + x0_away v → ¬ CE (EC x0_edgeCount.toNatClampNeg x0_edgeA x0_edgeB x0_edgeCost x0_edgeLine x0_change x0_away) x0_aim.toNatClampNeg (fun x => tb p2 x = true) v) (fun z hz => ?_) n _ ⟨Int32.le_refl _, a16, fun s v h => absurd h (Nat.not_lt_zero _)⟩
      obtain ⟨z20, z21, z22, z23⟩ := z
      obtain ⟨h20, a21, hne⟩ := hz
      have h20 : 0 ≤ z20 := h20
      have a21 : AI 0 35 z21 := a21
      have hne : ∀ i v, i < z20.toNatClampNeg → Oe x0_edgeA x0_edgeB i p1.toNatClampNeg v → x0_away p1.toNatClampNeg = x0_edgeCost i + x0_away v → ¬ CE (EC x0_edgeCount.toNatClampNeg x0_edgeA x0_edgeB x0_edgeCost x0_edgeLine x0_change x0_away) x0_aim.toNatClampNeg (fun x => tb p2 x = true) v := hne
      dsimp only [u4]
      unfold fX5_stepOn_s61
      refine Pf.ite (fun h => Pf.inr (show _ ∧ _ from ⟨a21, fun s v ht => ?_⟩)) (fun h => ?_)
      · obtain ⟨hv36, q | ⟨i, q1, q2, q3, q4⟩⟩ := id ht
        · exact hno s v q.1 ht
        · refine hne i v ?_ q3 q4
          have a := i32_cl h20
          have b := Int32.le_iff_toInt_le.mp h
          have d := i32_cl hec.1
          omega
      have l60 : x0_edgeCount ≤ 1000 := Int32.le_trans hec.2 (by decide)
      obtain ⟨p20, q20, l20⟩ := up1 h20 l60 h
      have lt : z20.toNatClampNeg < x0_edgeCount.toNatClampNeg := by
        have a := i32_cl h20
        have b := Int32.lt_iff_toInt_lt.mp l20
        have d := i32_cl hec.1
        omega
      refine Pf.bindP (otherP hA hB h1) (fun v38 h38 => ?_)
      refine Pf.ite (fun hx => Pf.inl ⟨p20, a21, fun i v hi ho ht => ?_⟩) (fun hx => ?_)
      · have hi : i < (z20 + 1).toNatClampNeg := hi
        rw [q20] at hi
        rcases Nat.lt_or_ge i z20.toNatClampNeg with l | l
        · exact hne i v l ho ht
        · have e : i = z20.toNatClampNeg := by omega
          rw [e] at ho
          rcases h38 with q | q
          · exact absurd ho (q.2 v)
          · rw [hx] at q
            exact absurd q.1.1 (by decide)
      · rcases h38 with q | ⟨b38, o38⟩
        · exact absurd q.1 hx
        refine Pf.rdb (fun v40 e40 _ => ?_)
        refine Pf.bindP (leadsP hA hB hec hL ham a21 b38 (fun ht hc hb => ?_)) (fun r hr => ?_)
        · exact hpos _ _ ht hc hb (n36 b38).1 (Or.inr ⟨_, lt, o38, e40⟩)
        obtain ⟨v41, g42, g43, g44⟩ := r
        obtain ⟨r1, r2⟩ := hr
        dsimp only [u4]
        rw [e40] at r2
        refine Pf.ite (fun hz => Pf.inl ⟨p20, r1, fun i v hi ho ht hc => ?_⟩) (fun hz => Pf.inr (show _ ∧ _ from ⟨r1, v38.toNatClampNeg, ⟨h20, lt⟩, (n36 b38).2.symm, (n36 b38).1, ?_, ?_, ?_⟩))
        · have hi : i < (z20 + 1).toNatClampNeg := hi
          rw [q20] at hi
          rcases Nat.lt_or_ge i z20.toNatClampNeg with l | l
          · exact hne i v l ho ht hc
          · have e : i = z20.toNatClampNeg := by omega
            rw [e] at ho ht
            have ev : v = v38.toNatClampNeg := by
              rcases ho with a | a <;> rcases o38 with b | b
              · rw [a.2, b.2]
              · exact absurd a.1 b.1
              · exact absurd b.1 a.1
              · rw [a.2.2, b.2.2]
            rw [ev] at ht hc
            rcases r2 with q | q
            · exact q.1 hz
            · exact q.2 ⟨ht, hc⟩
        · rcases r2 with q | q
          · exact ⟨(n36 b38).1, Or.inr ⟨_, lt, rfl, o38, q.2.1⟩⟩
          · exact absurd q.1 hz
        · rcases r2 with q | q
          · exact q.2.2
          · exact absurd q.1 hz
        · intro s' hs' v' ht
          obtain ⟨hv36, q | ⟨i, q1, q2, q3, q4⟩⟩ := id ht
          · exact hno s' v' q.1 ht
          · rcases Nat.lt_trichotomy i z20.toNatClampNeg with l | l | l
            · exact hne i v' l q3 q4
            · rw [l] at q2
              exact absurd hs' (by rw [q2]; exact Nat.lt_irrefl _)
            · have q5 := hord _ _ _ _ l q1 o38 q3
              have hs' : s' < 3 + (x0_edgeLine z20.toNatClampNeg).toNatClampNeg := hs'
              omega
    · rcases r with ⟨w25, w26, w27, w28, w29⟩ | ⟨w35, w36, w37⟩
      · obtain ⟨a27, v, ⟨h25, l25⟩, e26, lt, hN⟩ := hr
        have e26 : w26 = Int32.ofNat v := e26
        dsimp only [Sum.elim, u5]
        refine Pf.rdb (fun v30 e30 _ => Pf.bindP noteP (fun r hr => ?_))
        dsimp only [u3]
        have bl := hL w25.toNatClampNeg
        have l19 : (x0_edgeLine w25.toNatClampNeg).toNatClampNeg < 20 := i32_lt (M := 20) rfl ⟨bl.1, Int32.lt_of_le_of_lt bl.2 (by decide)⟩
        have e3 : 3 + v30 = Int32.ofNat (3 + (x0_edgeLine w25.toNatClampNeg).toNatClampNeg) := by
          rw [e30, Int32.ofNat_add, o_of bl.1]
          rfl
        refine Pf.ok ⟨a27, Or.inr ⟨_, v, e26, lt, ?_, hN, fun hc => ?_⟩⟩
        · show 3 + (x0_edgeLine w25.toNatClampNeg).toNatClampNeg ≤ 22
          omega
        · rw [← e3, ← e26]
          exact hr hc
      · exact Pf.ok ⟨hr.1, Or.inl ⟨rfl, hr.2⟩⟩
end
section
/-! the class's trace -/
theorem awI {aw : Nat → Int32} (h6 : A6 aw) {u v : Nat} (hu : u < 36) (hv : v < 36) {c : Int32} (hc : 0 ≤ c ∧ c ≤ 999) : (aw u = c + aw v ↔ (aw u).toInt = c.toInt + (aw v).toInt) ∧ 0 ≤ c.toInt ∧ (0 < c → 0 < c.toInt) ∧ 0 ≤ (aw v).toInt ∧ (aw u).toInt ≤ 1000000 := by
  have z : (1000000 : Int32).toInt = 1000000 := by decide
  have z0 : (0 : Int32).toInt = 0 := by decide
  have z1 : (999 : Int32).toInt = 999 := by decide
  have au := i32_b (h6 u hu)
  have av := i32_b (h6 v hv)
  have ac := i32_b hc
  rw [z0, z] at av au
  rw [z0, z1] at ac
  have e : (c + aw v).toInt = c.toInt + (aw v).toInt := i32_add (by omega) (by omega)
  refine ⟨⟨fun h => by rw [h, e], fun h => Int32.toInt_inj.mp (by rw [e, h])⟩, ac.1, fun h => ?_, av.1, au.2⟩
  have q := Int32.lt_iff_toInt_lt.mp h
  rw [z0] at q
  exact q
theorem Pk.only {E : Nat → Nat → Prop} {G M : Nat → Prop} {u : Nat} (hE : ∀ u v, E u v → v < 36) (hM : ∀ x, x < 36 → x ≠ u → M x) : ∀ k, Pk E G M k u → G u := by
  intro k
  induction k with
  | zero => intro h; exact h.2
  | succ k ih =>
    rintro ⟨_, v, hv, hk⟩
    by_cases e : v = u
    · rw [e] at hk
      exact ih hk
    · exact absurd (hM v (hE _ _ hv) e) (Pk.nm hk)
theorem cnt_full {s : Int64} (h : 36 ≤ cnt s) {x : Nat} (hx : x < 36) : tb s x = true := by
  refine Classical.byContradiction fun hn => ?_
  have hn : tb s x = false := by simpa using hn
  obtain ⟨b, c, _⟩ := o36 hx
  have q := cnt_set (s := s) b (by rw [c]; exact hn)
  have q2 := cnt_le (s ||| ((1 : Int64) <<< ((Int32.ofNat x).toInt64 &&& 63)))
  omega
theorem TC.cost {x0_edgeA : (Nat → Int32)} {x0_edgeB : (Nat → Int32)} {x0_edgeCost : (Nat → Int32)} {x0_edgeLine : (Nat → Int32)} {x0_change : (Nat → Int32)} {x0_edgeCount : Int32} {g1 : Nat → Int32} {u s v : Nat} (hu : u < 36) (hC : ∀ e, e < x0_edgeCount.toNatClampNeg → 0 ≤ x0_edgeCost e ∧ x0_edgeCost e ≤ 999) (hch : C12 x0_change) (h : (TC x0_edgeCount.toNatClampNeg x0_edgeA x0_edgeB x0_edgeCost x0_edgeLine x0_change g1) u s v) : ∃ c : Int32, (0 ≤ c ∧ c ≤ 999) ∧ g1 u = c + g1 v := by
  obtain ⟨_, h | ⟨e, h1, _, _, h4⟩⟩ := h
  · have q := hch (u / 3) (by omega)
    exact ⟨_, ⟨q.1, Int32.le_trans q.2 (by decide)⟩, h.2.2.2⟩
  · exact ⟨_, hC e h1, h4⟩
theorem EC.le {x0_edgeA : (Nat → Int32)} {x0_edgeB : (Nat → Int32)} {x0_edgeCost : (Nat → Int32)} {x0_edgeLine : (Nat → Int32)} {x0_change : (Nat → Int32)} {x0_edgeCount : Int32} {g1 : Nat → Int32} {u v : Nat} (h6 : A6 g1) (hu : u < 36) (hC : ∀ e, e < x0_edgeCount.toNatClampNeg → 0 ≤ x0_edgeCost e ∧ x0_edgeCost e ≤ 999) (hch : C12 x0_change) (h : (EC x0_edgeCount.toNatClampNeg x0_edgeA x0_edgeB x0_edgeCost x0_edgeLine x0_change g1) u v) : v < 36 ∧ (g1 v).toInt ≤ (g1 u).toInt := by
  obtain ⟨s, h⟩ := h
  have hv := h.1
  obtain ⟨c, hc, e⟩ := TC.cost hu hC hch h
  obtain ⟨q1, q2, _⟩ := awI h6 hu hv hc
  have q := q1.mp e
  exact ⟨hv, by omega⟩
/-- who has costs has a tight way, along which the costs don't grow -/
theorem CE_far {x0_edgeA : (Nat → Int32)} {x0_edgeB : (Nat → Int32)} {x0_edgeCost : (Nat → Int32)} {x0_edgeLine : (Nat → Int32)} {x0_change : (Nat → Int32)} {x0_edgeCount : Int32} {g1 Tt : Nat → Int32} {p2 : Int32} (hA : AI 0 35 x0_edgeA) (hB : AI 0 35 x0_edgeB) (hec : 0 ≤ x0_edgeCount ∧ x0_edgeCount ≤ 60) (hL : AI 0 19 x0_edgeLine) (hC : ∀ e, e < x0_edgeCount.toNatClampNeg → 0 ≤ x0_edgeCost e ∧ x0_edgeCost e ≤ 999) (hch : C12 x0_change) (hord : ∀ u i j v v2, i < j → j < x0_edgeCount.toNatClampNeg → Oe x0_edgeA x0_edgeB i u v → Oe x0_edgeA x0_edgeB j u v2 → (x0_edgeLine i).toNatClampNeg < (x0_edgeLine j).toNatClampNeg) (hp2 : 0 ≤ p2 ∧ p2 ≤ 11) (hT : TF (EdC x0_edgeCount.toNatClampNeg x0_edgeA x0_edgeB x0_edgeCost x0_change) (fun u => u / 3 = p2.toNatClampNeg) Tt) (hg : ∀ v, v < 36 → g1 v = Tt v) {u : Nat} (hu : u < 36) (hf : (g1 u).toInt < 1000000) : CE (EC x0_edgeCount.toNatClampNeg x0_edgeA x0_edgeB x0_edgeCost x0_edgeLine x0_change g1) p2.toNatClampNeg (fun _ => False) u := by
  obtain ⟨t6, tG, tF, tW⟩ := hT
  have h6 : A6 g1 := fun v hv => by rw [hg v hv]; exact t6 v hv
  have hB36 : ∀ u v c, (EdC x0_edgeCount.toNatClampNeg x0_edgeA x0_edgeB x0_edgeCost x0_change) u v c → u < 36 ∧ v < 36 ∧ c ≤ 999 := EdC.d hA hB hC hch
  rw [hg u hu] at hf
  obtain ⟨k, hk⟩ := tW u hu hf
  refine tight (D := (EdC x0_edgeCount.toNatClampNeg x0_edgeA x0_edgeB x0_edgeCost x0_change)) (d := fun v => (Tt v).toInt) (fun v hv h => ?_) tF (fun u v c h => (hB36 u v c h).2.1) (fun u v c h hu hne ht => ?_) k u hu hk
  · have e := tG v h
    show (Tt v).toInt = 0
    rw [e]
    rfl
  · have hv := (hB36 u v c h).2.1
    have ht : (Tt u).toInt = (Tt v).toInt + c := ht
    rw [← hg u hu, ← hg v hv] at ht
    rcases h with ⟨e, h1, h2, h3⟩ | ⟨p, w, w', h1, h2, h3, h4, h5, h6'⟩
    · have a := (awI h6 hu hv (hC e h1)).1
      refine ⟨_, hv, Or.inr ⟨e, h1, rfl, ?_, a.mpr (by omega)⟩⟩
      rcases h3 with ⟨a1, a2⟩ | ⟨a1, a2⟩
      · exact Or.inl ⟨a1.symm, a2⟩
      · by_cases hx : (x0_edgeA e).toNatClampNeg = u
        · exact absurd (hx.symm.trans a2.symm) hne
        · exact Or.inr ⟨hx, a1.symm, a2⟩
    · have hp : u / 3 = p := by omega
      have q := hch p h1
      have a := (awI h6 hu hv ⟨q.1, Int32.le_trans q.2 (by decide)⟩).1
      refine ⟨w', hv, Or.inl ⟨h3, by omega, fun e => hne e.symm, ?_⟩⟩
      rw [hp]
      exact a.mpr (by omega)
theorem CE_met {x0_edgeA : (Nat → Int32)} {x0_edgeB : (Nat → Int32)} {x0_edgeCost : (Nat → Int32)} {x0_edgeLine : (Nat → Int32)} {x0_change : (Nat → Int32)} {x0_edgeCount : Int32} {g1 : Nat → Int32} {p2 : Int32} {M : Nat → Prop} (h6 : A6 g1) (hC : ∀ e, e < x0_edgeCount.toNatClampNeg → 0 ≤ x0_edgeCost e ∧ x0_edgeCost e ≤ 999) (hch : C12 x0_change) {v : Nat} (hv : v < 36) (h : CE (EC x0_edgeCount.toNatClampNeg x0_edgeA x0_edgeB x0_edgeCost x0_edgeLine x0_change g1) p2.toNatClampNeg (fun _ => False) v) (hM : ∀ x, x < 36 → M x → (g1 v).toInt < (g1 x).toInt) : CE (EC x0_edgeCount.toNatClampNeg x0_edgeA x0_edgeB x0_edgeCost x0_edgeLine x0_change g1) p2.toNatClampNeg M v := by
  obtain ⟨k, hk⟩ := h
  have key : ∀ (k u : Nat), u < 36 → (g1 u).toInt ≤ (g1 v).toInt → Pk (EC x0_edgeCount.toNatClampNeg x0_edgeA x0_edgeB x0_edgeCost x0_edgeLine x0_change g1) (fun u => u / 3 = p2.toNatClampNeg) (fun _ => False) k u → Pk (EC x0_edgeCount.toNatClampNeg x0_edgeA x0_edgeB x0_edgeCost x0_edgeLine x0_change g1) (fun u => u / 3 = p2.toNatClampNeg) M k u := by
    intro k
    induction k with
    | zero =>
      intro u hu hle h
      exact ⟨fun hm => by have q := hM u hu hm; omega, h.2⟩
    | succ k ih =>
      intro u hu hle h
      obtain ⟨_, x, hx, hk⟩ := h
      have q := EC.le h6 hu hC hch hx
      exact ⟨fun hm => by have q := hM u hu hm; omega, x, hx, ih x q.1 (by omega) hk⟩
  exact ⟨k, key k v hv (Int.le_refl _) hk⟩

theorem s78P {n : Nat} {x0_edgeA : (Nat → Int32)} {x0_edgeB : (Nat → Int32)} {x0_edgeCost : (Nat → Int32)} {x0_edgeLine : (Nat → Int32)} {x0_change : (Nat → Int32)} {x0_edgeCount : Int32} {g1 Tt z19 z20 z22 : Nat → Int32} {p2 g2 z16 z18 z21 z23 w0 n0 : Int32} {z17 z24 : Int64} {M0 : Nat → Prop} {U0 : Nat} (hA : AI 0 35 x0_edgeA) (hB : AI 0 35 x0_edgeB) (hec : 0 ≤ x0_edgeCount ∧ x0_edgeCount ≤ 60) (hL : AI 0 19 x0_edgeLine) (hC : ∀ e, e < x0_edgeCount.toNatClampNeg → 0 ≤ x0_edgeCost e ∧ x0_edgeCost e ≤ 999) (hch : C12 x0_change) (hord : ∀ u i j v v2, i < j → j < x0_edgeCount.toNatClampNeg → Oe x0_edgeA x0_edgeB i u v → Oe x0_edgeA x0_edgeB j u v2 → (x0_edgeLine i).toNatClampNeg < (x0_edgeLine j).toNatClampNeg) (hp2 : 0 ≤ p2 ∧ p2 ≤ 11) (hT : TF (EdC x0_edgeCount.toNatClampNeg x0_edgeA x0_edgeB x0_edgeCost x0_change) (fun u => u / 3 = p2.toNatClampNeg) Tt) (hg : ∀ v, v < 36 → g1 v = Tt v) (hg2 : g2 = p2) (hI : (fun (z : Int32 × Int64 × Int32 × (Nat → Int32) × (Nat → Int32) × Int32 × (Nat → Int32) × Int32 × Int64) => ∃ pre : List (Nat × Nat), (0 ≤ z.1 ∧ z.1 ≤ 35) ∧ (z.2.2.1 = Int32.ofNat (pre.length + 1) ∧ pre.length + 1 ≤ cnt z.2.1) ∧ tb z.2.1 z.1.toNatClampNeg = true ∧ AI 0 35 z.2.2.2.2.2.2.1 ∧ CE (EC x0_edgeCount.toNatClampNeg x0_edgeA x0_edgeB x0_edgeCost x0_edgeLine x0_change g1) p2.toNatClampNeg (fun v => tb z.2.1 v = true ∧ v ≠ z.1.toNatClampNeg) z.1.toNatClampNeg ∧ PreW (TC x0_edgeCount.toNatClampNeg x0_edgeA x0_edgeB x0_edgeCost x0_edgeLine x0_change g1) (EC x0_edgeCount.toNatClampNeg x0_edgeA x0_edgeB x0_edgeCost x0_edgeLine x0_change g1) p2.toNatClampNeg M0 U0 pre (fun x => tb z.2.1 x = true) z.1.toNatClampNeg ∧ z.2.2.2.2.2.1 = Int32.ofNat (pre.length + 1) ∧ (Arr z.2.2.2.1 pre ∧ ArrN z.2.2.2.2.1 pre) ∧ (z.2.2.2.1 0 = w0 ∧ z.2.2.2.2.1 0 = n0) ∧ ∀ x, x < 36 → tb z.2.1 x = true → (g1 z.1.toNatClampNeg).toInt ≤ (g1 x).toInt) (z16, z17, z18, z19, z20, z21, z22, z23, z24)) : Pf (lp (u9 (fX5_trace_s78 n p2 x0_edgeA x0_edgeB x0_edgeCost x0_edgeLine x0_change x0_edgeCount g1 g2)) n (z16, z17, z18, z19, z20, z21, z22, z23, z24)) (fun r => Sum.elim (fun _ => False) (fun e => ∃ ws : List (Nat × Nat), Wy (TC x0_edgeCount.toNatClampNeg x0_edgeA x0_edgeB x0_edgeCost x0_edgeLine x0_change g1) (EC x0_edgeCount.toNatClampNeg x0_edgeA x0_edgeB x0_edgeCost x0_edgeLine x0_change g1) p2.toNatClampNeg ws M0 U0 ∧ e.1 / 3 = p2 ∧ (Arr e.2.1 ws ∧ ArrN e.2.2.1 ws) ∧ (e.2.1 0 = w0 ∧ e.2.2.1 0 = n0) ∧ (e.2.2.2.1 = Int32.ofNat (ws.length + 1) ∧ ws.length + 1 ≤ 36) ∧ AI 0 35 e.2.2.2.2.1) r) := by
  have h6 : A6 g1 := fun v hv => by rw [hg v hv]; exact hT.1 v hv
  refine Pf.loop (fun z => ∃ pre : List (Nat × Nat), (0 ≤ z.1 ∧ z.1 ≤ 35) ∧ (z.2.2.1 = Int32.ofNat (pre.length + 1) ∧ pre.length + 1 ≤ cnt z.2.1) ∧ tb z.2.1 z.1.toNatClampNeg = true ∧ AI 0 35 z.2.2.2.2.2.2.1 ∧ CE (EC x0_edgeCount.toNatClampNeg x0_edgeA x0_edgeB x0_edgeCost x0_edgeLine x0_change g1) p2.toNatClampNeg (fun v => tb z.2.1 v = true ∧ v ≠ z.1.toNatClampNeg) z.1.toNatClampNeg ∧ PreW (TC x0_edgeCount.toNatClampNeg x0_edgeA x0_edgeB x0_edgeCost x0_edgeLine x0_change g1) (EC x0_edgeCount.toNatClampNeg x0_edgeA x0_edgeB x0_edgeCost x0_edgeLine x0_change g1) p2.toNatClampNeg M0 U0 pre (fun x => tb z.2.1 x = true) z.1.toNatClampNeg ∧ z.2.2.2.2.2.1 = Int32.ofNat (pre.length + 1) ∧ (Arr z.2.2.2.1 pre ∧ ArrN z.2.2.2.2.1 pre) ∧ (z.2.2.2.1 0 = w0 ∧ z.2.2.2.2.1 0 = n0) ∧ ∀ x, x < 36 → tb z.2.1 x = true → (g1 z.1.toNatClampNeg).toInt ≤ (g1 x).toInt) (fun z hz => ?_) n _ hI
  clear hI z16 z17 z18 z19 z20 z21 z22 z23 z24
  obtain ⟨z16, z17, z18, z19, z20, z21, z22, z23, z24⟩ := z
  obtain ⟨pre, h16, ⟨h18, l18⟩, ht, h22, ⟨k, hk⟩, hPre, h21, ⟨hAr, hAn⟩, ⟨hs0, hn0⟩, hmin⟩ := hz
  have h16 : 0 ≤ z16 ∧ z16 ≤ 35 := h16
  have h18 : z18 = Int32.ofNat (pre.length + 1) := h18
  have l18 : pre.length + 1 ≤ cnt z17 := l18
  have ht : tb z17 z16.toNatClampNeg = true := ht
  have h22 : AI 0 35 z22 := h22
  have hk : Pk (EC x0_edgeCount.toNatClampNeg x0_edgeA x0_edgeB x0_edgeCost x0_edgeLine x0_change g1) (fun u => u / 3 = p2.toNatClampNeg) (fun v => tb z17 v = true ∧ v ≠ z16.toNatClampNeg) k z16.toNatClampNeg := hk
  have hPre : PreW (TC x0_edgeCount.toNatClampNeg x0_edgeA x0_edgeB x0_edgeCost x0_edgeLine x0_change g1) (EC x0_edgeCount.toNatClampNeg x0_edgeA x0_edgeB x0_edgeCost x0_edgeLine x0_change g1) p2.toNatClampNeg M0 U0 pre (fun x => tb z17 x = true) z16.toNatClampNeg := hPre
  have h21 : z21 = Int32.ofNat (pre.length + 1) := h21
  have hAr : Arr z19 pre := hAr
  have hAn : ArrN z20 pre := hAn
  have hs0 : z19 0 = w0 := hs0
  have hn0 : z20 0 = n0 := hn0
  have hmin : ∀ x, x < 36 → tb z17 x = true → (g1 z16.toNatClampNeg).toInt ≤ (g1 x).toInt := hmin
  have c36 := cnt_le z17
  have E36 : ∀ u v, (EC x0_edgeCount.toNatClampNeg x0_edgeA x0_edgeB x0_edgeCost x0_edgeLine x0_change g1) u v → v < 36 := fun u v ⟨s, h⟩ => h.1
  have dn := dv_n h16
  have o18 := o36 (u := pre.length) (by omega)
  have c18 : z18.toNatClampNeg = pre.length + 1 := by rw [h18]; exact ocl (by omega)
  have p18 : 0 ≤ z18 := by
    rw [h18, o_succ]
    exact (up1 (B := 1000) o18.1.1 (by decide) (by have q := o18.1.2; generalize Int32.ofNat pre.length = y at q; grind)).1
  dsimp only [u9]
  unfold fX5_trace_s78
  refine Pf.ite (fun h => Pf.inr (show _ from ⟨pre, ?_⟩)) (fun h36 => Pf.ite (fun h => Pf.inr (show _ from ⟨pre, ?_⟩)) (fun h => ?_))
  · have hG : z16.toNatClampNeg / 3 = p2.toNatClampNeg := by
      have a := i32_cl p18
      have b := Int32.le_iff_toInt_le.mp h
      have z36 : (36 : Int32).toInt = 36 := by decide
      rw [z36] at b
      have f : 36 ≤ cnt z17 := by omega
      exact Pk.only (G := fun u => u / 3 = p2.toNatClampNeg) E36 (fun x hx hne => ⟨cnt_full f hx, hne⟩) k hk
    exact ⟨hPre.done hG, by show z16 / 3 = p2; rw [← o_of (dv3 h16).1, ← o_of hp2.1, dn, hG], ⟨hAr, hAn⟩, ⟨hs0, hn0⟩, ⟨h21, by omega⟩, h22⟩
  · have hG : z16.toNatClampNeg / 3 = p2.toNatClampNeg := by rw [← dn, h]
    exact ⟨hPre.done hG, h, ⟨hAr, hAn⟩, ⟨hs0, hn0⟩, ⟨h21, by omega⟩, h22⟩
  have hG : ¬ z16.toNatClampNeg / 3 = p2.toNatClampNeg := fun hx => h (by rw [← o_of (dv3 h16).1, ← o_of hp2.1, dn, hx])
  have u36 := (n36 h16).1
  refine Pf.bindP (stepOnP (x0_away := g1) (x0_aim := g2) hA hB hec hL (by rw [hg2]; exact hp2) h22 h16 ht (fun v c htt hc hb hv hcase => ?_) (hord _)) (fun r hr => ?_)
  · rw [hg2]
    have hc9 : 0 ≤ c ∧ c ≤ 999 := by
      rcases hcase with ⟨w, _, _, e⟩ | ⟨i, h1, _, e⟩
      · have q := hch (z16.toNatClampNeg / 3) (by omega)
        rw [e]
        exact ⟨q.1, Int32.le_trans q.2 (by decide)⟩
      · rw [e]
        exact hC i h1
    obtain ⟨q1, q2, q3, q4, q5⟩ := awI h6 u36 hv hc9
    have q := q1.mp htt
    have q3 := q3 hc
    refine CE_met h6 hC hch hv (CE_far hA hB hec hL hC hch hord hp2 hT hg hv (by omega)) (fun x hx hm => ?_)
    have q6 := hmin x hx hm
    omega
  obtain ⟨v39, g41, g42, g43, g44, g45, g46⟩ := r
  obtain ⟨a44, hr⟩ := hr
  have a44 : AI 0 35 g44 := a44
  rw [hg2] at hr
  dsimp only [u2, u6]
  obtain ⟨v, j, ⟨s, hE⟩, hj⟩ := Pk.step (G := (fun u => u / 3 = p2.toNatClampNeg)) hG k hk
  have hj' : Pk (EC x0_edgeCount.toNatClampNeg x0_edgeA x0_edgeB x0_edgeCost x0_edgeLine x0_change g1) (fun u => u / 3 = p2.toNatClampNeg) (fun v => tb z17 v = true) j v := by
    refine Pk.congr (fun x hx => ?_) j v hj
    by_cases hxz : x = z16.toNatClampNeg
    · exact Or.inr hxz
    · exact Or.inl ⟨hx, hxz⟩
  rcases hr with ⟨_, hno⟩ | ⟨s', v', e1, hv', hs22, hN, hst⟩
  · exact absurd ⟨j, hj'⟩ (hno s v hE)
  have e1 : v39 = Int32.ofNat v' := e1
  obtain ⟨b39, c39, _⟩ := o36 hv'
  rw [← e1] at b39 c39
  refine Pf.ite (fun hx => absurd b39.1 (by rw [hx]; decide)) (fun _ => Pf.someb ?_)
  have nb : tb z17 v39.toNatClampNeg = false := by
    obtain ⟨k2, hk2⟩ := hN.2.1
    have q := Pk.nm hk2
    rw [c39]
    simpa using q
  have c1 := cnt_set b39 nb
  have c2 := cnt_le (z17 ||| ((1 : Int64) <<< (v39.toInt64 &&& 63)))
  have n21 : ¬ (36 : Int32) ≤ z21 := by
    rw [h21, ← h18]
    exact h36
  obtain ⟨t1, t2, t3⟩ := hst n21
  have t1 : g41 = va_up z19 z21.toNatClampNeg (Int32.ofNat s') := t1
  have t2 : g42 = va_up z20 z21.toNatClampNeg (Int32.ofNat v') := t2
  have t3 : g43 = z21 + 1 := t3
  have c21 : z21.toNatClampNeg = pre.length + 1 := by rw [h21, ← h18]; exact c18
  obtain ⟨c, hc9, hcc⟩ := TC.cost u36 hC hch hN.1
  obtain ⟨q1, q2, _⟩ := awI h6 u36 hv' hc9
  have q := q1.mp hcc
  refine Pf.inl ⟨pre ++ [(s', v')], b39, ⟨?_, ?_⟩, ?_, a44, ?_, ?_, ?_, ⟨?_, ?_⟩, ⟨?_, ?_⟩, fun x hx htx => ?_⟩
  · show z18 + 1 = _
    rw [List.length_append, h18, ← o_succ]
    rfl
  · rw [List.length_append]
    show pre.length + 1 + 1 ≤ cnt (z17 ||| ((1 : Int64) <<< (v39.toInt64 &&& 63)))
    omega
  · show tb (z17 ||| ((1 : Int64) <<< (v39.toInt64 &&& 63))) v39.toNatClampNeg = true
    rw [tb_setA b39]
    simp
  · show CE (EC x0_edgeCount.toNatClampNeg x0_edgeA x0_edgeB x0_edgeCost x0_edgeLine x0_change g1) p2.toNatClampNeg (fun x => tb (z17 ||| ((1 : Int64) <<< (v39.toInt64 &&& 63))) x = true ∧ x ≠ v39.toNatClampNeg) v39.toNatClampNeg
    obtain ⟨k2, hk2⟩ := hN.2.1
    rw [c39]
    refine ⟨k2, Pk.congr (fun x hx => ?_) k2 _ hk2⟩
    obtain ⟨h1, h2⟩ := hx
    rw [tb_setA b39, c39] at h1
    simpa [h2] using h1
  · show PreW (TC x0_edgeCount.toNatClampNeg x0_edgeA x0_edgeB x0_edgeCost x0_edgeLine x0_change g1) (EC x0_edgeCount.toNatClampNeg x0_edgeA x0_edgeB x0_edgeCost x0_edgeLine x0_change g1) p2.toNatClampNeg M0 U0 (pre ++ [(s', v')]) (fun x => tb (z17 ||| ((1 : Int64) <<< (v39.toInt64 &&& 63))) x = true) v39.toNatClampNeg
    rw [tb_fun b39, c39]
    exact hPre.snoc hG hN
  · show g43 = _
    rw [t3, List.length_append, h21, ← o_succ]
    rfl
  · show Arr g41 (pre ++ [(s', v')])
    rw [t1, c21]
    exact hAr.snoc
  · show ArrN g42 (pre ++ [(s', v')])
    rw [t2, c21]
    exact hAn.snoc
  · show g41 0 = w0
    rw [t1, c21, va_ne _ _ (by omega)]
    exact hs0
  · show g42 0 = n0
    rw [t2, c21, va_ne _ _ (by omega)]
    exact hn0
  · have htx : tb (z17 ||| ((1 : Int64) <<< (v39.toInt64 &&& 63))) x = true := htx
    show (g1 v39.toNatClampNeg).toInt ≤ (g1 x).toInt
    rw [c39]
    rw [tb_setA b39, c39] at htx
    by_cases ho : tb z17 x = true
    · have q6 := hmin x hx ho
      omega
    · have ho : tb z17 x = false := by simpa using ho
      rw [ho] at htx
      have e : x = v' := by simpa using htx
      rw [e]
      exact Int.le_refl _

/-- what trace finds -/
def CWay (ec : Nat) (eA eB eC eL chg aw : Nat → Int32) (p g : Nat) (r : Int32) (st nd : Nat → Int32) (sc : Int32) : Prop :=
  (r = 0 ∧ ∀ w : Nat, w < 3 → 1000000 ≤ aw (3 * p + w)) ∨ (r = 1 ∧ ∃ (w : Nat) (ws : List (Nat × Nat)), w < 3 ∧ aw (3 * p + w) < 1000000 ∧ (∀ w' : Nat, w' < 3 → aw (3 * p + w) ≤ aw (3 * p + w')) ∧ (∀ w' : Nat, w' < w → ¬ aw (3 * p + w') = aw (3 * p + w)) ∧ Wy (TC ec eA eB eC eL chg aw) (EC ec eA eB eC eL chg aw) g ws (fun x => x = 3 * p + w) (3 * p + w) ∧ (st 0 = Int32.ofNat w ∧ nd 0 = Int32.ofNat (3 * p + w)) ∧ (Arr st ws ∧ ArrN nd ws) ∧ (sc = Int32.ofNat (ws.length + 1) ∧ ws.length + 1 ≤ 36))
theorem traceP {n : Nat} {x0_edgeA : (Nat → Int32)} {x0_edgeB : (Nat → Int32)} {x0_edgeCost : (Nat → Int32)} {x0_edgeLine : (Nat → Int32)} {x0_change : (Nat → Int32)} {x0_away : (Nat → Int32)} {x0_steps : (Nat → Int32)} {x0_nodes : (Nat → Int32)} {x0_stepCount : Int32} {x0_open : (Nat → Int32)} {x0_openCount : Int32} {x0_seen : Int64} {x0_edgeCount : Int32} {x0_aim : Int32} {Tt : Nat → Int32} {p1 p2 : Int32} (hn : 1000000000000 ≤ n) (hA : AI 0 35 x0_edgeA) (hB : AI 0 35 x0_edgeB) (hec : 0 ≤ x0_edgeCount ∧ x0_edgeCount ≤ 60) (hL : AI 0 19 x0_edgeLine) (hC : ∀ e, e < x0_edgeCount.toNatClampNeg → 0 ≤ x0_edgeCost e ∧ x0_edgeCost e ≤ 999) (hch : C12 x0_change) (hord : ∀ u i j v v2, i < j → j < x0_edgeCount.toNatClampNeg → Oe x0_edgeA x0_edgeB i u v → Oe x0_edgeA x0_edgeB j u v2 → (x0_edgeLine i).toNatClampNeg < (x0_edgeLine j).toNatClampNeg) (hp2 : 0 ≤ p2 ∧ p2 ≤ 11) (hp1 : 0 ≤ p1 ∧ p1 ≤ 11) (hop : AI 0 35 x0_open) (hT : TF (EdC x0_edgeCount.toNatClampNeg x0_edgeA x0_edgeB x0_edgeCost x0_change) (fun u => u / 3 = p2.toNatClampNeg) Tt) (ham : x0_aim = p2 → ∀ v, v < 36 → x0_away v = Tt v) : Pf (fX5_trace n (x0_edgeA, x0_edgeB, x0_edgeCost, x0_edgeLine, x0_change, x0_away, x0_steps, x0_nodes, x0_stepCount, x0_open, x0_openCount, x0_seen, x0_edgeCount, x0_aim) p1 p2) (fun r => (∀ v, v < 36 → r.2.1 v = Tt v) ∧ AI 0 35 r.2.2.2.2.2.1 ∧ r.2.2.2.2.2.2.2.2 = p2 ∧ CWay x0_edgeCount.toNatClampNeg x0_edgeA x0_edgeB x0_edgeCost x0_edgeLine x0_change r.2.1 p1.toNatClampNeg p2.toNatClampNeg r.1 r.2.2.1 r.2.2.2.1 r.2.2.2.2.1) := by
  unfold fX5_trace
  dsimp only [u14]
  refine Pf.bindP (Pf.sf (aimS hn hA hB hec hC hch hp2 hT ham)) (fun r hr => ?_)
  obtain ⟨g1, g2⟩ := r
  obtain ⟨hg, hg2⟩ := hr
  have hg : ∀ v, v < 36 → g1 v = Tt v := hg
  have hg2 : g2 = p2 := hg2
  have h6 : A6 g1 := fun v hv => by rw [hg v hv]; exact hT.1 v hv
  dsimp only [u2]
  refine Pf.bindP (Pf.sf (costS hn hp1)) (fun v4 h4 => ?_)
  obtain ⟨m, hm, e4⟩ := h4
  have hp12 := p_of hp1
  refine Pf.ite (fun hx => Pf.ok ⟨hg, hop, hg2, Or.inl ⟨rfl, fun w hw => ?_⟩⟩) (fun hx => ?_)
  · have q := hm.1 w hw
    by_cases h : (1000000 : Int32) ≤ m
    · exact Int32.le_trans h q
    · rw [if_neg h, hx] at e4
      exfalso
      rcases hm.2.2 with a | ⟨w2, b1, b2⟩
      · exact h (by rw [a]; exact Int32.le_refl _)
      · have q2 := (h6 (3 * p1.toNatClampNeg + w2) (by omega)).1
        rw [← b2, ← e4] at q2
        exact absurd q2 (by decide)
  have hm1 : ¬ (1000000 : Int32) ≤ m := fun h => hx (by rw [e4, if_pos h])
  rw [if_neg hm1] at e4
  subst e4
  have hex : ∃ w : Nat, w < 3 ∧ v4 = g1 (3 * p1.toNatClampNeg + w) := by
    rcases hm.2.2 with a | a
    · exact absurd (by rw [a]; exact Int32.le_refl _) hm1
    · exact a
  have b3 : ∀ j : Nat, j < 3 → (0 ≤ p1 * 3 + Int32.ofNat j ∧ p1 * 3 + Int32.ofNat j ≤ 35) ∧ (p1 * 3 + Int32.ofNat j).toNatClampNeg = 3 * p1.toNatClampNeg + j := by
    intro j hj
    have bj : 0 ≤ Int32.ofNat j ∧ Int32.ofNat j < 3 := by
      rcases (by omega : j = 0 ∨ j = 1 ∨ j = 2) with rfl | rfl | rfl <;> decide
    have ix := ix3 hp1 bj
    rw [Int32.mul_comm p1 3, ix.2, ocl (by omega)]
    exact ⟨⟨ix.1.1, by have q := ix.1.2; generalize 3 * p1 + Int32.ofNat j = y at q; grind⟩, rfl⟩
  refine Pf.bindP (P := fun e => ∃ w : Nat, w < 3 ∧ e = Int32.ofNat w ∧ g1 (3 * p1.toNatClampNeg + w) = v4 ∧ ∀ w', w' < w → ¬ g1 (3 * p1.toNatClampNeg + w') = v4) ?_ (fun w9 h9 => ?_)
  · refine Pf.loop (fun z => ∃ j : Nat, j ≤ 2 ∧ z = Int32.ofNat j ∧ ∀ w', w' < j → ¬ g1 (3 * p1.toNatClampNeg + w') = v4) (fun z hz => ?_) n _ ⟨0, by decide, rfl, fun w' h => absurd h (Nat.not_lt_zero _)⟩
    obtain ⟨j, hj, ej, hno⟩ := hz
    unfold fX5_trace_s26
    refine Pf.ite (fun h => Pf.inr (show _ from ?_)) (fun h => ?_)
    · have e2 : j = 2 := by
        rcases (by omega : j = 0 ∨ j = 1 ∨ j = 2) with a | a | a
        · rw [ej, a] at h
          exact absurd h (by decide)
        · rw [ej, a] at h
          exact absurd h (by decide)
        · exact a
      subst e2
      obtain ⟨w, hw, ew⟩ := hex
      have : w = 2 := by
        rcases (by omega : w = 0 ∨ w = 1 ∨ w = 2) with a | a | a
        · exact absurd (by rw [ew, a]) (hno 0 (by decide))
        · exact absurd (by rw [ew, a]) (hno 1 (by decide))
        · exact a
      subst this
      exact ⟨2, by decide, ej, ew.symm, hno⟩
    · have j2 : j < 2 := by
        rcases (by omega : j = 0 ∨ j = 1 ∨ j = 2) with a | a | a
        · omega
        · omega
        · exact absurd (by rw [ej, a]; decide) h
      refine Pf.rdb (fun v49 e49 _ => ?_)
      rw [ej, (b3 j (by omega)).2] at e49
      refine Pf.ite (fun he => Pf.inr (show _ from ⟨j, by omega, ej, by rw [← e49]; exact he, hno⟩)) (fun he => Pf.inl ⟨j + 1, by omega, by rw [ej, o_succ], fun w' hw' => ?_⟩)
      rcases Nat.lt_or_ge w' j with l | l
      · exact hno w' l
      · have e : w' = j := by omega
        rw [e, ← e49]
        exact he
  obtain ⟨w, hw, e9, ew, hno⟩ := h9
  have u36 : 3 * p1.toNatClampNeg + w < 36 := by omega
  obtain ⟨b9, c9⟩ := b3 w hw
  rw [← e9] at b9 c9
  refine Pf.bindP noteP (fun r hr => ?_)
  obtain ⟨g10, g11, g12⟩ := r
  obtain ⟨t1, t2, t3⟩ := hr (by decide)
  have t1 : g10 = va_up x0_steps 0 w9 := t1
  have t2 : g11 = va_up x0_nodes 0 (p1 * 3 + w9) := t2
  have t3 : g12 = 1 := t3
  dsimp only [u3]
  refine Pf.someb ?_
  have z0r : ((1 : Int64) <<< ((p1 * 3 + w9).toInt64 &&& 63)) = 0 ||| ((1 : Int64) <<< ((p1 * 3 + w9).toInt64 &&& 63)) := by simp
  rw [z0r]
  have tf : (fun x => tb (0 ||| ((1 : Int64) <<< ((p1 * 3 + w9).toInt64 &&& 63))) x = true) = (fun x => x = 3 * p1.toNatClampNeg + w) := by
    rw [tb_fun b9, c9]
    funext x
    rw [tb_zero]
    simp
  have t0 : tb 0 (p1 * 3 + w9).toNatClampNeg = false := tb_zero _
  have cc := cnt_set (s := 0) b9 t0
  have hlt : (g1 (3 * p1.toNatClampNeg + w)).toInt < 1000000 := by
    rw [ew]
    have q := Int32.lt_iff_toInt_lt.mp (Int32.not_le.mp hm1)
    have z : (1000000 : Int32).toInt = 1000000 := by decide
    rw [z] at q
    exact q
  refine Pf.bindP (s78P (w0 := Int32.ofNat w) (n0 := Int32.ofNat (3 * p1.toNatClampNeg + w)) (M0 := fun x => x = 3 * p1.toNatClampNeg + w) (U0 := 3 * p1.toNatClampNeg + w) hA hB hec hL hC hch hord hp2 hT hg hg2 ⟨[], b9, ⟨rfl, ?_⟩, ?_, hop, ?_, ?_, t3, ⟨Arr.nil, ArrN.nil⟩, ⟨?_, ?_⟩, fun x hx htx => ?_⟩) (fun r hr => ?_)
  · show 0 + 1 ≤ cnt (0 ||| ((1 : Int64) <<< ((p1 * 3 + w9).toInt64 &&& 63)))
    omega
  · show tb (0 ||| ((1 : Int64) <<< ((p1 * 3 + w9).toInt64 &&& 63))) (p1 * 3 + w9).toNatClampNeg = true
    rw [tb_setA b9]
    simp
  · show CE (EC x0_edgeCount.toNatClampNeg x0_edgeA x0_edgeB x0_edgeCost x0_edgeLine x0_change g1) p2.toNatClampNeg (fun x => tb (0 ||| ((1 : Int64) <<< ((p1 * 3 + w9).toInt64 &&& 63))) x = true ∧ x ≠ (p1 * 3 + w9).toNatClampNeg) (p1 * 3 + w9).toNatClampNeg
    obtain ⟨k, hk⟩ := CE_far hA hB hec hL hC hch hord hp2 hT hg u36 hlt
    rw [c9]
    refine ⟨k, Pk.congr (fun x hx => ?_) k _ hk⟩
    obtain ⟨h1, h2⟩ := hx
    rw [tb_setA b9, c9, tb_zero] at h1
    simp [h2] at h1
  · show PreW (TC x0_edgeCount.toNatClampNeg x0_edgeA x0_edgeB x0_edgeCost x0_edgeLine x0_change g1) (EC x0_edgeCount.toNatClampNeg x0_edgeA x0_edgeB x0_edgeCost x0_edgeLine x0_change g1) p2.toNatClampNeg (fun x => x = 3 * p1.toNatClampNeg + w) (3 * p1.toNatClampNeg + w) [] (fun x => tb (0 ||| ((1 : Int64) <<< ((p1 * 3 + w9).toInt64 &&& 63))) x = true) (p1 * 3 + w9).toNatClampNeg
    rw [tf, c9]
    exact PreW.nil
  · show g10 0 = _
    rw [t1, va_eq, e9]
  · show g11 0 = _
    rw [t2, va_eq, ← c9]
    exact (n36 b9).2.symm
  · have htx : tb (0 ||| ((1 : Int64) <<< ((p1 * 3 + w9).toInt64 &&& 63))) x = true := htx
    have e : x = 3 * p1.toNatClampNeg + w := by
      have q := congrFun tf x
      rw [← q]
      exact htx
    show (g1 (p1 * 3 + w9).toNatClampNeg).toInt ≤ (g1 x).toInt
    rw [c9, e]
    exact Int.le_refl _
  rcases r with x | ⟨w32, w33, w34, w35, w36, w37, w38⟩
  · exact hr.elim
  obtain ⟨ws, q1, q2, ⟨q3, q3'⟩, ⟨q4, q4'⟩, q5, q6⟩ := hr
  dsimp only [Sum.elim, u7]
  refine Pf.ite (fun _ => Pf.ok ⟨hg, q6, hg2, Or.inr ⟨rfl, w, ws, hw, ?_, fun w' hw' => ?_, fun w' hw' => ?_, q1, ⟨q4, q4'⟩, ⟨q3, q3'⟩, q5⟩⟩) (fun h => absurd q2 h)
  · show g1 (3 * p1.toNatClampNeg + w) < 1000000
    rw [ew]
    exact Int32.not_le.mp hm1
  · show g1 (3 * p1.toNatClampNeg + w) ≤ g1 (3 * p1.toNatClampNeg + w')
    rw [ew]
    exact hm.1 w' hw'
  · show ¬ g1 (3 * p1.toNatClampNeg + w') = g1 (3 * p1.toNatClampNeg + w)
    rw [ew]
    exact hno w' hw'
end
section
/-! the class's edges: their lines, in order -/
def ky (eA eL : Nat → Int32) (e : Nat) : Nat := 3 * (eL e).toNatClampNeg + (eA e).toNatClampNeg % 3
def EgL (lines coin : Nat → Int32) (p2 : Int32) (Q : Nat → Nat → Prop) (K : Nat) (eA eB eC eL : Nat → Int32) (ec : Nat) : Prop :=
  (∀ e : Nat, e < ec → ∃ l w, Q l w ∧ w < 3 ∧ Us lines p2 l w ∧ Eg lines coin l w (eA e) (eB e) (eC e) ∧ l < 20 ∧ eL e = Int32.ofNat l) ∧ (∀ l w, Q l w → w < 3 → Us lines p2 l w → ∃ e, e < ec ∧ Eg lines coin l w (eA e) (eB e) (eC e) ∧ eL e = Int32.ofNat l) ∧ (∀ a b : Nat, a < b → b < ec → ky eA eL a < ky eA eL b) ∧ ∀ e : Nat, e < ec → ky eA eL e < K
theorem EgL.same {lines coin : Nat → Int32} {p2 : Int32} {Q Q' : Nat → Nat → Prop} {K K' : Nat} {eA eB eC eL : Nat → Int32} {ec : Nat} (h : EgL lines coin p2 Q K eA eB eC eL ec) (hK : K ≤ K') (h1 : ∀ l w, Q l w → Q' l w) (h2 : ∀ l w, Q' l w → w < 3 → Us lines p2 l w → Q l w) : EgL lines coin p2 Q' K' eA eB eC eL ec := by
  refine ⟨fun e he => ?_, fun l w hq hw hu => ?_, h.2.2.1, fun e he => Nat.lt_of_lt_of_le (h.2.2.2 e he) hK⟩
  · obtain ⟨l, w, a, b⟩ := h.1 e he
    exact ⟨l, w, h1 l w a, b⟩
  · exact h.2.1 l w (h2 l w hq hw hu) hw hu
theorem EgL.add {lines coin : Nat → Int32} {p2 : Int32} {Q Q' : Nat → Nat → Prop} {K : Nat} {eA eB eC eL : Nat → Int32} {ec : Nat} {L W : Nat} {a b c : Int32} (h : EgL lines coin p2 Q K eA eB eC eL ec) (hL : L < 20) (hK : K ≤ 3 * L + W) (hW : W < 3) (hU : Us lines p2 L W) (hE : Eg lines coin L W a b c) (h1 : ∀ l w, Q l w → Q' l w) (h3 : Q' L W) (h2 : ∀ l w, Q' l w → Q l w ∨ (l = L ∧ w = W)) : EgL lines coin p2 Q' (3 * L + W + 1) (va_up eA ec a) (va_up eB ec b) (va_up eC ec c) (va_up eL ec (Int32.ofNat L)) (ec + 1) := by
  have kn : ky (va_up eA ec a) (va_up eL ec (Int32.ofNat L)) ec = 3 * L + W := by
    unfold ky
    rw [va_up_self, va_up_self, hE.1, ocl (by omega)]
    omega
  have ko : ∀ e, e < ec → ky (va_up eA ec a) (va_up eL ec (Int32.ofNat L)) e = ky eA eL e := by
    intro e he
    unfold ky
    rw [va_up_ne _ _ (by omega), va_up_ne _ _ (by omega)]
  refine ⟨fun e he => ?_, fun l w hq hw hu => ?_, fun i j hij hj => ?_, fun e he => ?_⟩
  · by_cases hee : e = ec
    · subst hee
      rw [va_up_self, va_up_self, va_up_self, va_up_self]
      exact ⟨L, W, h3, hW, hU, hE, hL, rfl⟩
    · obtain ⟨l, w, q1, q2⟩ := h.1 e (by omega)
      rw [va_up_ne _ _ hee, va_up_ne _ _ hee, va_up_ne _ _ hee, va_up_ne _ _ hee]
      exact ⟨l, w, h1 l w q1, q2⟩
  · rcases h2 l w hq with hq | ⟨rfl, rfl⟩
    · obtain ⟨e, he, q⟩ := h.2.1 l w hq hw hu
      refine ⟨e, by omega, ?_⟩
      have hee : e ≠ ec := by omega
      rw [va_up_ne _ _ hee, va_up_ne _ _ hee, va_up_ne _ _ hee, va_up_ne _ _ hee]
      exact q
    · refine ⟨ec, by omega, ?_⟩
      rw [va_up_self, va_up_self, va_up_self, va_up_self]
      exact ⟨hE, rfl⟩
  · rw [ko i (by omega)]
    by_cases hj2 : j = ec
    · rw [hj2, kn]
      exact Nat.lt_of_lt_of_le (h.2.2.2 i (by omega)) hK
    · rw [ko j (by omega)]
      exact h.2.2.1 i j hij (by omega)
  · by_cases hee : e = ec
    · rw [hee, kn]; omega
    · rw [ko e (by omega)]
      have q := h.2.2.2 e (by omega)
      omega
def PIL (lines coin : Nat → Int32) (p2 z3 z17 : Int32) (eA eB eC eL : Nat → Int32) (ec : Int32) : Prop :=
  (0 ≤ z17 ∧ z17 ≤ 3) ∧ 0 ≤ ec ∧ ec.toNatClampNeg ≤ 3 * z3.toNatClampNeg + z17.toNatClampNeg ∧ AI 0 35 eA ∧ AI 0 35 eB ∧ (∀ e, e < ec.toNatClampNeg → 0 ≤ eC e ∧ eC e ≤ 999) ∧ EgL lines coin p2 (fun l w => l < z3.toNatClampNeg ∨ (l = z3.toNatClampNeg ∧ w < z17.toNatClampNeg)) (3 * z3.toNatClampNeg + z17.toNatClampNeg) eA eB eC eL ec.toNatClampNeg
def POL (lines coin : Nat → Int32) (p2 z3 : Int32) (eA eB eC eL : Nat → Int32) (ec : Int32) : Prop :=
  0 ≤ z3 ∧ 0 ≤ ec ∧ ec.toNatClampNeg ≤ 3 * z3.toNatClampNeg ∧ AI 0 35 eA ∧ AI 0 35 eB ∧ (∀ e, e < ec.toNatClampNeg → 0 ≤ eC e ∧ eC e ≤ 999) ∧ EgL lines coin p2 (fun l _ => l < z3.toNatClampNeg) (3 * z3.toNatClampNeg) eA eB eC eL ec.toNatClampNeg
theorem prepIL {n : Nat} {lc gc wc yr ik p2 z3 y : Int32} {lines goods works chg coin kf eA eB eC eL : Nat → Int32} {ec : Int32} (hn : 1000000000000 ≤ n) (hl : LnOk lines) (hco : AI 0 9 coin) (hz : 0 ≤ z3 ∧ z3 < 20) (hy : (¬ ((p2 >>> (z3 &&& 31)) &&& 1) = 0 ∧ y = lines (7 * z3.toNatClampNeg + 2)) ∨ (((p2 >>> (z3 &&& 31)) &&& 1) = 0 ∧ y = 0)) (h : POL lines coin p2 z3 eA eB eC eL ec) : Sf (lp (u6 (fX5_prepare_s58 lc gc wc yr lines goods works chg coin kf ik z3 y)) n (0, eA, eB, eC, eL, ec)) (fun r => POL lines coin p2 (z3 + 1) r.1 r.2.1 r.2.2.1 r.2.2.2.1 r.2.2.2.2) := by
  have e3 : Int32.ofNat z3.toNatClampNeg = z3 := Int32.ofNat_toNatClampNeg z3 hz.1
  have hz20 : z3.toNatClampNeg < 20 := i32_lt (M := 20) rfl hz
  obtain ⟨q0, q1, q2⟩ := up1 (B := 20) hz.1 (by decide) (Int32.not_le.mpr hz.2)
  have hI : PIL lines coin p2 z3 0 eA eB eC eL ec := by
    obtain ⟨h0, h1, h2, h3, h4, h5, h6⟩ := h
    refine ⟨⟨by decide, by decide⟩, h1, by omega, h3, h4, h5, h6.same (Nat.le_add_right _ _) (fun l w q => Or.inl q) (fun l w q hw hu => ?_)⟩
    rcases q with q | ⟨q, q2⟩
    · exact q
    · exact absurd q2 (Nat.not_lt_zero _)
  refine Sf.loop6 (PIL lines coin p2 z3) (fun z17 _ _ _ _ _ => muUp z17) (fun z17 a b c l ec h => ?_) hI (muUp_n hn)
  obtain ⟨h0, h1, h2, h3, h4, h5, h6⟩ := h
  have n17 : z17.toNatClampNeg ≤ 3 := by
    have p := i32_cl h0.1
    have q := Int32.le_iff_toInt_le.mp h0.2
    have e : (3 : Int32).toInt = 3 := by decide
    omega
  unfold fX5_prepare_s58
  refine Sf.ite (fun hc => ?_) (fun hc => ?_)
  · refine Sf.inr ⟨q0, h1, by rw [q1]; show ec.toNatClampNeg ≤ _; omega, h3, h4, h5, h6.same (by rw [q1]; omega) (fun l w q => ?_) (fun l w q hw hu => ?_)⟩
    · show l < (z3 + 1).toNatClampNeg
      rw [q1]
      omega
    · have q : l < (z3 + 1).toNatClampNeg := q
      rw [q1] at q
      have r := c3 h0.1 hc hw
      show l < z3.toNatClampNeg ∨ (l = z3.toNatClampNeg ∧ w < z17.toNatClampNeg)
      omega
  · obtain ⟨p0, p1, p2'⟩ := up1 h0.1 (by decide) hc
    have hw : 0 ≤ z17 ∧ z17 < 3 := ⟨h0.1, p2'⟩
    obtain ⟨ew, hw3⟩ := w_of hw
    have p3 : z17 + 1 ≤ 3 := by clear h1 h2 h3 h4 h5 h6 hI h hy; grind
    refine Sf.ite (fun hb => ?_) (fun hb => ?_)
    · refine Sf.inl (show PIL lines coin p2 z3 (z17 + 1) a b c l ec from ⟨⟨p0, p3⟩, h1, by rw [p1]; omega, h3, h4, h5, h6.same (by rw [p1]; omega) (fun l w q => ?_) (fun l w q hw' hu => ?_)⟩) (muUp_lt hc)
      · show l < z3.toNatClampNeg ∨ (l = z3.toNatClampNeg ∧ w < (z17 + 1).toNatClampNeg)
        rw [p1]
        have q : l < z3.toNatClampNeg ∨ (l = z3.toNatClampNeg ∧ w < z17.toNatClampNeg) := q
        omega
      · have q : l < z3.toNatClampNeg ∨ (l = z3.toNatClampNeg ∧ w < (z17 + 1).toNatClampNeg) := q
        rw [p1] at q
        show l < z3.toNatClampNeg ∨ (l = z3.toNatClampNeg ∧ w < z17.toNatClampNeg)
        by_cases hx : l = z3.toNatClampNeg ∧ w = z17.toNatClampNeg
        · obtain ⟨rfl, rfl⟩ := hx
          obtain ⟨u1, u2⟩ := hu
          rw [e3] at u1
          rw [ew] at u2
          rcases hy with ⟨_, ey⟩ | ⟨hz0, _⟩
          · rw [ey] at hb
            exact absurd hb u2
          · exact absurd hz0 u1
        · omega
    · have hy2 : ¬ ((p2 >>> (z3 &&& 31)) &&& 1) = 0 ∧ y = lines (7 * z3.toNatClampNeg + 2) := by
        rcases hy with hy | ⟨_, ey⟩
        · exact hy
        · rw [ey] at hb
          exact absurd (zshr hw) hb
      have hU : Us lines p2 z3.toNatClampNeg z17.toNatClampNeg := by
        refine ⟨?_, ?_⟩
        · rw [e3]; exact hy2.1
        · rw [ew, ← hy2.2]; exact hb
      have e0 : (0 : Int32).toNatClampNeg = 0 := by decide
      have e1 : (1 : Int32).toNatClampNeg = 1 := by decide
      have e3' : (3 : Int32).toNatClampNeg = 3 := by decide
      have hec : 0 ≤ ec ∧ ec < 60 := by
        refine ⟨h1, Int32.lt_iff_toInt_lt.mpr ?_⟩
        have p := i32_cl h1
        have e : (60 : Int32).toInt = 60 := by decide
        omega
      obtain ⟨g0, g1, _⟩ := up1 h1 (B := 60) (by decide) (Int32.not_le.mpr hec.2)
      obtain ⟨r0, r1, r3⟩ := lnR hl z3.toNatClampNeg
      refine Sf.bind (ofLineV hz ⟨by decide, by decide⟩) ?_
      intro v29 e29
      rw [e0] at e29
      have b29 : 0 ≤ v29 ∧ v29 ≤ 11 := by rw [e29]; exact r0
      obtain ⟨i29, n29⟩ := ix3' b29 hw
      refine Sf.wrb 60 rfl hec (fun f31 e31 => ?_)
      refine Sf.bind (ofLineV hz ⟨by decide, by decide⟩) ?_
      intro v32 e32
      rw [e1] at e32
      have b32 : 0 ≤ v32 ∧ v32 ≤ 11 := by rw [e32]; exact r1
      obtain ⟨i32, n32⟩ := ix3' b32 hw
      refine Sf.wrb 60 rfl hec (fun f34 e34 => ?_)
      refine Sf.bind (ofLineV hz ⟨by decide, by decide⟩) ?_
      intro v35 e35
      rw [e3'] at e35
      have b35 : 0 ≤ v35 ∧ v35 ≤ 60 := by rw [e35]; exact r3
      refine Sf.rdb 3 rfl hw (fun v37 e37 => ?_)
      have b37 : 0 ≤ v37 ∧ v37 ≤ 9 := by rw [e37]; exact hco _
      refine Sf.wrb 60 rfl hec (fun f38 e38 => ?_)
      refine Sf.wrb 60 rfl hec (fun f39 e39 => ?_)
      have lt36 : ∀ x : Int32, 0 ≤ x ∧ x < 36 → 0 ≤ x ∧ x ≤ 35 := by
        intro x hx
        refine ⟨hx.1, Int32.le_iff_toInt_le.mpr ?_⟩
        have q := Int32.lt_iff_toInt_lt.mp hx.2
        have ea : (36 : Int32).toInt = 36 := by decide
        have eb : (35 : Int32).toInt = 35 := by decide
        omega
      subst e31 e34 e38 e39
      refine Sf.inl (show PIL lines coin p2 z3 (z17 + 1) (va_up a ec.toNatClampNeg (v29 * 3 + z17)) (va_up b ec.toNatClampNeg (v32 * 3 + z17)) (va_up c ec.toNatClampNeg (v35 * v37)) (va_up l ec.toNatClampNeg z3) (ec + 1) from ⟨⟨p0, p3⟩, g0, by rw [p1, g1]; omega, AI.up h3 (lt36 _ i29), AI.up h4 (lt36 _ i32), fun e he => ?_, ?_⟩) (muUp_lt hc)
      · rw [g1] at he
        by_cases hee : e = ec.toNatClampNeg
        · subst hee
          rw [va_up_self]
          exact mc9 b35 b37
        · rw [va_up_ne _ _ hee]
          exact h5 e (by omega)
      · rw [g1]
        have hk : 3 * z3.toNatClampNeg + (z17 + 1).toNatClampNeg = 3 * z3.toNatClampNeg + z17.toNatClampNeg + 1 := by rw [p1]; rfl
        have hl3 : va_up l ec.toNatClampNeg z3 = va_up l ec.toNatClampNeg (Int32.ofNat z3.toNatClampNeg) := by rw [e3]
        rw [hk, hl3]
        refine EgL.add h6 hz20 (Nat.le_refl _) hw3 hU ⟨?_, ?_, ?_⟩ (fun l w q => ?_) (Or.inr ⟨rfl, by rw [p1]; omega⟩) (fun l w q => ?_)
        · rw [n29, e29]
        · rw [n32, e32]
        · rw [e35, e37]
        · show l < z3.toNatClampNeg ∨ (l = z3.toNatClampNeg ∧ w < (z17 + 1).toNatClampNeg)
          rw [p1]
          have q : l < z3.toNatClampNeg ∨ (l = z3.toNatClampNeg ∧ w < z17.toNatClampNeg) := q
          omega
        · have q : l < z3.toNatClampNeg ∨ (l = z3.toNatClampNeg ∧ w < (z17 + 1).toNatClampNeg) := q
          rw [p1] at q
          show (l < z3.toNatClampNeg ∨ (l = z3.toNatClampNeg ∧ w < z17.toNatClampNeg)) ∨ (l = z3.toNatClampNeg ∧ w = z17.toNatClampNeg)
          omega
def PQL (lines coin chg : Nat → Int32) (lc p2 : Int32) (r : (Nat → Int32) × (Nat → Int32) × (Nat → Int32) × (Nat → Int32) × (Nat → Int32) × Int32 × Int32) : Prop :=
  r.2.2.2.2.2.2 = (-1) ∧ AI 0 35 r.1 ∧ AI 0 35 r.2.1 ∧ (0 ≤ r.2.2.2.2.2.1 ∧ r.2.2.2.2.2.1 ≤ 60) ∧ (∀ e, e < r.2.2.2.2.2.1.toNatClampNeg → 0 ≤ r.2.2.1 e ∧ r.2.2.1 e ≤ 999) ∧ (∀ k, k < 12 → r.2.2.2.2.1 k = chg k) ∧ EgL lines coin p2 (fun l _ => l < lc.toNatClampNeg) 60 r.1 r.2.1 r.2.2.1 r.2.2.2.1 r.2.2.2.2.2.1.toNatClampNeg
theorem prepSL {n : Nat} {eA eB eC eL chg0 aw st nd op : Nat → Int32} {sc oc ec am : Int32} {sn : Int64} {lc gc wc yr ik p2 : Int32} {lines goods works chg coin kf : Nat → Int32} (hn : 1000000000000 ≤ n) (hl : LnOk lines) (hco : AI 0 9 coin) (hlc : 0 ≤ lc ∧ lc ≤ 20) (hA : AI 0 35 eA) (hB : AI 0 35 eB) : Sf (fX5_prepare n (eA, eB, eC, eL, chg0, aw, st, nd, sc, op, oc, sn, ec, am) (lc, gc, wc, yr, lines, goods, works, chg, coin, kf, ik) p2) (PQL lines coin chg lc p2) := by
  unfold fX5_prepare
  dsimp only [u14, u11]
  refine Sf.cpyb ⟨by decide, by decide, by decide⟩ (by decide) (by decide) (fun f1 e1 => ?_)
  have hch : ∀ k, k < 12 → f1 k = chg k := by
    intro k hk
    rw [e1]
    have ea : (0 : Int32).toNatClampNeg = 0 := by decide
    have eb : (12 : Int32).toNatClampNeg = 12 := by decide
    rw [ea, eb]
    unfold va_cpy
    rw [if_pos ⟨Nat.zero_le k, by omega⟩]
    congr 1
    omega
  have h0 : POL lines coin p2 0 eA eB eC eL 0 := ⟨Int32.le_refl 0, Int32.le_refl 0, Nat.zero_le _, hA, hB, fun e he => absurd he (Nat.not_lt_zero e), fun e he => absurd he (Nat.not_lt_zero e), fun l w hq => absurd hq (Nat.not_lt_zero l), fun a b _ hb => absurd hb (Nat.not_lt_zero b), fun e he => absurd he (Nat.not_lt_zero e)⟩
  refine Sf.bind (P := fun r : (Nat → Int32) × (Nat → Int32) × (Nat → Int32) × (Nat → Int32) × Int32 => AI 0 35 r.1 ∧ AI 0 35 r.2.1 ∧ (0 ≤ r.2.2.2.2 ∧ r.2.2.2.2 ≤ 60) ∧ (∀ e, e < r.2.2.2.2.toNatClampNeg → 0 ≤ r.2.2.1 e ∧ r.2.2.1 e ≤ 999) ∧ EgL lines coin p2 (fun l _ => l < lc.toNatClampNeg) 60 r.1 r.2.1 r.2.2.1 r.2.2.2.1 r.2.2.2.2.toNatClampNeg) ?_ ?_
  · refine Sf.loop6 (fun z3 a b c l e => POL lines coin p2 z3 a b c l e ∧ z3 ≤ lc) (fun z3 _ _ _ _ _ => muUp z3) (fun z3 a b c l e h => ?_) ⟨h0, hlc.1⟩ (muUp_n hn)
    obtain ⟨h, hz⟩ := h
    have hh := h
    obtain ⟨h0, h1, h2, h3, h4, h5, h6⟩ := hh
    have nz := i32_cl h0
    have nl := i32_cl hlc.1
    have iz := Int32.le_iff_toInt_le.mp hz
    have e20 : (20 : Int32).toInt = 20 := by decide
    have il := Int32.le_iff_toInt_le.mp hlc.2
    have ne := i32_cl h1
    unfold fX5_prepare_s27
    refine Sf.ite (fun hc => ?_) (fun hc => ?_)
    · have ic := Int32.le_iff_toInt_le.mp hc
      have ez : z3.toNatClampNeg = lc.toNatClampNeg := by omega
      refine Sf.inr ⟨h3, h4, ⟨h1, Int32.le_iff_toInt_le.mpr ?_⟩, h5, ?_⟩
      · have e60 : (60 : Int32).toInt = 60 := by decide
        show e.toInt ≤ _
        omega
      · rw [← ez]
        exact h6.same (by omega) (fun _ _ q => q) (fun _ _ q _ _ => q)
    · obtain ⟨p0, p1, p3⟩ := up1 h0 (Int32.le_trans hlc.2 (by decide)) hc
      have hz20 : 0 ≤ z3 ∧ z3 < 20 := ⟨h0, Int32.lt_of_lt_of_le p3 hlc.2⟩
      have hz1 : z3 + 1 ≤ lc := by
        have q := Int32.lt_iff_toInt_lt.mp p3
        have r := i32_cl p0
        exact Int32.le_iff_toInt_le.mpr (by omega)
      have go : ∀ y : Int32, ((¬ ((p2 >>> (z3 &&& 31)) &&& 1) = 0 ∧ y = lines (7 * z3.toNatClampNeg + 2)) ∨ (((p2 >>> (z3 &&& 31)) &&& 1) = 0 ∧ y = 0)) → Sf (fX5_prepare_j53 n lc gc wc yr lines goods works chg coin kf ik z3 a b c l e y) (LQ (u6 (fun z3 a b c l e => POL lines coin p2 z3 a b c l e ∧ z3 ≤ lc)) (u6 (fun z3 _ _ _ _ _ => muUp z3)) (muUp z3) (fun r : (Nat → Int32) × (Nat → Int32) × (Nat → Int32) × (Nat → Int32) × Int32 => AI 0 35 r.1 ∧ AI 0 35 r.2.1 ∧ (0 ≤ r.2.2.2.2 ∧ r.2.2.2.2 ≤ 60) ∧ (∀ e, e < r.2.2.2.2.toNatClampNeg → 0 ≤ r.2.2.1 e ∧ r.2.2.1 e ≤ 999) ∧ EgL lines coin p2 (fun l _ => l < lc.toNatClampNeg) 60 r.1 r.2.1 r.2.2.1 r.2.2.2.1 r.2.2.2.2.toNatClampNeg)) := by
        intro y hy
        unfold fX5_prepare_j53
        refine Sf.bind (prepIL hn hl hco hz20 hy h) ?_
        rintro ⟨w24, w25, w26, w27, w28⟩ hr
        dsimp only [u5]
        exact Sf.inl ⟨hr, hz1⟩ (muUp_lt hc)
      refine Sf.ite (fun hb => ?_) (fun hb => ?_)
      · exact go 0 (Or.inr ⟨hb, rfl⟩)
      · refine Sf.bind (ofLineV hz20 ⟨by decide, by decide⟩) ?_
        intro v40 e40
        have e2 : (2 : Int32).toNatClampNeg = 2 := by decide
        rw [e2] at e40
        exact go v40 (Or.inl ⟨hb, e40⟩)
  · rintro ⟨w10, w11, w12, w13, w14⟩ ⟨r1, r2, r3, r4, r5⟩
    dsimp only [u5]
    exact Sf.ok ⟨rfl, r1, r2, r3, r4, hch, r5⟩
end
section
/-! both ways are one -/
def OeL (line : Nat → Nat → Int32) (l u v : Nat) : Prop := ((line l 0).toNatClampNeg = u / 3 ∧ v = 3 * (line l 1).toNatClampNeg + u % 3) ∨ (¬ (line l 0).toNatClampNeg = u / 3 ∧ (line l 1).toNatClampNeg = u / 3 ∧ v = 3 * (line l 0).toNatClampNeg + u % 3)
theorem OeL.un {line : Nat → Nat → Int32} {l u v v' : Nat} (h : OeL line l u v) (h' : OeL line l u v') : v = v' := by
  rcases h with a | a <;> rcases h' with b | b
  · rw [a.2, b.2]
  · exact absurd a.1 b.1
  · exact absurd b.1 a.1
  · rw [a.2.2, b.2.2]
theorem stpW {line : Nat → Nat → Int32} {changes coins left far : Nat → Int32} {tons : Int32} {u s : Nat} (hu : u < 36) (hs : s < 3) : Sf (stF line changes coins left far tons (Int32.ofNat u) (Int32.ofNat s)) (fun r => (r = -1 ∧ ¬ (¬ s = u % 3 ∧ far (3 * (u / 3) + s) + changes (u / 3) = far u)) ∨ (r = Int32.ofNat (3 * (u / 3) + s) ∧ ¬ s = u % 3 ∧ far (3 * (u / 3) + s) + changes (u / 3) = far u)) := by
  obtain ⟨ub, un, ud, um⟩ := o36 hu
  have hp : u / 3 < 12 := by omega
  obtain ⟨b1, t8, _, p12, _, n3⟩ := o12 hp hs
  unfold stF fX7_stepTo
  dsimp only [u35]
  refine Sf.ite (fun h => absurd h n3) (fun _ => ?_)
  rw [um, ud, t8]
  refine Sf.ite (fun h => Sf.ok (Or.inl ⟨rfl, fun q => q.1 (oinj (by omega) (by omega) h)⟩)) (fun h => ?_)
  have hne : ¬ s = u % 3 := fun e => h (by rw [e])
  rw [t8] at b1
  refine Sf.rdb 36 rfl b1 (fun v20 e20 => ?_)
  refine Sf.rdb 12 rfl p12 (fun v21 e21 => ?_)
  refine Sf.rdb 36 rfl ⟨ub.1, Int32.lt_of_le_of_lt ub.2 (by decide)⟩ (fun v22 e22 => ?_)
  rw [ocl (a := 3 * (u / 3) + s) (by omega)] at e20
  rw [ocl (a := u / 3) (by omega)] at e21
  rw [un] at e22
  have hk : v20 + v21 = v22 ↔ far (3 * (u / 3) + s) + changes (u / 3) = far u := by rw [e20, e21, e22]
  exact Sf.ite (fun h => Sf.ok (Or.inr ⟨rfl, hne, hk.mp h⟩)) (fun h => Sf.ok (Or.inl ⟨rfl, fun q => h (hk.mpr q.2)⟩))
theorem stpL {line : Nat → Nat → Int32} {changes coins left far : Nat → Int32} {tons : Int32} {u l : Nat} (hu : u < 36) (hl20 : l < 20) (hl : LnM line) : Sf (stF line changes coins left far tons (Int32.ofNat u) (Int32.ofNat (3 + l))) (fun r => (r = -1 ∧ ∀ v, OeL line l u v → Br line left tons l (Int32.ofNat (u % 3)) → ¬ far v + line l 3 * coins (u % 3) = far u) ∨ ∃ v : Nat, r = Int32.ofNat v ∧ v < 36 ∧ Br line left tons l (Int32.ofNat (u % 3)) ∧ OeL line l u v ∧ far v + line l 3 * coins (u % 3) = far u) := by
  obtain ⟨ub, un, ud, um⟩ := o36 hu
  have hw : u % 3 < 3 := by omega
  obtain ⟨g3, l3, l19, l20⟩ := o20 hl20
  have o0 := o_of (hl l 0).1
  have o1 := o_of (hl l 1).1
  have p0 := p_of (hl l 0)
  have p1 := p_of (hl l 1)
  unfold stF fX7_stepTo
  dsimp only [u35]
  refine Sf.ite (fun _ => ?_) (fun h => absurd g3 h)
  rw [um, ud, l3]
  refine Sf.bind (s_bears hl l19) (fun v1 h1 => ?_)
  rw [ocl (a := l) (by omega)] at h1
  refine Sf.ite (fun hz => Sf.ok (Or.inl ⟨rfl, fun v _ hb => ?_⟩)) (fun hz => ?_)
  · rcases h1 with h | h
    · exact absurd (h.1.symm.trans hz) (by decide)
    · exact absurd hb h.2
  have hB : Br line left tons l (Int32.ofNat (u % 3)) := by
    rcases h1 with h | h
    · exact h.2
    · exact absurd h.1 hz
  have fin : ∀ b : Nat, b < 12 → OeL line l u (3 * b + u % 3) → Sf (fX7_stepTo_j139 (Int32.ofNat u) (Int32.ofNat (3 + l)) line coins far (Int32.ofNat b)) (fun r => (r = -1 ∧ ∀ v, OeL line l u v → Br line left tons l (Int32.ofNat (u % 3)) → ¬ far v + line l 3 * coins (u % 3) = far u) ∨ ∃ v : Nat, r = Int32.ofNat v ∧ v < 36 ∧ Br line left tons l (Int32.ofNat (u % 3)) ∧ OeL line l u v ∧ far v + line l 3 * coins (u % 3) = far u) := by
    intro b hb ho
    obtain ⟨_, _, t8, _, w3, _⟩ := o12 hb hw
    obtain ⟨xb, nb, _, _⟩ := o36 (u := 3 * b + u % 3) (by omega)
    unfold fX7_stepTo_j139
    rw [um, t8, l3]
    refine Sf.someb (fun t et => ?_)
    subst et
    refine Sf.rdb 36 rfl ⟨xb.1, Int32.lt_of_le_of_lt xb.2 (by decide)⟩ (fun v9 e9 => ?_)
    refine Sf.ckb 20 rfl l20 (fun q10 e10 _ => ?_)
    refine Sf.rdl 3 rfl rfl (fun v11 e11 => ?_)
    refine Sf.rdb 3 rfl w3 (fun v12 e12 => ?_)
    refine Sf.rdb 36 rfl ⟨ub.1, Int32.lt_of_le_of_lt ub.2 (by decide)⟩ (fun v13 e13 => ?_)
    rw [nb] at e9
    rw [un] at e13
    rw [ocl (a := l) (by omega)] at e10
    rw [ocl (a := u % 3) (by omega)] at e12
    subst e10
    have hk : v9 + v11 * v12 = v13 ↔ far (3 * b + u % 3) + line q10 3 * coins (u % 3) = far u := by rw [e9, e11, e12, e13]
    refine Sf.ite (fun h => Sf.ok (Or.inr ⟨_, rfl, by omega, hB, ho, hk.mp h⟩)) (fun h => Sf.ok (Or.inl ⟨rfl, fun v hv _ ht => h (hk.mpr ?_)⟩))
    rw [hv.un ho] at ht
    exact ht
  have j102 : ((line l 0).toNatClampNeg = u / 3 ∨ (line l 1).toNatClampNeg = u / 3) → Sf (fX7_stepTo_j102 (Int32.ofNat u) (Int32.ofNat (3 + l)) line coins far) (fun r => (r = -1 ∧ ∀ v, OeL line l u v → Br line left tons l (Int32.ofNat (u % 3)) → ¬ far v + line l 3 * coins (u % 3) = far u) ∨ ∃ v : Nat, r = Int32.ofNat v ∧ v < 36 ∧ Br line left tons l (Int32.ofNat (u % 3)) ∧ OeL line l u v ∧ far v + line l 3 * coins (u % 3) = far u) := by
    intro hx
    unfold fX7_stepTo_j102
    rw [l3, ud]
    refine Sf.ckb 20 rfl l20 (fun q5 e5 _ => ?_)
    rw [ocl (a := l) (by omega)] at e5
    subst e5
    refine Sf.rdl 0 rfl rfl (fun v6 e6 => ?_)
    refine Sf.ite (fun h => ?_) (fun h => ?_)
    · refine Sf.ckb 20 rfl l20 (fun q16 e16 _ => ?_)
      rw [ocl (a := q5) (by omega)] at e16
      subst e16
      refine Sf.rdl 1 rfl rfl (fun v17 e17 => ?_)
      rw [e17, ← o1]
      exact fin _ p1 (Or.inl ⟨by rw [← e6, h]; exact ocl (by omega), rfl⟩)
    · have hn : ¬ (line q5 0).toNatClampNeg = u / 3 := fun e => h (by rw [e6, ← o0, e])
      refine Sf.ckb 20 rfl l20 (fun q14 e14 _ => ?_)
      rw [ocl (a := q5) (by omega)] at e14
      subst e14
      refine Sf.rdl 0 rfl rfl (fun v15 e15 => ?_)
      rw [e15, ← o0]
      exact fin _ p0 (Or.inr ⟨hn, hx.resolve_left hn, rfl⟩)
  refine Sf.ckb 20 rfl l20 (fun q3 e3 _ => ?_)
  rw [ocl (a := l) (by omega)] at e3
  subst e3
  refine Sf.rdl 0 rfl rfl (fun v4 e4 => ?_)
  refine Sf.ite (fun h => j102 (Or.inl (by rw [← e4, h]; exact ocl (by omega)))) (fun h => ?_)
  have hn : ¬ (line q3 0).toNatClampNeg = u / 3 := fun e => h (by rw [e4, ← o0, e])
  refine Sf.ckb 20 rfl l20 (fun q18 e18 _ => ?_)
  rw [ocl (a := q3) (by omega)] at e18
  subst e18
  refine Sf.rdl 1 rfl rfl (fun v19 e19 => ?_)
  refine Sf.ite (fun h2 => j102 (Or.inr (by rw [← e19, h2]; exact ocl (by omega)))) (fun h2 => Sf.ok (Or.inl ⟨rfl, fun v hv => ?_⟩))
  have hn1 : ¬ (line q18 1).toNatClampNeg = u / 3 := fun e => h2 (by rw [e19, ← o1, e])
  rcases hv with hv | hv
  · exact absurd hv.1 hn
  · exact absurd hv.2.1 hn1
theorem tgt {far aw : Nat → Int32} (hA : AI 0 1000000000 far) (haw : ∀ v, v < 36 → aw v = cut6 far v) (hfb : ∀ v, v < 36 → far v < 1000000000 → far v < 1000000) {u v : Nat} (hu : u < 36) (hv : v < 36) (hf : far u < 1000000000) {c : Int32} (hc : 0 ≤ c ∧ c ≤ 999) : (far v + c = far u ↔ aw u = c + aw v) ∧ (far v + c = far u → far v < 1000000000) := by
  have z9 : (1000000000 : Int32).toInt = 1000000000 := by decide
  have z6 : (1000000 : Int32).toInt = 1000000 := by decide
  have c0 := Int32.le_iff_toInt_le.mp hc.1
  have z0 : (0 : Int32).toInt = 0 := by decide
  rw [z0] at c0
  have fl := (fi_le (u := u) (v := v) hA ⟨hc.1, Int32.le_trans hc.2 (by decide)⟩).2
  have eu : aw u = far u := by
    rw [haw u hu]
    exact if_pos hf
  have lt : far v + c = far u → far v < 1000000000 := by
    intro h
    have q := fl.mp h
    have q2 := Int32.lt_iff_toInt_lt.mp hf
    exact Int32.lt_iff_toInt_lt.mpr (by omega)
  refine ⟨⟨fun h => ?_, fun h => ?_⟩, lt⟩
  · have ev : aw v = far v := by
      rw [haw v hv]
      exact if_pos (lt h)
    rw [eu, ev, ← h, Int32.add_comm]
  · by_cases hx : far v < 1000000000
    · have ev : aw v = far v := by
        rw [haw v hv]
        exact if_pos hx
      rw [← eu, h, ev, Int32.add_comm]
    · exfalso
      have ev : aw v = 1000000 := by
        rw [haw v hv]
        exact if_neg hx
      have q := Int32.lt_iff_toInt_lt.mp (hfb u hu hf)
      rw [← eu, h, ev] at q
      have a := Int32.le_iff_toInt_le.mp hc.2
      have z99 : (999 : Int32).toInt = 999 := by decide
      rw [z99] at a
      have e : (c + 1000000).toInt = c.toInt + (1000000 : Int32).toInt := i32_add (by rw [z6]; omega) (by rw [z6]; omega)
      rw [e, z6] at q
      omega
theorem T7_TC {L ec K : Nat} {p2 tons : Int32} {line : Nat → Nat → Int32} {lines coin chg eA eB eC eL changes coins left far aw : Nat → Int32} (hE : EgL lines coin p2 (fun l _ => l < L) K eA eB eC eL ec) (hb : ∀ l, l < L → (tq p2 l = true ↔ (line l 6 = 0 ∧ ¬ left l < tons))) (hL20 : L ≤ 20) (hl : ∀ l, l < L → ∀ c, c < 6 → line l c = lines (7 * l + c)) (hco : ∀ w, w < 3 → coins w = coin w) (hch : ∀ p, p < 12 → changes p = chg p) (hLn : LnM line) (hc9 : AI 0 9 coins) (hc99 : AI 0 99 changes) (hA : AI 0 1000000000 far) (haw : ∀ v, v < 36 → aw v = cut6 far v) (hfb : ∀ v, v < 36 → far v < 1000000000 → far v < 1000000) {u s v : Nat} (hu : u < 36) (hf : far u < 1000000000) : (T7 L line changes coins left far tons) u s v ↔ (TC ec eA eB eC eL chg aw) u s v := by
  have cw : ∀ l, 0 ≤ line l 3 * coins (u % 3) ∧ line l 3 * coins (u % 3) ≤ 999 := fun l => mc9 (hLn l 3) (hc9 _)
  have cp : 0 ≤ changes (u / 3) ∧ changes (u / 3) ≤ 999 := ⟨(hc99 _).1, Int32.le_trans (hc99 _).2 (by decide)⟩
  have hm : u / 3 * 3 + s = 3 * (u / 3) + s := by rw [Nat.mul_comm]
  have hus : ∀ l, l < L → (Us lines p2 l (u % 3) ↔ Br line left tons l (Int32.ofNat (u % 3))) := by
    intro l hq
    have e2 := hl l hq 2 (by decide)
    constructor
    · intro h
      have q := (hb l hq).mp ((tq_on (by omega)).mp h.1)
      exact ⟨q.1, by rw [e2]; exact h.2, q.2⟩
    · intro h
      exact ⟨(tq_on (by omega)).mpr ((hb l hq).mpr ⟨h.1, h.2.2⟩), by rw [← e2]; exact h.2.1⟩
  -- an edge at u is a line's
  have hoe : ∀ (e l w : Nat) (v : Nat), l < L → w < 3 → Eg lines coin l w (eA e) (eB e) (eC e) → (Oe eA eB e u v ↔ (w = u % 3 ∧ OeL line l u v)) := by
    intro e l w v hq hw hg
    obtain ⟨g1, g2, g3⟩ := hg
    have e0 := hl l hq 0 (by decide)
    have e1 := hl l hq 1 (by decide)
    rw [← e0] at g1
    rw [← e1] at g2
    unfold Oe OeL
    rw [g1, g2]
    constructor
    · rintro (⟨a, b⟩ | ⟨a, b, c⟩)
      · exact ⟨by omega, Or.inl ⟨by omega, by omega⟩⟩
      · exact ⟨by omega, Or.inr ⟨by omega, by omega, by omega⟩⟩
    · rintro ⟨rfl, ⟨a, b⟩ | ⟨a, b, c⟩⟩
      · exact Or.inl ⟨by omega, by omega⟩
      · exact Or.inr ⟨by omega, by omega, by omega⟩
  constructor
  · rintro ⟨hv, hs, e⟩
    refine ⟨hv, ?_⟩
    rcases Nat.lt_or_ge s 3 with h3 | h3
    · rcases (stpW hu h3).at e with h | ⟨h1, h2, h4⟩
      · have b := (o36 hv).1.1
        rw [h.1] at b
        exact absurd b (by decide)
      · have ev := oinj (by omega) (by omega) h1
        refine Or.inl ⟨h3, by rw [hm]; exact ev, by omega, ?_⟩
        rw [← hch _ (by omega)]
        exact (tgt hA haw hfb hu hv hf cp).1.mp (by rw [ev]; exact h4)
    · obtain ⟨l, rfl⟩ : ∃ l, s = 3 + l := ⟨s - 3, by omega⟩
      have hq : l < L := by omega
      rcases (stpL hu (by omega) hLn).at e with h | ⟨v', h1, h2, h4, h5, h6⟩
      · have b := (o36 hv).1.1
        rw [h.1] at b
        exact absurd b (by decide)
      · have ev : v = v' := oinj (by omega) (by omega) h1
        subst ev
        obtain ⟨e, he, hg, el⟩ := hE.2.1 l (u % 3) hq (by omega) ((hus l hq).mpr h4)
        refine Or.inr ⟨e, he, by rw [el, ocl (by omega)], (hoe e l _ v hq (by omega) hg).mpr ⟨rfl, h5⟩, ?_⟩
        have ec : eC e = line l 3 * coins (u % 3) := by rw [hg.2.2, hl l hq 3 (by decide), hco _ (by omega)]
        rw [ec]
        exact (tgt hA haw hfb hu hv hf (cw l)).1.mp h6
  · rintro ⟨hv, ⟨h1, h2, h3, h4⟩ | ⟨e, he, es, ho, ht⟩⟩
    · refine ⟨hv, by omega, ?_⟩
      rw [← hch _ (by omega)] at h4
      have tg := (tgt hA haw hfb hu hv hf cp).1.mpr h4
      rw [hm] at h2
      obtain ⟨r, er, hr⟩ := stpW (line := line) (changes := changes) (coins := coins) (left := left) (far := far) (tons := tons) hu h1
      rw [er]
      rcases hr with h | h
      · exact absurd ⟨by omega, by rw [← h2]; exact tg⟩ h.2
      · rw [h.1, h2]
    · obtain ⟨l, w, hq, hw, hu', hg, l20, el⟩ := hE.1 e he
      have hq : l < L := hq
      obtain ⟨ew, hol⟩ := (hoe e l w v hq hw hg).mp ho
      subst ew
      rw [el, ocl (by omega)] at es
      subst es
      refine ⟨hv, by omega, ?_⟩
      have ec : eC e = line l 3 * coins (u % 3) := by rw [hg.2.2, hl l hq 3 (by decide), hco _ (by omega)]
      rw [ec] at ht
      have tg := (tgt hA haw hfb hu hv hf (cw l)).1.mpr ht
      obtain ⟨r, er, hr⟩ := stpL (line := line) (changes := changes) (coins := coins) (left := left) (far := far) (tons := tons) hu l20 hLn
      rw [er]
      rcases hr with h | ⟨v', h1, h2, h4, h5, h6⟩
      · exact absurd tg (h.2 v hol ((hus l hq).mp hu'))
      · rw [h1, h5.un hol]
/-- the way that findWay finds, the way that trace finds -/
def FW (L : Nat) (line : Nat → Nat → Int32) (changes coins left far : Nat → Int32) (tons : Int32) (p g w : Nat) (ws : List (Nat × Nat)) : Prop := w < 3 ∧ far (3 * p + w) < 1000000000 ∧ (∀ w' : Nat, w' < 3 → far (3 * p + w) ≤ far (3 * p + w')) ∧ (∀ w' : Nat, w' < w → ¬ far (3 * p + w') = far (3 * p + w)) ∧ Wy (T7 L line changes coins left far tons) (EP L line changes coins left far tons) g ws (fun x => x = 3 * p + w) (3 * p + w)
def CW (ec : Nat) (eA eB eC eL chg aw : Nat → Int32) (p g w : Nat) (ws : List (Nat × Nat)) : Prop := w < 3 ∧ aw (3 * p + w) < 1000000 ∧ (∀ w' : Nat, w' < 3 → aw (3 * p + w) ≤ aw (3 * p + w')) ∧ (∀ w' : Nat, w' < w → ¬ aw (3 * p + w') = aw (3 * p + w)) ∧ Wy (TC ec eA eB eC eL chg aw) (EC ec eA eB eC eL chg aw) g ws (fun x => x = 3 * p + w) (3 * p + w)
theorem cut_lt6 {far aw : Nat → Int32} (haw : ∀ v, v < 36 → aw v = cut6 far v) (hfb : ∀ v, v < 36 → far v < 1000000000 → far v < 1000000) {v : Nat} (hv : v < 36) : (aw v < 1000000 ↔ far v < 1000000000) ∧ (far v < 1000000000 → aw v = far v) := by
  rw [haw v hv]
  unfold cut6
  by_cases h : far v < 1000000000
  · rw [if_pos h]
    exact ⟨⟨fun _ => h, fun _ => hfb v hv h⟩, fun _ => rfl⟩
  · rw [if_neg h]
    exact ⟨⟨fun q => absurd q (by decide), fun q => absurd q h⟩, fun q => absurd q h⟩
theorem Way_core {L ec K : Nat} {p2 tons : Int32} {line : Nat → Nat → Int32} {lines coin chg eA eB eC eL changes coins left far aw : Nat → Int32} (hE : EgL lines coin p2 (fun l _ => l < L) K eA eB eC eL ec) (hb : ∀ l, l < L → (tq p2 l = true ↔ (line l 6 = 0 ∧ ¬ left l < tons))) (hL20 : L ≤ 20) (hl : ∀ l, l < L → ∀ c, c < 6 → line l c = lines (7 * l + c)) (hco : ∀ w, w < 3 → coins w = coin w) (hch : ∀ p, p < 12 → changes p = chg p) (hLn : LnM line) (hc9 : AI 0 9 coins) (hc99 : AI 0 99 changes) (hA : AI 0 1000000000 far) (haw : ∀ v, v < 36 → aw v = cut6 far v) (hfb : ∀ v, v < 36 → far v < 1000000000 → far v < 1000000) {p g w w' : Nat} {ws ws' : List (Nat × Nat)} (hp : p < 12) (hF : FW L line changes coins left far tons p g w ws) (hCw : CW ec eA eB eC eL chg aw p g w' ws') : w = w' ∧ ws = ws' := by
  obtain ⟨f2, f3, f4, f5, f6⟩ := hF
  obtain ⟨c2, c3, c4, c5, c6⟩ := hCw
  have a3 := (cut_lt6 haw hfb (by omega)).1.mp c3
  have ea := (cut_lt6 haw hfb (v := 3 * p + w) (by omega)).2 f3
  have ea' := (cut_lt6 haw hfb (v := 3 * p + w') (by omega)).2 a3
  have em : far (3 * p + w) = far (3 * p + w') := by
    refine Int32.le_antisymm (f4 w' c2) ?_
    have q := c4 w f2
    rw [ea, ea'] at q
    exact q
  have ew : w = w' := by
    rcases Nat.lt_trichotomy w w' with l | l | l
    · exact absurd (by rw [ea, ea']; exact em) (c5 w l)
    · exact l
    · exact absurd em.symm (f5 w' l)
  subst ew
  have hR : ∀ u v, (u < 36 ∧ far u < 1000000000) → (EP L line changes coins left far tons) u v → (v < 36 ∧ far v < 1000000000) := by
    rintro u v ⟨hu, hf⟩ ⟨hv, s, hs, e⟩
    refine ⟨hv, ?_⟩
    rcases Nat.lt_or_ge s 3 with h3 | h3
    · rcases (stpW hu h3).at e with h | ⟨h1, h2, h4⟩
      · have b := (o36 hv).1.1
        rw [h.1] at b
        exact absurd b (by decide)
      · have ev := oinj (by omega) (by omega) h1
        rw [← ev] at h4
        exact (tgt hA haw hfb hu hv hf ⟨(hc99 _).1, Int32.le_trans (hc99 _).2 (by decide)⟩).2 h4
    · obtain ⟨l, rfl⟩ : ∃ l, s = 3 + l := ⟨s - 3, by omega⟩
      rcases (stpL hu (by omega) hLn).at e with h | ⟨v', h1, h2, h4, h5, h6⟩
      · have b := (o36 hv).1.1
        rw [h.1] at b
        exact absurd b (by decide)
      · have ev : v = v' := oinj (by omega) (by omega) h1
        subst ev
        exact (tgt hA haw hfb hu hv hf (mc9 (hLn l 3) (hc9 _))).2 h6
  have tt : ∀ u s v, (u < 36 ∧ far u < 1000000000) → ((T7 L line changes coins left far tons) u s v ↔ (TC ec eA eB eC eL chg aw) u s v) := fun u s v h => T7_TC hE hb hL20 hl hco hch hLn hc9 hc99 hA haw hfb h.1 h.2
  have ee : ∀ u v, (u < 36 ∧ far u < 1000000000) → ((EP L line changes coins left far tons) u v ↔ (EC ec eA eB eC eL chg aw) u v) := by
    intro u v h
    constructor
    · rintro ⟨hv, s, hs, e⟩
      exact ⟨s, (tt u s v h).mp ⟨hv, hs, e⟩⟩
    · rintro ⟨s, hs⟩
      exact ((tt u s v h).mpr hs).e
  have wc := Wy.cong (R := fun u => u < 36 ∧ far u < 1000000000) tt ee hR T7.e ws _ _ ⟨by omega, f3⟩ f6
  have hdet : ∀ u s v v', (TC ec eA eB eC eL chg aw) u s v → (TC ec eA eB eC eL chg aw) u s v' → v = v' := by
    rintro u s v v' ⟨_, a | ⟨e, a1, a2, a3, _⟩⟩ ⟨_, b | ⟨e', b1, b2, b3, _⟩⟩
    · rw [a.2.1, b.2.1]
    · omega
    · omega
    · obtain ⟨l, w1, q1, q2, q3, ⟨q4, q5, _⟩, q6, q7⟩ := hE.1 e a1
      obtain ⟨l', w2, r1, r2, r3, ⟨r4, r5, _⟩, r6, r7⟩ := hE.1 e' b1
      rw [q7, ocl (by omega)] at a2
      rw [r7, ocl (by omega)] at b2
      have el : l = l' := by omega
      subst el
      unfold Oe at a3 b3
      rw [q4, q5] at a3
      rw [r4, r5] at b3
      omega
  exact ⟨rfl, Wy.uniq hdet _ _ _ _ wc c6⟩
/-- a goods' way on each side: none, or the width at first and the steps -/
def RGood (L : Nat) (line : Nat → Nat → Int32) (changes coins left : Nat → Int32) (tons : Int32) (p g : Nat) (o : Option (Nat × List (Nat × Nat))) : Prop := ∃ far, (AI 0 1000000000 far ∧ At (Ed L line changes coins left tons) (fun u => u / 3 = g) far ∧ (∀ l : Nat, l < L → ∀ w : Nat, w < 3 → OKl line coins left tons far l w) ∧ (∀ m : Nat, m < 36 → ∀ w : Nat, w < 3 → OKc changes far m w)) ∧ ((o = none ∧ ∀ w : Nat, w < 3 → 1000000000 ≤ far (3 * p + w)) ∨ ∃ w ws, o = some (w, ws) ∧ FW L line changes coins left far tons p g w ws)
def CGood (ec : Nat) (eA eB eC eL chg T : Nat → Int32) (p g : Nat) (o : Option (Nat × List (Nat × Nat))) : Prop := ∃ aw, (∀ v, v < 36 → aw v = T v) ∧ ((o = none ∧ ∀ w : Nat, w < 3 → 1000000 ≤ aw (3 * p + w)) ∨ ∃ w ws, o = some (w, ws) ∧ CW ec eA eB eC eL chg aw p g w ws)
theorem RC_eq {L ec K : Nat} {p2 tons : Int32} {line : Nat → Nat → Int32} {lines coin chg eA eB eC eL changes coins left T : Nat → Int32} {p g : Nat} {o o' : Option (Nat × List (Nat × Nat))} (hE : EgL lines coin p2 (fun l _ => l < L) K eA eB eC eL ec) (hb : ∀ l, l < L → (tq p2 l = true ↔ (line l 6 = 0 ∧ ¬ left l < tons))) (hL20 : L ≤ 20) (hl : ∀ l, l < L → ∀ c, c < 6 → line l c = lines (7 * l + c)) (hco : ∀ w, w < 3 → coins w = coin w) (hch : ∀ p, p < 12 → changes p = chg p) (hLn : LnM line) (hc9 : AI 0 9 coins) (hc99 : AI 0 99 changes) (hp : p < 12) (hg : g < 12) (hT : TF (Ed L line changes coins left tons) (fun u => u / 3 = g) T) (hD : ∀ u v c, Ed L line changes coins left tons u v c → (u < 36 ∧ v < 36 ∧ c ≤ 999) ∧ 0 ≤ c) (h : RGood L line changes coins left tons p g o) (h' : CGood ec eA eB eC eL chg T p g o') : o = o' := by
  obtain ⟨far, ⟨hA, hAt, hO, hC⟩, h⟩ := h
  obtain ⟨aw, ha, h'⟩ := h'
  have hF := FxD_far hA hLn hc9 hc99 hO hC
  have hG36 : ∀ u, u / 3 = g → u < 36 := fun u hu => by omega
  have g0 : 3 * g / 3 = g := by omega
  have tf := TF_far (g0 := 3 * g) hA hAt hF (fun u v c q => (hD u v c q).1) (fun u v c q => (hD u v c q).2) hG36 g0
  have haw : ∀ v, v < 36 → aw v = cut6 far v := fun v hv => (ha v hv).trans (TF_uniq hT tf v hv)
  have hfb : ∀ v, v < 36 → far v < 1000000000 → far v < 1000000 := fun v hv q => far_lt (g0 := 3 * g) hAt hF (fun u v c q => (hD u v c q).1) hG36 g0 hv q
  rcases h with ⟨e, h⟩ | ⟨w, ws, e, h⟩ <;> rcases h' with ⟨e', h'⟩ | ⟨w', ws', e', h'⟩
  · rw [e, e']
  · exact absurd (h w' h'.1) (Int32.not_le.mpr ((cut_lt6 haw hfb (by have q := h'.1; omega)).1.mp h'.2.1))
  · exact absurd (h' w h.1) (Int32.not_le.mpr ((cut_lt6 haw hfb (by have q := h.1; omega)).1.mpr h.2.1))
  · obtain ⟨a, b⟩ := Way_core hE hb hL20 hl hco hch hLn hc9 hc99 hA haw hfb hp h h'
    rw [e, e', a, b]
theorem FWay.good {L : Nat} {line : Nat → Nat → Int32} {changes coins left far : Nat → Int32} {tons : Int32} {p g : Nat} {r steps : Int32} {way : Nat → Int32} (hx : AI 0 1000000000 far ∧ At (Ed L line changes coins left tons) (fun u => u / 3 = g) far ∧ (∀ l : Nat, l < L → ∀ w : Nat, w < 3 → OKl line coins left tons far l w) ∧ (∀ m : Nat, m < 36 → ∀ w : Nat, w < 3 → OKc changes far m w)) (h : FWay L line changes coins left far tons p g r way steps) : (r = 0 ∧ RGood L line changes coins left tons p g none) ∨ (r = 1 ∧ ∃ w ws, RGood L line changes coins left tons p g (some (w, ws)) ∧ (w < 3 ∧ ∀ q ∈ ws, q.1 < 3 + L) ∧ way 0 = Int32.ofNat w ∧ Arr way ws ∧ (steps = Int32.ofNat (ws.length + 1) ∧ ws.length ≤ 36)) := by
  rcases h with ⟨f1, f2⟩ | ⟨f1, w, ws, f2, f3, f4, f5, f6, f7, f8, f9⟩
  · exact Or.inl ⟨f1, far, hx, Or.inl ⟨rfl, f2⟩⟩
  · refine Or.inr ⟨f1, w, ws, ⟨far, hx, Or.inr ⟨w, ws, rfl, f2, f3, f4, f5, f6⟩⟩, ⟨f2, ?_⟩, f7, f8, f9⟩
    clear f2 f3 f4 f5 f7 f8 f9
    generalize (fun x => x = 3 * p + w) = M at f6
    generalize 3 * p + w = u at f6
    induction ws generalizing M u with
    | nil => intro q hq; cases hq
    | cons a r ih =>
      intro q hq
      rcases List.mem_cons.mp hq with e | e
      · rw [e]
        exact f6.2.1.1.2.1
      · exact ih _ _ f6.2.2 q e
theorem CWay.good {ec : Nat} {eA eB eC eL chg aw T : Nat → Int32} {p g : Nat} {r sc : Int32} {st nd : Nat → Int32} (hx : ∀ v, v < 36 → aw v = T v) (h : CWay ec eA eB eC eL chg aw p g r st nd sc) : (r = 0 ∧ CGood ec eA eB eC eL chg T p g none) ∨ (r = 1 ∧ ∃ w ws, CGood ec eA eB eC eL chg T p g (some (w, ws)) ∧ w < 3 ∧ (st 0 = Int32.ofNat w ∧ nd 0 = Int32.ofNat (3 * p + w)) ∧ (Arr st ws ∧ ArrN nd ws) ∧ (sc = Int32.ofNat (ws.length + 1) ∧ ws.length + 1 ≤ 36)) := by
  rcases h with ⟨f1, f2⟩ | ⟨f1, w, ws, f2, f3, f4, f5, f6, f7, f8, f9⟩
  · exact Or.inl ⟨f1, aw, hx, Or.inl ⟨rfl, f2⟩⟩
  · exact Or.inr ⟨f1, w, ws, ⟨aw, hx, Or.inr ⟨w, ws, rfl, f2, f3, f4, f5, f6⟩⟩, f2, f7, f8, f9⟩
end
section
/-! what an owner earns -/
theorem Pf.and {α : Type} {x : Option α} {P Q : α → Prop} (h : Pf x P) (h' : Pf x Q) : Pf x (fun r => P r ∧ Q r) := fun r e => ⟨h r e, h' r e⟩
theorem oN {k : Nat} (hk : k < 1000) : 0 ≤ Int32.ofNat k ∧ (Int32.ofNat k).toNatClampNeg = k ∧ (Int32.ofNat k).toInt = (k : Int) := by
  have e : (Int32.ofNat k).toInt = (k : Int) := Int32.toInt_ofNat_of_lt (by omega)
  have z0 : (0 : Int32).toInt = 0 := by decide
  exact ⟨Int32.le_iff_toInt_le.mpr (by rw [z0, e]; omega), ocl hk, e⟩
theorem oN_le {a b : Nat} (ha : a < 1000) (hb : b < 1000) : Int32.ofNat a ≤ Int32.ofNat b ↔ a ≤ b := by
  rw [Int32.le_iff_toInt_le, (oN ha).2.2, (oN hb).2.2]
  omega
theorem oN_lt {a b : Nat} (ha : a < 1000) (hb : b < 1000) : Int32.ofNat a < Int32.ofNat b ↔ a < b := by
  rw [Int32.lt_iff_toInt_lt, (oN ha).2.2, (oN hb).2.2]
  omega
/-- along a way -/
def payF (line : Nat → Nat → Int32) (p tons acc : Int32) (ws : List (Nat × Nat)) : Int32 := ws.foldl (fun a q => if 3 ≤ q.1 ∧ line (q.1 - 3) 5 = p then a + tons * line (q.1 - 3) 3 else a) acc
def payO (line : Nat → Nat → Int32) (p tons acc : Int32) (o : Option (Nat × List (Nat × Nat))) : Int32 := match o with | none => acc | some x => payF line p tons acc x.2
def earnF (line good : Nat → Nat → Int32) (WS : Nat → Option (Nat × List (Nat × Nat))) (p : Int32) : Nat → Int32
  | 0 => 0
  | g + 1 => payO line p (good g 2) (earnF line good WS p g) (WS g)
theorem earnF_congr {line good : Nat → Nat → Int32} {WS WS' : Nat → Option (Nat × List (Nat × Nat))} {p : Int32} : ∀ G : Nat, (∀ g, g < G → WS g = WS' g) → earnF line good WS p G = earnF line good WS' p G := by
  intro G
  induction G with
  | zero => intro _; rfl
  | succ G ih =>
    intro h
    unfold earnF
    rw [ih (fun g hg => h g (by omega)), h G (by omega)]
theorem payF_step {line : Nat → Nat → Int32} {p tons acc : Int32} {ws : List (Nat × Nat)} {k : Nat} {q : Nat × Nat} (h : ws[k]? = some q) : payF line p tons acc (ws.take (k + 1)) = if 3 ≤ q.1 ∧ line (q.1 - 3) 5 = p then payF line p tons acc (ws.take k) + tons * line (q.1 - 3) 3 else payF line p tons acc (ws.take k) := by
  unfold payF
  rw [List.take_succ, h, List.foldl_append]
  rfl
theorem get_some {ws : List (Nat × Nat)} {k : Nat} (h : k < ws.length) : ∃ q, ws[k]? = some q ∧ q ∈ ws := ⟨ws[k], List.getElem?_eq_getElem h, List.getElem_mem h⟩
/-- the reference's goods -/
theorem findGoodsP {n : Nat} {x0_shelf : (Nat → Int32)} {x0_rowSort : (Nat → Int32)} {x0_rowSize : (Nat → Int32)} {x0_rows : (Nat → Nat → Int64)} {x0_moved : (Nat → Int64)} {x0_shown : (Nat → Int32)} {x0_tape : (Nat → Int32)} {x0_tapeSize : Int32} {x0_refused : (Nat → Int32)} {x0_lines : Int32} {x0_line : (Nat → Nat → Int32)} {x0_changes : (Nat → Int32)} {x0_coins : (Nat → Int32)} {x0_goods : Int32} {x0_good : (Nat → Nat → Int32)} {x0_works : Int32} {x0_work : (Nat → Nat → Int32)} {x0_years : Int32} {x0_gone : Int32} {x0_spent : Int32} {x0_at : Int32} {x0_token : Int32} {x0_from : Int32} {x0_figures : Int64} {x0_fault : Int32} {x0_numbers : (Nat → Int32)} {x0_statements : Int32} {x0_left : (Nat → Int32)} {x0_far : (Nat → Int32)} {x0_tons : Int32} {x0_way : (Nat → Int32)} {x0_steps : Int32} {x0_met : Int64} {x0_queue : (Nat → Int32)} {x0_totals : (Nat → Int32)} {p1 : Int32} (hn : 1000000000000 ≤ n) (h_x0_shelf : (AI 0 2 x0_shelf)) (h_x0_rowSize : (AI 0 40 x0_rowSize)) (h_x0_tapeSize : (0 ≤ x0_tapeSize ∧ x0_tapeSize ≤ 250)) (h_x0_lines : (0 ≤ x0_lines ∧ x0_lines ≤ 20)) (h_x0_line : (LnM x0_line)) (h_x0_changes : (AI 0 99 x0_changes)) (h_x0_coins : (AI 0 9 x0_coins)) (h_x0_goods : (0 ≤ x0_goods ∧ x0_goods ≤ 8)) (h_x0_good : (GdM x0_good)) (h_x0_works : (0 ≤ x0_works ∧ x0_works ≤ 7)) (h_x0_work : (WkM x0_work)) (h_x0_years : (1 ≤ x0_years ∧ x0_years ≤ 30)) (h_x0_from : (0 ≤ x0_from ∧ x0_from ≤ 250)) (h_x0_far : (AI 0 1000000000 x0_far)) (h_x0_way : (AI 0 22 x0_way)) (h_x0_steps : (0 ≤ x0_steps ∧ x0_steps ≤ 37)) (h_x0_queue : (AI 0 35 x0_queue)) (hp : 0 ≤ p1 ∧ p1 ≤ 7) : Pf (fX7_findGoods n (x0_shelf, x0_rowSort, x0_rowSize, x0_rows, x0_moved, x0_shown, x0_tape, x0_tapeSize, x0_refused, x0_lines, x0_line, x0_changes, x0_coins, x0_goods, x0_good, x0_works, x0_work, x0_years, x0_gone, x0_spent, x0_at, x0_token, x0_from, x0_figures, x0_fault, x0_numbers, x0_statements, x0_left, x0_far, x0_tons, x0_way, x0_steps, x0_met, x0_queue, x0_totals) p1) (fun r => (AI 0 1000000000 r.2.2.1 ∧ AI 0 22 r.2.2.2.2.1 ∧ (0 ≤ r.2.2.2.2.2.1 ∧ r.2.2.2.2.2.1 ≤ 37) ∧ AI 0 35 r.2.2.2.2.2.2.2) ∧ (∀ l, l < x0_lines.toNatClampNeg → ¬ r.2.1 l < 0) ∧ ((r.1 = 0 ∧ RGood x0_lines.toNatClampNeg x0_line x0_changes x0_coins r.2.1 0 (x0_good p1.toNatClampNeg 0).toNatClampNeg (x0_good p1.toNatClampNeg 1).toNatClampNeg none) ∨ (¬ r.1 = 0 ∧ ∃ w ws, RGood x0_lines.toNatClampNeg x0_line x0_changes x0_coins r.2.1 0 (x0_good p1.toNatClampNeg 0).toNatClampNeg (x0_good p1.toNatClampNeg 1).toNatClampNeg (some (w, ws)) ∧ (w < 3 ∧ ∀ q ∈ ws, q.1 < 3 + x0_lines.toNatClampNeg) ∧ r.2.2.2.2.1 0 = Int32.ofNat w ∧ Arr r.2.2.2.2.1 ws ∧ (r.2.2.2.2.2.1 = Int32.ofNat (ws.length + 1) ∧ ws.length ≤ 36)))) := by
  have gp : ∀ c, c < 2 → 0 ≤ x0_good p1.toNatClampNeg c ∧ x0_good p1.toNatClampNeg c ≤ 11 := by
    intro c hc
    have b := h_x0_good p1.toNatClampNeg c
    rcases (by omega : c = 0 ∨ c = 1) with e | e
    · rw [e] at b ⊢
      exact b
    · rw [e] at b ⊢
      exact b
  unfold fX7_findGoods
  dsimp only [u35]
  refine Pf.bindP (Pf.sf (refillS hn h_x0_lines)) (fun g1 hg1 => ?_)
  have hl0 : ∀ l, l < x0_lines.toNatClampNeg → ¬ g1 l < 0 := by
    intro l hl
    rw [hg1 l hl]
    have b := h_x0_line l 4
    exact Int32.not_lt.mpr b.1
  refine Pf.ckb (fun q3 e3 _ => Pf.rdb (fun v4 e4 _ => Pf.ckb (fun q5 e5 _ => Pf.rdb (fun v6 e6 _ => ?_))))
  rw [e3] at e4
  rw [e5] at e6
  have e4 : v4 = x0_good p1.toNatClampNeg 0 := e4
  have e6 : v6 = x0_good p1.toNatClampNeg 1 := e6
  refine Pf.bindP (Pf.and (findWayP (x0_left := g1) (p3 := 0) hn h_x0_shelf h_x0_rowSize h_x0_tapeSize h_x0_lines h_x0_line h_x0_changes h_x0_coins h_x0_goods h_x0_good h_x0_works h_x0_work h_x0_years h_x0_from h_x0_far h_x0_way h_x0_steps h_x0_queue (by rw [e4]; exact gp 0 (by decide)) (by rw [e6]; exact gp 1 (by decide))) (Pf.sf (sX7_findWay (x0_left := g1) (p3 := 0) hn h_x0_shelf h_x0_rowSize h_x0_tapeSize h_x0_lines h_x0_line h_x0_changes h_x0_coins h_x0_goods h_x0_good h_x0_works h_x0_work h_x0_years h_x0_from h_x0_far h_x0_way h_x0_steps h_x0_queue (by rw [e4]; exact gp 0 (by decide)) (by rw [e6]; exact gp 1 (by decide))))) (fun r hr => ?_)
  obtain ⟨v7, g9, g10, g11, g12, g13, g14⟩ := r
  obtain ⟨⟨⟨a1, a2, ⟨a3, a4⟩, _⟩, hF⟩, b1, b2, b3, b4, b5⟩ := hr
  dsimp only [u2, u6]
  refine Pf.bindP (P := fun v => v = v7) (fun r e => ?_) (fun v16 e16 => ?_)
  · unfold zb at e
    split at e
    · exact (Option.some.inj e).symm
    · cases e
  refine Pf.ok ⟨⟨b2, b3, b4, b5⟩, hl0, ?_⟩
  rw [e4, e6] at hF
  rw [e6] at a2
  rcases FWay.good ⟨a1, a2, a3, a4⟩ hF with ⟨h1, h2⟩ | ⟨h1, h2⟩
  · exact Or.inl ⟨e16.trans h1, h2⟩
  · exact Or.inr ⟨by show ¬ v16 = 0; rw [e16, show v7 = 1 from h1]; decide, h2⟩
theorem payRP {n : Nat} {p1 z2 z3 steps : Int32} {line good : Nat → Nat → Int32} {way : Nat → Int32} {ws : List (Nat × Nat)} {L : Nat} (hL : L ≤ 20) (hs : ∀ q ∈ ws, q.1 < 3 + L) (hAr : Arr way ws) (hst : steps = Int32.ofNat (ws.length + 1) ∧ ws.length ≤ 36) : Pf (lp (u2 (fX7_earned_s23 p1 line good z3 way steps)) n (z2, 1)) (fun r => r = payF line p1 (good z3.toNatClampNeg 2) z2 ws) := by
  refine Pf.loop (fun z => ∃ k : Nat, k ≤ ws.length ∧ z.2 = Int32.ofNat (k + 1) ∧ z.1 = payF line p1 (good z3.toNatClampNeg 2) z2 (ws.take k)) (fun z hz => ?_) n _ ⟨0, Nat.zero_le _, rfl, rfl⟩
  obtain ⟨z31, z32⟩ := z
  obtain ⟨k, hk, e2, e1⟩ := hz
  have e2 : z32 = Int32.ofNat (k + 1) := e2
  have e1 : z31 = payF line p1 (good z3.toNatClampNeg 2) z2 (ws.take k) := e1
  have l36 := hst.2
  dsimp only [u2]
  unfold fX7_earned_s23
  rw [hst.1, e2]
  refine Pf.ite (fun h => Pf.inr (show _ = _ from ?_)) (fun h => ?_)
  · have q := (oN_le (by omega) (by omega)).mp h
    have e : k = ws.length := by omega
    rw [e1, e, List.take_length]
  have q : ¬ ws.length + 1 ≤ k + 1 := fun h2 => h ((oN_le (by omega) (by omega)).mpr h2)
  obtain ⟨x, hx, hm⟩ := get_some (ws := ws) (k := k) (by omega)
  have hx3 := hs x hm
  have ew : way (k + 1) = Int32.ofNat x.1 := hAr k x hx
  have st := payF_step (line := line) (p := p1) (tons := good z3.toNatClampNeg 2) (acc := z2) hx
  have nx : Int32.ofNat (k + 1) + 1 = Int32.ofNat (k + 1 + 1) := (o_succ _).symm
  have lt3 : Int32.ofNat x.1 < 3 ↔ x.1 < 3 := oN_lt (b := 3) (by omega) (by decide)
  have no : ¬ (3 ≤ x.1 ∧ line (x.1 - 3) 5 = p1) → Pf (fX7_earned_j67 line good z3 way z31 (Int32.ofNat (k + 1))) (fun r => Sum.elim (fun z : Int32 × Int32 => ∃ k : Nat, k ≤ ws.length ∧ z.2 = Int32.ofNat (k + 1) ∧ z.1 = payF line p1 (good z3.toNatClampNeg 2) z2 (ws.take k)) (fun r => r = payF line p1 (good z3.toNatClampNeg 2) z2 ws) r) := by
    intro hn
    unfold fX7_earned_j67 fX7_earned_j68
    rw [if_pos rfl]
    refine Pf.inl ⟨k + 1, by omega, nx, ?_⟩
    show z31 + 0 = _
    rw [st, if_neg hn, Int32.add_zero, e1]
  refine Pf.rdb (fun v35 e35 _ => ?_)
  rw [ocl (a := k + 1) (by omega), ew] at e35
  rw [e35]
  refine Pf.ite (fun h3 => no (fun q => absurd q.1 (Nat.not_le.mpr (lt3.mp h3)))) (fun h3 => ?_)
  have x3 : 3 ≤ x.1 := Nat.not_lt.mp (fun q => h3 (lt3.mpr q))
  have e3 : Int32.ofNat x.1 - 3 = Int32.ofNat (x.1 - 3) := by
    have e := o20 (l := x.1 - 3) (by omega)
    have ee : 3 + (x.1 - 3) = x.1 := by omega
    rw [ee] at e
    exact e.2.1
  refine Pf.rdb (fun v42 e42 _ => ?_)
  rw [ocl (a := k + 1) (by omega), ew] at e42
  rw [e42, e3]
  refine Pf.ckb (fun q43 e43 _ => ?_)
  rw [ocl (by omega)] at e43
  refine Pf.rdb (fun v44 e44 _ => ?_)
  rw [e43] at e44
  have e44 : v44 = line (x.1 - 3) 5 := e44
  refine Pf.ite (fun hp => ?_) (fun hp => no (fun q => hp (by rw [e44]; exact q.2)))
  unfold fX7_earned_j68
  rw [if_neg (by decide)]
  refine Pf.ckb (fun q37 e37 _ => Pf.rdb (fun v38 e38 _ => Pf.rdb (fun v39 e39 _ => ?_)))
  rw [ocl (a := k + 1) (by omega), ew] at e39
  rw [e39, e3]
  refine Pf.ckb (fun q40 e40 _ => Pf.rdb (fun v41 e41 _ => ?_))
  rw [ocl (by omega)] at e40
  rw [e40] at e41
  rw [e37] at e38
  have e41 : v41 = line (x.1 - 3) 3 := e41
  have e38 : v38 = good z3.toNatClampNeg 2 := e38
  refine Pf.inl ⟨k + 1, by omega, nx, ?_⟩
  show z31 + v38 * v41 = _
  rw [st, if_pos ⟨x3, by rw [← e44]; exact hp⟩, e1, e38, e41]

theorem earnedP {n : Nat} {x0_shelf : (Nat → Int32)} {x0_rowSort : (Nat → Int32)} {x0_rowSize : (Nat → Int32)} {x0_rows : (Nat → Nat → Int64)} {x0_moved : (Nat → Int64)} {x0_shown : (Nat → Int32)} {x0_tape : (Nat → Int32)} {x0_tapeSize : Int32} {x0_refused : (Nat → Int32)} {x0_lines : Int32} {x0_line : (Nat → Nat → Int32)} {x0_changes : (Nat → Int32)} {x0_coins : (Nat → Int32)} {x0_goods : Int32} {x0_good : (Nat → Nat → Int32)} {x0_works : Int32} {x0_work : (Nat → Nat → Int32)} {x0_years : Int32} {x0_gone : Int32} {x0_spent : Int32} {x0_at : Int32} {x0_token : Int32} {x0_from : Int32} {x0_figures : Int64} {x0_fault : Int32} {x0_numbers : (Nat → Int32)} {x0_statements : Int32} {x0_left : (Nat → Int32)} {x0_far : (Nat → Int32)} {x0_tons : Int32} {x0_way : (Nat → Int32)} {x0_steps : Int32} {x0_met : Int64} {x0_queue : (Nat → Int32)} {x0_totals : (Nat → Int32)} {p1 : Int32} (hn : 1000000000000 ≤ n) (h_x0_shelf : (AI 0 2 x0_shelf)) (h_x0_rowSize : (AI 0 40 x0_rowSize)) (h_x0_tapeSize : (0 ≤ x0_tapeSize ∧ x0_tapeSize ≤ 250)) (h_x0_lines : (0 ≤ x0_lines ∧ x0_lines ≤ 20)) (h_x0_line : (LnM x0_line)) (h_x0_changes : (AI 0 99 x0_changes)) (h_x0_coins : (AI 0 9 x0_coins)) (h_x0_goods : (0 ≤ x0_goods ∧ x0_goods ≤ 8)) (h_x0_good : (GdM x0_good)) (h_x0_works : (0 ≤ x0_works ∧ x0_works ≤ 7)) (h_x0_work : (WkM x0_work)) (h_x0_years : (1 ≤ x0_years ∧ x0_years ≤ 30)) (h_x0_from : (0 ≤ x0_from ∧ x0_from ≤ 250)) (h_x0_far : (AI 0 1000000000 x0_far)) (h_x0_way : (AI 0 22 x0_way)) (h_x0_steps : (0 ≤ x0_steps ∧ x0_steps ≤ 37)) (h_x0_queue : (AI 0 35 x0_queue)) : Pf (fX7_earned n (x0_shelf, x0_rowSort, x0_rowSize, x0_rows, x0_moved, x0_shown, x0_tape, x0_tapeSize, x0_refused, x0_lines, x0_line, x0_changes, x0_coins, x0_goods, x0_good, x0_works, x0_work, x0_years, x0_gone, x0_spent, x0_at, x0_token, x0_from, x0_figures, x0_fault, x0_numbers, x0_statements, x0_left, x0_far, x0_tons, x0_way, x0_steps, x0_met, x0_queue, x0_totals) p1) (fun r => ∃ WS : Nat → Option (Nat × List (Nat × Nat)), (∀ g, g < x0_goods.toNatClampNeg → ∃ left, (∀ l, l < x0_lines.toNatClampNeg → ¬ left l < 0) ∧ RGood x0_lines.toNatClampNeg x0_line x0_changes x0_coins left 0 (x0_good g 0).toNatClampNeg (x0_good g 1).toNatClampNeg (WS g)) ∧ r.1 = earnF x0_line x0_good WS p1 x0_goods.toNatClampNeg) := by
  have hL : x0_lines.toNatClampNeg ≤ 20 := by
    have a := i32_cl h_x0_lines.1
    have b := Int32.le_iff_toInt_le.mp h_x0_lines.2
    have z20 : (20 : Int32).toInt = 20 := by decide
    rw [z20] at b
    omega
  unfold fX7_earned
  dsimp only [u35]
  refine Pf.bindP (P := fun r => ∃ WS : Nat → Option (Nat × List (Nat × Nat)), (∀ g, g < x0_goods.toNatClampNeg → ∃ left, (∀ l, l < x0_lines.toNatClampNeg → ¬ left l < 0) ∧ RGood x0_lines.toNatClampNeg x0_line x0_changes x0_coins left 0 (x0_good g 0).toNatClampNeg (x0_good g 1).toNatClampNeg (WS g)) ∧ r.1 = earnF x0_line x0_good WS p1 x0_goods.toNatClampNeg) ?_ (fun r hr => Pf.ok hr)
  refine Pf.loop (fun z => (0 ≤ z.2.1 ∧ z.2.1 ≤ x0_goods) ∧ AI 0 1000000000 z.2.2.2.1 ∧ AI 0 22 z.2.2.2.2.2.1 ∧ (0 ≤ z.2.2.2.2.2.2.1 ∧ z.2.2.2.2.2.2.1 ≤ 37) ∧ AI 0 35 z.2.2.2.2.2.2.2.2 ∧ ∃ WS : Nat → Option (Nat × List (Nat × Nat)), (∀ g, g < z.2.1.toNatClampNeg → ∃ left, (∀ l, l < x0_lines.toNatClampNeg → ¬ left l < 0) ∧ RGood x0_lines.toNatClampNeg x0_line x0_changes x0_coins left 0 (x0_good g 0).toNatClampNeg (x0_good g 1).toNatClampNeg (WS g)) ∧ z.1 = earnF x0_line x0_good WS p1 z.2.1.toNatClampNeg) (fun z hz => ?_) n _ ⟨⟨Int32.le_refl _, h_x0_goods.1⟩, h_x0_far, h_x0_way, h_x0_steps, h_x0_queue, fun _ => none, fun g h => absurd h (Nat.not_lt_zero _), rfl⟩
  obtain ⟨z2, z3, z4, z5, z6, z7, z8, z9, z10⟩ := z
  obtain ⟨⟨h3, h3'⟩, h5, h7, h8, h10, WS, hW, hz2⟩ := hz
  have h3 : 0 ≤ z3 := h3
  have h3' : z3 ≤ x0_goods := h3'
  have h5 : AI 0 1000000000 z5 := h5
  have h7 : AI 0 22 z7 := h7
  have h8 : 0 ≤ z8 ∧ z8 ≤ 37 := h8
  have h10 : AI 0 35 z10 := h10
  have hW : ∀ g, g < z3.toNatClampNeg → ∃ left, (∀ l, l < x0_lines.toNatClampNeg → ¬ left l < 0) ∧ RGood x0_lines.toNatClampNeg x0_line x0_changes x0_coins left 0 (x0_good g 0).toNatClampNeg (x0_good g 1).toNatClampNeg (WS g) := hW
  have hz2 : z2 = earnF x0_line x0_good WS p1 z3.toNatClampNeg := hz2
  dsimp only [u9]
  unfold fX7_earned_s4
  refine Pf.ite (fun hc => Pf.inr (show _ from ⟨WS, fun g hg => hW g ?_, ?_⟩)) (fun hc => ?_)
  · rw [Int32.le_antisymm h3' hc]
    exact hg
  · show z2 = _
    rw [hz2, Int32.le_antisymm h3' hc]
  obtain ⟨p3, q3, l3⟩ := up1 h3 (Int32.le_trans h_x0_goods.2 (by decide)) hc
  have b3 : 0 ≤ z3 ∧ z3 ≤ 7 := ⟨h3, by
    have a := h_x0_goods.2
    clear hW hz2
    grind⟩
  have n3 : z3 + 1 ≤ x0_goods := by
    have a := h_x0_goods
    clear hW hz2
    grind
  refine Pf.bindP (findGoodsP (x0_left := z4) (x0_tons := z6) (x0_met := z9) hn h_x0_shelf h_x0_rowSize h_x0_tapeSize h_x0_lines h_x0_line h_x0_changes h_x0_coins h_x0_goods h_x0_good h_x0_works h_x0_work h_x0_years h_x0_from h5 h7 h8 h10 b3) (fun r hr => ?_)
  obtain ⟨v20, g22, g23, g24, g25, g26, g27, g28⟩ := r
  obtain ⟨⟨r1, r2, r3, r4⟩, r5, r6⟩ := hr
  have r1 : AI 0 1000000000 g23 := r1
  have r2 : AI 0 22 g25 := r2
  have r3 : 0 ≤ g26 ∧ g26 ≤ 37 := r3
  have r4 : AI 0 35 g28 := r4
  have upd : ∀ o : Option (Nat × List (Nat × Nat)), RGood x0_lines.toNatClampNeg x0_line x0_changes x0_coins g22 0 (x0_good z3.toNatClampNeg 0).toNatClampNeg (x0_good z3.toNatClampNeg 1).toNatClampNeg o → ∀ y : Int32, y = payO x0_line p1 (x0_good z3.toNatClampNeg 2) z2 o → ∃ WS : Nat → Option (Nat × List (Nat × Nat)), (∀ g, g < (z3 + 1).toNatClampNeg → ∃ left, (∀ l, l < x0_lines.toNatClampNeg → ¬ left l < 0) ∧ RGood x0_lines.toNatClampNeg x0_line x0_changes x0_coins left 0 (x0_good g 0).toNatClampNeg (x0_good g 1).toNatClampNeg (WS g)) ∧ y = earnF x0_line x0_good WS p1 (z3 + 1).toNatClampNeg := by
    intro o ho y hy
    refine ⟨fun g => if g = z3.toNatClampNeg then o else WS g, fun g hg => ?_, ?_⟩
    · rw [q3] at hg
      dsimp only
      by_cases e : g = z3.toNatClampNeg
      · rw [if_pos e, e]
        exact ⟨g22, r5, ho⟩
      · rw [if_neg e]
        exact hW g (by omega)
    · rw [q3]
      show y = payO x0_line p1 (x0_good z3.toNatClampNeg 2) (earnF x0_line x0_good (fun g => if g = z3.toNatClampNeg then o else WS g) p1 z3.toNatClampNeg) (if z3.toNatClampNeg = z3.toNatClampNeg then o else WS z3.toNatClampNeg)
      rw [if_pos rfl, earnF_congr (WS' := WS) _ (fun g hg => if_neg (by omega)), ← hz2]
      exact hy
  dsimp only [u2, u7]
  refine Pf.ite (fun hz => ?_) (fun hz => ?_)
  · rcases r6 with ⟨_, h⟩ | ⟨h, _⟩
    · exact Pf.inl ⟨⟨p3, n3⟩, r1, r2, r3, r4, upd none h _ rfl⟩
    · exact absurd hz h
  · rcases r6 with ⟨h, _⟩ | ⟨_, w, ws, h1, ⟨h2, h3⟩, h4, h5, h6⟩
    · exact absurd h hz
    · refine Pf.bindP (payRP hL h3 h5 h6) (fun w34 e34 => ?_)
      exact Pf.inl ⟨⟨p3, n3⟩, r1, r2, r3, r4, upd (some (w, ws)) h1 _ e34⟩
end
section
/-! what an owner earns, the class -/
theorem fill6 {n : Nat} {f : Nat → Int32} : Pf (fJ7_fill_53178 n 6 f 0) (fun r => ∀ k : Nat, k < 6 → r k = 0) := by
  unfold fJ7_fill_53178
  refine Pf.bindP (P := fun r => ∀ k : Nat, k < 6 → r k = 0) ?_ (fun r h => Pf.ok h)
  refine Pf.loop (fun z => ∃ j : Nat, j ≤ 6 ∧ z.1 = Int32.ofNat j ∧ ∀ k : Nat, k < j → z.2 k = 0) (fun z hz => ?_) n _ ⟨0, by decide, rfl, fun k h => absurd h (Nat.not_lt_zero _)⟩
  obtain ⟨z2, z3⟩ := z
  obtain ⟨j, hj, e, h⟩ := hz
  have e : z2 = Int32.ofNat j := e
  have h : ∀ k : Nat, k < j → z3 k = 0 := h
  dsimp only [u2]
  unfold fJ7_fill_53178_s5
  rw [e]
  refine Pf.ite (fun hc => Pf.inr (show _ from fun k hk => h k ?_)) (fun hc => ?_)
  · have q := (oN_le (by decide) (by omega)).mp hc
    omega
  · have q : ¬ 6 ≤ j := fun q => hc ((oN_le (by decide) (by omega)).mpr q)
    refine Pf.wrb (fun f6 e6 _ => Pf.inl ⟨j + 1, by omega, (o_succ j).symm, fun k hk => ?_⟩)
    show f6 k = 0
    rw [e6, ocl (by omega)]
    by_cases ek : k = j
    · rw [ek, va_eq]
    · rw [va_ne _ _ ek]
      exact h k (by omega)
theorem Wy.all {T : Nat → Nat → Nat → Prop} {E : Nat → Nat → Prop} {g : Nat} {P : Nat → Prop} (hT : ∀ u s v, T u s v → P s) : ∀ (a : List (Nat × Nat)) (M : Nat → Prop) (u : Nat), Wy T E g a M u → ∀ q ∈ a, P q.1 := by
  intro a
  induction a with
  | nil => intro M u _ q hq; cases hq
  | cons p a ih =>
    intro M u h q hq
    rcases List.mem_cons.mp hq with e | e
    · rw [e]
      exact hT _ _ _ h.2.1.1
    · exact ih _ _ h.2.2 q e
theorem EgL.ord {lines coin : Nat → Int32} {p2 : Int32} {Q : Nat → Nat → Prop} {K : Nat} {eA eB eC eL : Nat → Int32} {ec : Nat} (h : EgL lines coin p2 Q K eA eB eC eL ec) : ∀ u i j v v2, i < j → j < ec → Oe eA eB i u v → Oe eA eB j u v2 → (eL i).toNatClampNeg < (eL j).toNatClampNeg := by
  intro u i j v v2 hij hj hi hjv
  obtain ⟨l, w, _, hw, _, ⟨a1, a2, _⟩, hl, el⟩ := h.1 i (by omega)
  obtain ⟨l', w', _, hw', _, ⟨b1, b2, _⟩, hl', el'⟩ := h.1 j hj
  have k := h.2.2.1 i j hij hj
  unfold ky at k
  unfold Oe at hi hjv
  rw [a1, a2] at hi
  rw [b1, b2] at hjv
  rw [a1, b1] at k
  omega
theorem lineOnP {x1_edgeA : (Nat → Int32)} {x1_edgeB : (Nat → Int32)} {x1_edgeCost : (Nat → Int32)} {x1_edgeLine : (Nat → Int32)} {x1_change : (Nat → Int32)} {x1_away : (Nat → Int32)} {x1_steps : (Nat → Int32)} {x1_nodes : (Nat → Int32)} {x1_stepCount : Int32} {x1_open : (Nat → Int32)} {x1_openCount : Int32} {x1_seen : Int64} {x1_edgeCount : Int32} {x1_aim : Int32} {ws : List (Nat × Nat)} {k : Nat} {q : Nat × Nat} (hAr : Arr x1_steps ws) (hst : x1_stepCount = Int32.ofNat (ws.length + 1) ∧ ws.length + 1 ≤ 36) (hq : ws[k]? = some q) (hk : k < ws.length) (hq3 : q.1 < 23) : Pf (fX5_lineOn (x1_edgeA, x1_edgeB, x1_edgeCost, x1_edgeLine, x1_change, x1_away, x1_steps, x1_nodes, x1_stepCount, x1_open, x1_openCount, x1_seen, x1_edgeCount, x1_aim) (Int32.ofNat (k + 1))) (fun r => r = if 3 ≤ q.1 then Int32.ofNat (q.1 - 3) else -1) := by
  have ew : x1_steps (k + 1) = Int32.ofNat q.1 := hAr k q hq
  have lt3 : Int32.ofNat q.1 < 3 ↔ q.1 < 3 := oN_lt (b := 3) (by omega) (by decide)
  have e1 : Int32.ofNat (ws.length + 1) - 1 = Int32.ofNat ws.length := by rw [o_succ, Int32.add_sub_cancel]
  unfold fX5_lineOn
  dsimp only [u14]
  rw [hst.1, e1]
  refine Pf.bindP (Pf.sf sX6_within) (fun v1 h1 => ?_)
  refine Pf.ite (fun hz => ?_) (fun _ => ?_)
  · exfalso
    rcases h1 with h | h
    · exact absurd (h.1.symm.trans hz) (by decide)
    · rcases h.2 with a | a
      · have b := (oN_lt (b := 1) (by omega) (by decide)).mp a
        omega
      · have b := (oN_lt (by omega) (by omega)).mp a
        omega
  refine Pf.rdb (fun v3 e3 _ => ?_)
  rw [ocl (a := k + 1) (by omega), ew] at e3
  rw [e3]
  refine Pf.ite (fun h => Pf.ok ?_) (fun h => Pf.rdb (fun v4 e4 _ => Pf.ok ?_))
  · rw [if_neg (fun a => absurd (lt3.mp h) (Nat.not_lt.mpr a))]
  · have x3 : 3 ≤ q.1 := Nat.not_lt.mp (fun a => h (lt3.mpr a))
    rw [ocl (a := k + 1) (by omega), ew] at e4
    rw [if_pos x3, e4]
    have e := o20 (l := q.1 - 3) (by omega)
    have ee : 3 + (q.1 - 3) = q.1 := by omega
    rw [ee] at e
    exact e.2.1

theorem payCP {n : Nat} {x0_left : (Nat → Int32)} {x0_earned : (Nat → Int32)} {x0_turnCost : Int32} {x0_turnWayless : Int32} {x1_edgeA : (Nat → Int32)} {x1_edgeB : (Nat → Int32)} {x1_edgeCost : (Nat → Int32)} {x1_edgeLine : (Nat → Int32)} {x1_change : (Nat → Int32)} {x1_away : (Nat → Int32)} {x1_steps : (Nat → Int32)} {x1_nodes : (Nat → Int32)} {x1_stepCount : Int32} {x1_open : (Nat → Int32)} {x1_openCount : Int32} {x1_seen : Int64} {x1_edgeCount : Int32} {x1_aim : Int32} {x2_lineCount : Int32} {x2_goodsCount : Int32} {x2_workCount : Int32} {x2_years : Int32} {x2_lines : (Nat → Int32)} {x2_goods : (Nat → Int32)} {x2_works : (Nat → Int32)} {x2_change : (Nat → Int32)} {x2_coin : (Nat → Int32)} {x2_knownFree : (Nat → Int32)} {x2_isKnown : Int32} {p2 : Int32} {line : Nat → Nat → Int32} {ws : List (Nat × Nat)} (hlc : 0 ≤ x2_lineCount ∧ x2_lineCount ≤ 20) (hln : LnOk x2_lines) (hl : ∀ l, l < x2_lineCount.toNatClampNeg → ∀ c, c < 7 → ro 7 x2_lines l c = line l c) (hs : ∀ q ∈ ws, q.1 < 3 + x2_lineCount.toNatClampNeg) (hAr : Arr x1_steps ws) (hst : x1_stepCount = Int32.ofNat (ws.length + 1) ∧ ws.length + 1 ≤ 36) : Pf (fX4_payOwnersB n (x0_left, x0_earned, x0_turnCost, x0_turnWayless) (x1_edgeA, x1_edgeB, x1_edgeCost, x1_edgeLine, x1_change, x1_away, x1_steps, x1_nodes, x1_stepCount, x1_open, x1_openCount, x1_seen, x1_edgeCount, x1_aim) (x2_lineCount, x2_goodsCount, x2_workCount, x2_years, x2_lines, x2_goods, x2_works, x2_change, x2_coin, x2_knownFree, x2_isKnown) p2) (fun r => ∀ p : Nat, p < 6 → r p = payF line (Int32.ofNat p) p2 (x0_earned p) ws) := by
  have hL : x2_lineCount.toNatClampNeg ≤ 20 := by
    have a := i32_cl hlc.1
    have b := Int32.le_iff_toInt_le.mp hlc.2
    have z20 : (20 : Int32).toInt = 20 := by decide
    rw [z20] at b
    omega
  unfold fX4_payOwnersB
  dsimp only [u4, u14, u11]
  refine Pf.bindP (P := fun r => ∀ p : Nat, p < 6 → r p = payF line (Int32.ofNat p) p2 (x0_earned p) ws) ?_ (fun r h => Pf.ok h)
  refine Pf.loop (fun z => ∃ k : Nat, k ≤ ws.length ∧ z.1 = Int32.ofNat (k + 1) ∧ ∀ p : Nat, p < 6 → z.2 p = payF line (Int32.ofNat p) p2 (x0_earned p) (ws.take k)) (fun z hz => ?_) n _ ⟨0, Nat.zero_le _, rfl, fun _ _ => rfl⟩
  obtain ⟨z2, z3⟩ := z
  obtain ⟨k, hk, e2, e3⟩ := hz
  have e2 : z2 = Int32.ofNat (k + 1) := e2
  have e3 : ∀ p : Nat, p < 6 → z3 p = payF line (Int32.ofNat p) p2 (x0_earned p) (ws.take k) := e3
  dsimp only [u2]
  unfold fX4_payOwnersB_s3
  rw [e2]
  have l36 := hst.2
  refine Pf.ite (fun h => Pf.inr (show _ from fun p hp => ?_)) (fun h => ?_)
  · rw [hst.1] at h
    have q := (oN_le (by omega) (by omega)).mp h
    have e : k = ws.length := by omega
    show z3 p = _
    rw [e3 p hp, e, List.take_length]
  have q : ¬ ws.length + 1 ≤ k + 1 := fun h2 => h (by rw [hst.1]; exact (oN_le (by omega) (by omega)).mpr h2)
  obtain ⟨x, hx, hm⟩ := get_some (ws := ws) (k := k) (by omega)
  have hx3 := hs x hm
  have nx : Int32.ofNat (k + 1) + 1 = Int32.ofNat (k + 1 + 1) := (o_succ _).symm
  have stp := fun p : Nat => payF_step (line := line) (p := Int32.ofNat p) (tons := p2) (acc := x0_earned p) hx
  refine Pf.bindP (lineOnP hAr hst hx (by omega) (by omega)) (fun v6 e6 => ?_)
  refine Pf.bindP (Pf.sf hasLineS) (fun v8 h8 => ?_)
  by_cases x3 : 3 ≤ x.1
  · rw [if_pos x3] at e6
    have lt : x.1 - 3 < x2_lineCount.toNatClampNeg := by omega
    have b6 := oN (k := x.1 - 3) (by omega)
    have c6 : v6.toNatClampNeg = x.1 - 3 := by rw [e6]; exact b6.2.1
    have z6 : 0 ≤ v6 ∧ v6 < 20 := by
      rw [e6]
      exact ⟨b6.1, (oN_lt (b := 20) (by omega) (by decide)).mpr (by omega)⟩
    refine Pf.ite (fun hz => ?_) (fun _ => ?_)
    · exfalso
      rcases h8 with a | a
      · exact absurd (a.1.symm.trans hz) (by decide)
      · rcases a.2 with b | b
        · exact Int32.not_le.mpr b z6.1
        · have d := i32_cl hlc.1
          have i := i32_cl z6.1
          rw [c6] at i
          have e1 : x2_lineCount - 1 = Int32.ofNat (x2_lineCount.toNatClampNeg - 1) := by
            have ee : x2_lineCount = Int32.ofNat (x2_lineCount.toNatClampNeg - 1) + 1 := by
              rw [← o_succ]
              have h1 : x2_lineCount.toNatClampNeg - 1 + 1 = x2_lineCount.toNatClampNeg := by omega
              rw [h1]
              exact (o_of hlc.1).symm
            rw [ee, Int32.add_sub_cancel, ← ee]
          rw [e1, e6] at b
          have bb := (oN_lt (by omega) (by omega)).mp b
          omega
    have lo : ∀ c, c < 7 → x2_lines (7 * (x.1 - 3) + c) = line (x.1 - 3) c := fun c hc => by rw [← hl (x.1 - 3) lt c hc, ro_eq hc]
    refine Pf.bindP (Pf.sf (ofLineV (c := 5) z6 (by decide))) (fun v10 e10 => ?_)
    have e10 : v10 = line (x.1 - 3) 5 := by
      rw [e10, c6]
      exact lo 5 (by decide)
    have b10 : 0 ≤ v10 ∧ v10 ≤ 5 := by
      rw [e10, ← lo 5 (by decide)]
      have b := hln (7 * (x.1 - 3) + 5)
      rw [show (7 * (x.1 - 3) + 5) % 7 = 5 by omega] at b
      exact b
    refine Pf.rdb (fun v12 e12 _ => ?_)
    refine Pf.bindP (Pf.sf (ofLineV (c := 3) z6 (by decide))) (fun v13 e13 => ?_)
    have e13 : v13 = line (x.1 - 3) 3 := by
      rw [e13, c6]
      exact lo 3 (by decide)
    refine Pf.wrb (fun f15 e15 _ => Pf.inl ⟨k + 1, by omega, nx, fun p hp => ?_⟩)
    have l6 : v10.toNatClampNeg < 6 := i32_lt (M := 6) rfl ⟨b10.1, Int32.lt_of_le_of_lt b10.2 (by decide)⟩
    show f15 p = _
    rw [e15, stp]
    by_cases hpv : p = v10.toNatClampNeg
    · have ep : line (x.1 - 3) 5 = Int32.ofNat p := by rw [← e10, hpv, o_of b10.1]
      rw [if_pos ⟨x3, ep⟩, hpv, va_eq, e12, e13, e3 _ l6]
    · have ep : ¬ line (x.1 - 3) 5 = Int32.ofNat p := fun e => hpv (by
        rw [← e10] at e
        rw [e, ocl (by omega)])
      rw [if_neg (fun a => ep a.2), va_ne _ _ hpv]
      exact e3 p hp
  · rw [if_neg x3] at e6
    refine Pf.ite (fun _ => Pf.inl ⟨k + 1, by omega, nx, fun p hp => ?_⟩) (fun hz => ?_)
    · show z3 p = _
      rw [stp, if_neg (fun a => x3 a.1)]
      exact e3 p hp
    · rcases h8 with a | a
      · rw [e6] at a
        exact absurd a.2.1 (by decide)
      · exact absurd a.1 hz

theorem earnBP {n : Nat} {x0_left : (Nat → Int32)} {x0_earned : (Nat → Int32)} {x0_turnCost : Int32} {x0_turnWayless : Int32} {x1_edgeA : (Nat → Int32)} {x1_edgeB : (Nat → Int32)} {x1_edgeCost : (Nat → Int32)} {x1_edgeLine : (Nat → Int32)} {x1_change : (Nat → Int32)} {x1_away : (Nat → Int32)} {x1_steps : (Nat → Int32)} {x1_nodes : (Nat → Int32)} {x1_stepCount : Int32} {x1_open : (Nat → Int32)} {x1_openCount : Int32} {x1_seen : Int64} {x1_edgeCount : Int32} {x1_aim : Int32} {x2_lineCount : Int32} {x2_goodsCount : Int32} {x2_workCount : Int32} {x2_years : Int32} {x2_lines : (Nat → Int32)} {x2_goods : (Nat → Int32)} {x2_works : (Nat → Int32)} {x2_change : (Nat → Int32)} {x2_coin : (Nat → Int32)} {x2_knownFree : (Nat → Int32)} {x2_isKnown : Int32} {m_lines m_goods m_works m_years : Int32} {m_line m_good m_work : Nat → Nat → Int32} {m_changes m_coins : Nat → Int32} (hn : 1000000000000 ≤ n) (h_x1_edgeA : (AI 0 35 x1_edgeA)) (h_x1_edgeB : (AI 0 35 x1_edgeB)) (h_x1_edgeLine : (AI 0 19 x1_edgeLine)) (h_x1_steps : (AI 0 22 x1_steps)) (h_x1_nodes : (AI 0 35 x1_nodes)) (h_x1_stepCount : (0 ≤ x1_stepCount ∧ x1_stepCount ≤ 36)) (h_x1_open : (AI 0 35 x1_open)) (h_x1_openCount : (0 ≤ x1_openCount ∧ x1_openCount ≤ 36)) (h_x1_edgeCount : (0 ≤ x1_edgeCount ∧ x1_edgeCount ≤ 60)) (h_x2_lineCount : (0 ≤ x2_lineCount ∧ x2_lineCount ≤ 20)) (h_x2_goodsCount : (0 ≤ x2_goodsCount ∧ x2_goodsCount ≤ 8)) (h_x2_workCount : (0 ≤ x2_workCount ∧ x2_workCount ≤ 7)) (h_x2_years : (1 ≤ x2_years ∧ x2_years ≤ 30)) (h_x2_lines : (LnOk x2_lines)) (h_x2_goods : (GdOk x2_goods)) (h_x2_works : (WkOk x2_works)) (h_x2_change : (AI 0 99 x2_change)) (h_x2_coin : (AI 0 9 x2_coin)) (h_m_lines : 0 ≤ m_lines ∧ m_lines ≤ 20) (h_m_line : LnM m_line) (h_m_changes : AI 0 99 m_changes) (h_m_coins : AI 0 9 m_coins) (h_m_good : GdM m_good) (hA : (LaD x2_lineCount x2_goodsCount x2_workCount x2_years x2_lines x2_goods x2_works x2_change x2_coin m_lines m_line m_changes m_coins m_goods m_good m_works m_work m_years)) : Pf (fX4_earnB n (x0_left, x0_earned, x0_turnCost, x0_turnWayless) (x1_edgeA, x1_edgeB, x1_edgeCost, x1_edgeLine, x1_change, x1_away, x1_steps, x1_nodes, x1_stepCount, x1_open, x1_openCount, x1_seen, x1_edgeCount, x1_aim) (x2_lineCount, x2_goodsCount, x2_workCount, x2_years, x2_lines, x2_goods, x2_works, x2_change, x2_coin, x2_knownFree, x2_isKnown)) (fun r => ∃ WS : Nat → Option (Nat × List (Nat × Nat)), (∀ g, g < m_goods.toNatClampNeg → ∀ left o, (∀ l, l < m_lines.toNatClampNeg → ¬ left l < 0) → RGood m_lines.toNatClampNeg m_line m_changes m_coins left 0 (m_good g 0).toNatClampNeg (m_good g 1).toNatClampNeg o → o = WS g) ∧ ∀ p : Nat, p < 6 → r.1 p = earnF m_line m_good WS (Int32.ofNat p) m_goods.toNatClampNeg) := by
  obtain ⟨⟨z1, z2, z3, z4⟩, z5, z6, z7, z8, z9, z10⟩ := hA
  have hL20 : m_lines.toNatClampNeg ≤ 20 := by
    have a := i32_cl h_m_lines.1
    have b := Int32.le_iff_toInt_le.mp h_m_lines.2
    have z20 : (20 : Int32).toInt = 20 := by decide
    rw [z20] at b
    omega
  obtain ⟨Tq, hT⟩ := Tz_ex (L := m_lines) h_m_lines h_m_line h_m_changes h_m_coins
  unfold fX4_earnB
  dsimp only [u4, u14, u11]
  refine Pf.bindP fill6 (fun g1 hg1 => ?_)
  refine Pf.bindP (Pf.sf (thereS hn h_x2_lineCount)) (fun v3 h3 => ?_)
  refine Pf.bindP (Pf.and (Pf.sf (prepS hn h_x2_lines h_x2_coin h_x2_lineCount h_x1_edgeA h_x1_edgeB)) (Pf.and (Pf.sf (prepSL hn h_x2_lines h_x2_coin h_x2_lineCount h_x1_edgeA h_x1_edgeB)) (Pf.sf (sX5_prepare hn h_x1_edgeA h_x1_edgeB h_x1_edgeLine h_x1_steps h_x1_nodes h_x1_stepCount h_x1_open h_x1_openCount h_x1_edgeCount h_x2_lineCount h_x2_goodsCount h_x2_workCount h_x2_years h_x2_lines h_x2_goods h_x2_works h_x2_change h_x2_coin)))) (fun r hr => ?_)
  obtain ⟨g6, g7, g8, g9, g10, g11, g12⟩ := r
  obtain ⟨⟨q1, q2, q3, q4, q5, q6, q7⟩, ⟨_, _, _, _, _, _, q8⟩, _, _, q9, _⟩ := hr
  have q1 : g12 = (-1) := q1
  have q2 : AI 0 35 g6 := q2
  have q3 : AI 0 35 g7 := q3
  have q4 : 0 ≤ g11 ∧ g11 ≤ 60 := q4
  have q5 : ∀ e, e < g11.toNatClampNeg → 0 ≤ g8 e ∧ g8 e ≤ 999 := q5
  have q6 : ∀ k, k < 12 → g10 k = x2_change k := q6
  have q7 : EgOk x2_lines x2_coin v3 (fun l _ => l < x2_lineCount.toNatClampNeg) g6 g7 g8 g11.toNatClampNeg := q7
  have q8 : EgL x2_lines x2_coin v3 (fun l _ => l < x2_lineCount.toNatClampNeg) 60 g6 g7 g8 g9 g11.toNatClampNeg := q8
  have q9 : AI 0 19 g9 := q9
  subst z1 z2
  have hl7 : ∀ l, l < x2_lineCount.toNatClampNeg → ∀ c, c < 7 → m_line l c = x2_lines (7 * l + c) := fun l hl c hc => by rw [← z5 l hl c hc, ro_eq hc]
  have hb : ∀ l, l < 20 → (tq v3 l = true ↔ (l < x2_lineCount.toNatClampNeg ∧ m_line l 6 = 0)) := by
    intro l hl
    rw [h3 l hl]
    constructor
    · rintro ⟨a, b⟩
      exact ⟨a, by rw [hl7 l a 6 (by decide)]; exact b⟩
    · rintro ⟨a, b⟩
      exact ⟨a, by rw [hl7 l a 6 (by decide)] at b; exact b⟩
  have hch : ∀ p, p < 12 → m_changes p = g10 p := fun p hp => by rw [q6 p hp]; exact (z8 p hp).symm
  have hco : ∀ w, w < 3 → m_coins w = x2_coin w := fun w hw => (z9 w hw).symm
  have hE : EdC g11.toNatClampNeg g6 g7 g8 g10 = EdL x2_lineCount.toNatClampNeg m_line m_changes m_coins := by
    funext u v c
    exact propext (EdC_Ed q7 hb hL20 (fun l hl c hc => hl7 l hl c (by omega)) hco hch (fun l _ => by decide) u v c)
  have hC12 : C12 g10 := fun p hp => by rw [q6 p hp]; exact h_x2_change p
  have hord := q8.ord
  have gp : ∀ g, g < x2_goodsCount.toNatClampNeg → ∀ c, c < 3 → x2_goods (3 * g + c) = m_good g c := fun g hg c hc => by rw [← z6 g hg c hc, ro_eq hc]
  have gr : ∀ g, g < x2_goodsCount.toNatClampNeg → (0 ≤ m_good g 0 ∧ m_good g 0 ≤ 11) ∧ (0 ≤ m_good g 1 ∧ m_good g 1 ≤ 11) := by
    intro g hg
    exact ⟨h_m_good g 0, h_m_good g 1⟩
  try dsimp only [u7]
  refine Pf.bindP (P := fun r => ∃ WS : Nat → Option (Nat × List (Nat × Nat)), (∀ g, g < x2_goodsCount.toNatClampNeg → CGood g11.toNatClampNeg g6 g7 g8 g9 g10 (Tq (m_good g 1).toNatClampNeg) (m_good g 0).toNatClampNeg (m_good g 1).toNatClampNeg (WS g)) ∧ ∀ p : Nat, p < 6 → r.1 p = earnF m_line m_good WS (Int32.ofNat p) x2_goodsCount.toNatClampNeg) ?_ (fun r hr => ?_)
  · refine Pf.loop (fun z => (0 ≤ z.1 ∧ z.1 ≤ x2_goodsCount) ∧ AwT Tq z.2.2.1 z.2.2.2.2.2.2.2.2.2 ∧ AI 0 35 z.2.2.2.2.2.2.1 ∧ ∃ WS : Nat → Option (Nat × List (Nat × Nat)), (∀ g, g < z.1.toNatClampNeg → CGood g11.toNatClampNeg g6 g7 g8 g9 g10 (Tq (m_good g 1).toNatClampNeg) (m_good g 0).toNatClampNeg (m_good g 1).toNatClampNeg (WS g)) ∧ ∀ p : Nat, p < 6 → z.2.1 p = earnF m_line m_good WS (Int32.ofNat p) z.1.toNatClampNeg) (fun z hz => ?_) n _ ⟨⟨Int32.le_refl _, h_x2_goodsCount.1⟩, fun p hp e => ?_, h_x1_open, fun _ => none, fun g h => absurd h (Nat.not_lt_zero _), fun p hp => hg1 p hp⟩
    · obtain ⟨z15, z16, z17, z18, z19, z20, z21, z22, z23, z24⟩ := z
      obtain ⟨⟨h15, h15'⟩, hAw, hop, WS, hW, hP⟩ := hz
      have h15 : 0 ≤ z15 := h15
      have h15' : z15 ≤ x2_goodsCount := h15'
      have hAw : AwT Tq z17 z24 := hAw
      have hop : AI 0 35 z21 := hop
      have hW : ∀ g, g < z15.toNatClampNeg → CGood g11.toNatClampNeg g6 g7 g8 g9 g10 (Tq (m_good g 1).toNatClampNeg) (m_good g 0).toNatClampNeg (m_good g 1).toNatClampNeg (WS g) := hW
      have hP : ∀ p : Nat, p < 6 → z16 p = earnF m_line m_good WS (Int32.ofNat p) z15.toNatClampNeg := hP
      dsimp only [u10]
      unfold fX4_earnB_s19
      refine Pf.ite (fun hc => Pf.inr (show _ from ⟨WS, fun g hg => hW g ?_, fun p hp => ?_⟩)) (fun hc => ?_)
      · rw [Int32.le_antisymm h15' hc]
        exact hg
      · show z16 p = _
        rw [hP p hp, Int32.le_antisymm h15' hc]
      obtain ⟨p15, n15, l15⟩ := up1 h15 (Int32.le_trans h_x2_goodsCount.2 (by decide)) hc
      have b15 : 0 ≤ z15 ∧ z15 < 8 := ⟨h15, Int32.lt_of_lt_of_le l15 h_x2_goodsCount.2⟩
      have m15 : z15 + 1 ≤ x2_goodsCount := by
        have a := h_x2_goodsCount
        clear hW hP hT hE hAw
        grind
      have lt : z15.toNatClampNeg < x2_goodsCount.toNatClampNeg := by
        have a := i32_cl h15
        have b := i32_cl h_x2_goodsCount.1
        have c := Int32.lt_iff_toInt_lt.mp l15
        omega
      obtain ⟨gr0, gr1⟩ := gr _ lt
      refine Pf.bindP (Pf.sf (ofGoodsV (c := 0) b15 (by decide))) (fun v35 e35 => ?_)
      have e35 : v35 = m_good z15.toNatClampNeg 0 := e35.trans (gp _ lt 0 (by decide))
      refine Pf.bindP (Pf.sf (ofGoodsV (c := 1) b15 (by decide))) (fun v37 e37 => ?_)
      have e37 : v37 = m_good z15.toNatClampNeg 1 := e37.trans (gp _ lt 1 (by decide))
      have r35 : 0 ≤ v35 ∧ v35 ≤ 11 := by rw [e35]; exact gr0
      have r37 : 0 ≤ v37 ∧ v37 ≤ 11 := by rw [e37]; exact gr1
      refine Pf.bindP (traceP (Tt := Tq v37.toNatClampNeg) hn q2 q3 q4 q9 q5 hC12 hord r37 r35 hop (by rw [hE]; exact hT _ (p_of r37)) (fun e => hAw v37 r37 e)) (fun r hr => ?_)
      obtain ⟨v39, g41, g42, g43, g44, g45, g46, g47, g48⟩ := r
      obtain ⟨t1, t2, t3, t4⟩ := hr
      have t1 : ∀ v, v < 36 → g41 v = Tq v37.toNatClampNeg v := t1
      have t2 : AI 0 35 g45 := t2
      have t3 : g48 = v37 := t3
      have aw' : AwT Tq g41 g48 := fun p hp e v hv => by
        rw [t3] at e
        rw [t1 v hv, e]
      have t4 := CWay.good t1 t4
      have upd : ∀ o : Option (Nat × List (Nat × Nat)), CGood g11.toNatClampNeg g6 g7 g8 g9 g10 (Tq v37.toNatClampNeg) v35.toNatClampNeg v37.toNatClampNeg o → ∀ y : Nat → Int32, (∀ p : Nat, p < 6 → y p = payO m_line (Int32.ofNat p) (m_good z15.toNatClampNeg 2) (z16 p) o) → ∃ WS : Nat → Option (Nat × List (Nat × Nat)), (∀ g, g < (z15 + 1).toNatClampNeg → CGood g11.toNatClampNeg g6 g7 g8 g9 g10 (Tq (m_good g 1).toNatClampNeg) (m_good g 0).toNatClampNeg (m_good g 1).toNatClampNeg (WS g)) ∧ ∀ p : Nat, p < 6 → y p = earnF m_line m_good WS (Int32.ofNat p) (z15 + 1).toNatClampNeg := by
        intro o ho y hy
        refine ⟨fun g => if g = z15.toNatClampNeg then o else WS g, fun g hg => ?_, fun p hp => ?_⟩
        · rw [n15] at hg
          dsimp only
          by_cases e : g = z15.toNatClampNeg
          · rw [if_pos e, e, ← e35, ← e37]
            exact ho
          · rw [if_neg e]
            exact hW g (by omega)
        · rw [n15]
          show y p = payO m_line (Int32.ofNat p) (m_good z15.toNatClampNeg 2) (earnF m_line m_good (fun g => if g = z15.toNatClampNeg then o else WS g) (Int32.ofNat p) z15.toNatClampNeg) (if z15.toNatClampNeg = z15.toNatClampNeg then o else WS z15.toNatClampNeg)
          rw [if_pos rfl, earnF_congr (WS' := WS) _ (fun g hg => if_neg (by omega)), ← hP p hp]
          exact hy p hp
      dsimp only [u2, u8]
      refine Pf.ite (fun hz => ?_) (fun hz => ?_)
      · rcases t4 with ⟨_, h⟩ | ⟨h, _⟩
        · exact Pf.inl ⟨⟨p15, m15⟩, aw', t2, upd none h _ (fun p hp => rfl)⟩
        · exact absurd (h.symm.trans hz) (by decide)
      · rcases t4 with ⟨h, _⟩ | ⟨_, w, ws, c1, c2, ⟨c3, c3'⟩, ⟨c4, c4'⟩, c5⟩
        · exact absurd h hz
        · refine Pf.bindP (Pf.sf (ofGoodsV (c := 2) b15 (by decide))) (fun v50 e50 => ?_)
          have e50 : v50 = m_good z15.toNatClampNeg 2 := e50.trans (gp _ lt 2 (by decide))
          have hsL : ∀ q ∈ ws, q.1 < 3 + x2_lineCount.toNatClampNeg := by
            obtain ⟨aw, _, hx⟩ := c1
            rcases hx with hx | ⟨w', ws', hx, _, _, _, _, hwy⟩
            · cases hx.1
            · have hx := Option.some.inj hx
              have ew : ws = ws' := congrArg Prod.snd hx
              rw [ew]
              refine Wy.all (P := fun s => s < 3 + x2_lineCount.toNatClampNeg) (fun u s v h => ?_) _ _ _ hwy
              rcases h.2 with x | ⟨e', x1, x2, _, _⟩
              · have q := x.1
                omega
              · obtain ⟨l, _, hq', _, _, _, l20, el⟩ := q8.1 e' x1
                have hq' : l < x2_lineCount.toNatClampNeg := hq'
                rw [x2, el, ocl (by omega)]
                omega
          refine Pf.bindP (payCP h_x2_lineCount h_x2_lines z5 hsL c4 c5) (fun g52 e52 => ?_)
          exact Pf.inl ⟨⟨p15, m15⟩, aw', t2, upd (some (w, ws)) c1 _ (fun p hp => by show g52 p = _; rw [e52 p hp, e50]; rfl)⟩
    · have e : g12 = p := e
      rw [q1] at e
      rw [← e] at hp
      exact absurd hp.1 (by decide)
  · obtain ⟨WS, hW, hP⟩ := hr
    refine Pf.ok ⟨WS, fun g hg left o hleft hR => ?_, hP⟩
    obtain ⟨gr0, gr1⟩ := gr g hg
    have tf := hT _ (p_of gr1)
    have el : Ed x2_lineCount.toNatClampNeg m_line m_changes m_coins left 0 = EdL x2_lineCount.toNatClampNeg m_line m_changes m_coins := Ed_left hleft
    refine RC_eq q8 (left := left) (tons := 0) (fun l hl => ?_) hL20 (fun l hl c hc => hl7 l hl c (by omega)) hco hch h_m_line h_m_coins h_m_changes (p_of gr0) (p_of gr1) (by rw [el]; exact tf) (fun u v c h => ⟨Ed.d h_m_line h_m_coins h_m_changes u v c h, Ed.d0 h_m_line h_m_coins h_m_changes u v c h⟩) hR (hW g hg)
    rw [hb l (by omega)]
    exact ⟨fun a => ⟨a.2, hleft l hl⟩, fun a => ⟨hl, a.1⟩⟩

/-- earns -/
theorem dEarns {n : Nat} {x0_refused : (Nat → Int32)} {x0_isKept : Int32} {x0_gone : Int32} {x0_spent : Int32} {x1_lineCount : Int32} {x1_goodsCount : Int32} {x1_workCount : Int32} {x1_years : Int32} {x1_lines : (Nat → Int32)} {x1_goods : (Nat → Int32)} {x1_works : (Nat → Int32)} {x1_change : (Nat → Int32)} {x1_coin : (Nat → Int32)} {x1_knownFree : (Nat → Int32)} {x1_isKnown : Int32} {x2_left : (Nat → Int32)} {x2_earned : (Nat → Int32)} {x2_turnCost : Int32} {x2_turnWayless : Int32} {x3_edgeA : (Nat → Int32)} {x3_edgeB : (Nat → Int32)} {x3_edgeCost : (Nat → Int32)} {x3_edgeLine : (Nat → Int32)} {x3_change : (Nat → Int32)} {x3_away : (Nat → Int32)} {x3_steps : (Nat → Int32)} {x3_nodes : (Nat → Int32)} {x3_stepCount : Int32} {x3_open : (Nat → Int32)} {x3_openCount : Int32} {x3_seen : Int64} {x3_edgeCount : Int32} {x3_aim : Int32} {m_shelf : (Nat → Int32)} {m_rowSort : (Nat → Int32)} {m_rowSize : (Nat → Int32)} {m_rows : (Nat → Nat → Int64)} {m_moved : (Nat → Int64)} {m_shown : (Nat → Int32)} {m_tape : (Nat → Int32)} {m_tapeSize : Int32} {m_refused : (Nat → Int32)} {m_lines : Int32} {m_line : (Nat → Nat → Int32)} {m_changes : (Nat → Int32)} {m_coins : (Nat → Int32)} {m_goods : Int32} {m_good : (Nat → Nat → Int32)} {m_works : Int32} {m_work : (Nat → Nat → Int32)} {m_years : Int32} {m_gone : Int32} {m_spent : Int32} {m_at : Int32} {m_token : Int32} {m_from : Int32} {m_figures : Int64} {m_fault : Int32} {m_numbers : (Nat → Int32)} {m_statements : Int32} {m_left : (Nat → Int32)} {m_far : (Nat → Int32)} {m_tons : Int32} {m_way : (Nat → Int32)} {m_steps : Int32} {m_met : Int64} {m_queue : (Nat → Int32)} {m_totals : (Nat → Int32)} {p1 er fr : Int32} {A6 : (Nat → Int32) × (Nat → Int32) × ((Nat → Int32) × (Nat → Int32) × (Nat → Int32) × (Nat → Int32) × (Nat → Int32) × (Nat → Int32) × (Nat → Int32) × (Nat → Int32) × Int32 × (Nat → Int32) × Int32 × Int64 × Int32 × Int32)} {B6 : (Nat → Int32) × (Nat → Int32) × (Nat → Int32) × Int32 × (Nat → Int32) × Int32 × Int64 × (Nat → Int32)} (hn : 1000000000000 ≤ n) (h_x1_lineCount : (0 ≤ x1_lineCount ∧ x1_lineCount ≤ 20)) (h_x1_goodsCount : (0 ≤ x1_goodsCount ∧ x1_goodsCount ≤ 8)) (h_x1_workCount : (0 ≤ x1_workCount ∧ x1_workCount ≤ 7)) (h_x1_years : (1 ≤ x1_years ∧ x1_years ≤ 30)) (h_x1_lines : (LnOk x1_lines)) (h_x1_goods : (GdOk x1_goods)) (h_x1_works : (WkOk x1_works)) (h_x1_change : (AI 0 99 x1_change)) (h_x1_coin : (AI 0 9 x1_coin)) (h_x3_edgeA : (AI 0 35 x3_edgeA)) (h_x3_edgeB : (AI 0 35 x3_edgeB)) (h_x3_edgeLine : (AI 0 19 x3_edgeLine)) (h_x3_steps : (AI 0 22 x3_steps)) (h_x3_nodes : (AI 0 35 x3_nodes)) (h_x3_stepCount : (0 ≤ x3_stepCount ∧ x3_stepCount ≤ 36)) (h_x3_open : (AI 0 35 x3_open)) (h_x3_openCount : (0 ≤ x3_openCount ∧ x3_openCount ≤ 36)) (h_x3_edgeCount : (0 ≤ x3_edgeCount ∧ x3_edgeCount ≤ 60)) (h_m_shelf : (AI 0 2 m_shelf)) (h_m_rowSize : (AI 0 40 m_rowSize)) (h_m_tapeSize : (0 ≤ m_tapeSize ∧ m_tapeSize ≤ 250)) (h_m_lines : (0 ≤ m_lines ∧ m_lines ≤ 20)) (h_m_line : (LnM m_line)) (h_m_changes : (AI 0 99 m_changes)) (h_m_coins : (AI 0 9 m_coins)) (h_m_goods : (0 ≤ m_goods ∧ m_goods ≤ 8)) (h_m_good : (GdM m_good)) (h_m_works : (0 ≤ m_works ∧ m_works ≤ 7)) (h_m_work : (WkM m_work)) (h_m_years : (1 ≤ m_years ∧ m_years ≤ 30)) (h_m_from : (0 ≤ m_from ∧ m_from ≤ 250)) (h_m_far : (AI 0 1000000000 m_far)) (h_m_way : (AI 0 22 m_way)) (h_m_steps : (0 ≤ m_steps ∧ m_steps ≤ 37)) (h_m_queue : (AI 0 35 m_queue)) (hA : (LaD x1_lineCount x1_goodsCount x1_workCount x1_years x1_lines x1_goods x1_works x1_change x1_coin m_lines m_line m_changes m_coins m_goods m_good m_works m_work m_years)) (eqA : fX6_earns n (x0_refused, x0_isKept, x0_gone, x0_spent) (x1_lineCount, x1_goodsCount, x1_workCount, x1_years, x1_lines, x1_goods, x1_works, x1_change, x1_coin, x1_knownFree, x1_isKnown) (x2_left, x2_earned, x2_turnCost, x2_turnWayless) (x3_edgeA, x3_edgeB, x3_edgeCost, x3_edgeLine, x3_change, x3_away, x3_steps, x3_nodes, x3_stepCount, x3_open, x3_openCount, x3_seen, x3_edgeCount, x3_aim) p1 = some (er, A6)) (eqB : fX7_earns n (m_shelf, m_rowSort, m_rowSize, m_rows, m_moved, m_shown, m_tape, m_tapeSize, m_refused, m_lines, m_line, m_changes, m_coins, m_goods, m_good, m_works, m_work, m_years, m_gone, m_spent, m_at, m_token, m_from, m_figures, m_fault, m_numbers, m_statements, m_left, m_far, m_tons, m_way, m_steps, m_met, m_queue, m_totals) p1 = some (fr, B6)) : er = fr := by
  have a : Pf (fX6_earns n (x0_refused, x0_isKept, x0_gone, x0_spent) (x1_lineCount, x1_goodsCount, x1_workCount, x1_years, x1_lines, x1_goods, x1_works, x1_change, x1_coin, x1_knownFree, x1_isKnown) (x2_left, x2_earned, x2_turnCost, x2_turnWayless) (x3_edgeA, x3_edgeB, x3_edgeCost, x3_edgeLine, x3_change, x3_away, x3_steps, x3_nodes, x3_stepCount, x3_open, x3_openCount, x3_seen, x3_edgeCount, x3_aim) p1) (fun r => ((0 ≤ p1 ∧ p1 ≤ 5) ∧ ∃ WS : Nat → Option (Nat × List (Nat × Nat)), (∀ g, g < m_goods.toNatClampNeg → ∀ left o, (∀ l, l < m_lines.toNatClampNeg → ¬ left l < 0) → RGood m_lines.toNatClampNeg m_line m_changes m_coins left 0 (m_good g 0).toNatClampNeg (m_good g 1).toNatClampNeg o → o = WS g) ∧ r.1 = earnF m_line m_good WS p1 m_goods.toNatClampNeg) ∨ (¬ (0 ≤ p1 ∧ p1 ≤ 5) ∧ r.1 = -2)) := by
    unfold fX6_earns
    dsimp only [u4, u11, u14]
    refine Pf.bindP (Pf.sf sX6_within) (fun v1 h1 => Pf.ite (fun hz => ?_) (fun hz => ?_))
    · refine Pf.bindP (Pf.sf refC) (fun r e => ?_)
      dsimp only [u2]
      exact Pf.ok (Or.inr ⟨gd0 h1 hz, e⟩)
    · have c1 := gd1 h1 hz
      refine Pf.bindP (earnBP hn h_x3_edgeA h_x3_edgeB h_x3_edgeLine h_x3_steps h_x3_nodes h_x3_stepCount h_x3_open h_x3_openCount h_x3_edgeCount h_x1_lineCount h_x1_goodsCount h_x1_workCount h_x1_years h_x1_lines h_x1_goods h_x1_works h_x1_change h_x1_coin h_m_lines h_m_line h_m_changes h_m_coins h_m_good hA) (fun r hr => ?_)
      obtain ⟨WS, hW, hP⟩ := hr
      try dsimp only [u2, u14]
      refine Pf.rdb (fun v20 e20 b20 => Pf.ok (Or.inl ⟨c1, WS, hW, ?_⟩))
      show v20 = _
      rw [e20, hP _ b20.2, o_of c1.1]
  have b : Pf (fX7_earns n (m_shelf, m_rowSort, m_rowSize, m_rows, m_moved, m_shown, m_tape, m_tapeSize, m_refused, m_lines, m_line, m_changes, m_coins, m_goods, m_good, m_works, m_work, m_years, m_gone, m_spent, m_at, m_token, m_from, m_figures, m_fault, m_numbers, m_statements, m_left, m_far, m_tons, m_way, m_steps, m_met, m_queue, m_totals) p1) (fun r => ((0 ≤ p1 ∧ p1 ≤ 5) ∧ ∃ WS : Nat → Option (Nat × List (Nat × Nat)), (∀ g, g < m_goods.toNatClampNeg → ∃ left, (∀ l, l < m_lines.toNatClampNeg → ¬ left l < 0) ∧ RGood m_lines.toNatClampNeg m_line m_changes m_coins left 0 (m_good g 0).toNatClampNeg (m_good g 1).toNatClampNeg (WS g)) ∧ r.1 = earnF m_line m_good WS p1 m_goods.toNatClampNeg) ∨ (¬ (0 ≤ p1 ∧ p1 ≤ 5) ∧ r.1 = -2)) := by
    unfold fX7_earns
    dsimp only [u35]
    refine Pf.bindP (Pf.sf (s_inq p1 0 5 (by decide) (by decide))) (fun v1 h1 => Pf.ite (fun hz => ?_) (fun hz => ?_))
    · refine Pf.bindP (Pf.sf (sX7_refuse h_m_shelf h_m_rowSize h_m_tapeSize h_m_lines h_m_line h_m_changes h_m_coins h_m_goods h_m_good h_m_works h_m_work h_m_years h_m_from h_m_far h_m_way h_m_steps h_m_queue (by decide))) (fun r e => ?_)
      dsimp only [u2]
      exact Pf.ok (Or.inr ⟨gd0 h1 hz, e⟩)
    · have c1 := gd1 h1 hz
      refine Pf.bindP (earnedP hn h_m_shelf h_m_rowSize h_m_tapeSize h_m_lines h_m_line h_m_changes h_m_coins h_m_goods h_m_good h_m_works h_m_work h_m_years h_m_from h_m_far h_m_way h_m_steps h_m_queue) (fun r hr => ?_)
      try dsimp only [u2, u7]
      exact Pf.ok (Or.inl ⟨c1, hr⟩)
  rcases a _ eqA with ⟨c, WS, h1, h2⟩ | ⟨c, h2⟩ <;> rcases b _ eqB with ⟨c', WS', h1', h2'⟩ | ⟨c', h2'⟩
  · refine Eq.trans (show er = _ from h2) (Eq.trans ?_ (show fr = _ from h2').symm)
    refine earnF_congr _ (fun g hg => ?_)
    obtain ⟨left, hl, hR⟩ := h1' g hg
    exact (h1 g hg left _ hl hR).symm
  · exact absurd c c'
  · exact absurd c' c
  · exact Eq.trans (show er = _ from h2) (show fr = _ from h2').symm
end
section
/-! port -/
def fl (P : Nat × Nat → Bool) (ws : List (Nat × Nat)) : Nat := (ws.filter P).length
theorem fl_step {P : Nat × Nat → Bool} {ws : List (Nat × Nat)} {k : Nat} {q : Nat × Nat} (h : ws[k]? = some q) : fl P (ws.take (k + 1)) = fl P (ws.take k) + (if P q = true then 1 else 0) := by
  unfold fl
  rw [List.take_succ, h, List.filter_append, List.length_append]
  by_cases e : P q = true
  · rw [if_pos e]
    simp [e]
  · rw [if_neg e]
    simp [e]
theorem fl_le {P : Nat × Nat → Bool} {ws : List (Nat × Nat)} : fl P ws ≤ ws.length := List.length_filter_le _ _
/-- comes to p; is changed at p -/
def atP (p : Nat) : Nat × Nat → Bool := fun q => decide (q.2 / 3 = p)
def chP (p : Nat) : Nat × Nat → Bool := fun q => decide (q.1 < 3 ∧ q.2 / 3 = p)
def thrC (p a : Nat) (ws : List (Nat × Nat)) : Nat := (if a = p then 1 else 0) + fl (atP p) ws
def portO (p : Nat) (what : Int32) (a : Nat) (tons acc : Int32) (o : Option (Nat × List (Nat × Nat))) : Int32 := match o with | none => acc | some x => acc + tons * (if what = 0 then (if thrC p a x.2 = 0 then 0 else 1) else Int32.ofNat (fl (chP p) x.2))
def portF (good : Nat → Nat → Int32) (WS : Nat → Option (Nat × List (Nat × Nat))) (p : Nat) (what : Int32) : Nat → Int32
  | 0 => 0
  | g + 1 => portO p what (good g 0).toNatClampNeg (good g 2) (portF good WS p what g) (WS g)
theorem portF_congr {good : Nat → Nat → Int32} {WS WS' : Nat → Option (Nat × List (Nat × Nat))} {p : Nat} {what : Int32} : ∀ G : Nat, (∀ g, g < G → WS g = WS' g) → portF good WS p what G = portF good WS' p what G := by
  intro G
  induction G with
  | zero => intro _; rfl
  | succ G ih =>
    intro h
    unfold portF
    rw [ih (fun g hg => h g (by omega)), h G (by omega)]
/-- the nodes of a way -/
def ndA (u : Nat) (ws : List (Nat × Nat)) : Nat → Nat
  | 0 => u
  | k + 1 => ((ws[k]?).getD (0, 0)).2
def Chn (line : Nat → Nat → Int32) : List (Nat × Nat) → Nat → Prop
  | [], _ => True
  | q :: r, u => ((q.1 < 3 ∧ q.2 / 3 = u / 3) ∨ (3 ≤ q.1 ∧ OeL line (q.1 - 3) u q.2)) ∧ Chn line r q.2
theorem Chn.get {line : Nat → Nat → Int32} : ∀ (ws : List (Nat × Nat)) (u k : Nat) (q : Nat × Nat), Chn line ws u → ws[k]? = some q → (q.1 < 3 ∧ q.2 / 3 = ndA u ws k / 3) ∨ (3 ≤ q.1 ∧ OeL line (q.1 - 3) (ndA u ws k) q.2) := by
  intro ws
  induction ws with
  | nil => intro u k q _ h; cases h
  | cons a r ih =>
    intro u k q h hk
    cases k with
    | zero =>
      have e : a = q := Option.some.inj hk
      rw [← e]
      exact h.1
    | succ k =>
      have hk : r[k]? = some q := hk
      have i := ih a.2 k q h.2 hk
      have e : ndA u (a :: r) (k + 1) = ndA a.2 r k := by
        cases k with
        | zero => rfl
        | succ k => rfl
      rw [e]
      exact i
theorem RGood.chn {L : Nat} {line : Nat → Nat → Int32} {changes coins left : Nat → Int32} {tons : Int32} {p g w : Nat} {ws : List (Nat × Nat)} (hL : L ≤ 20) (hl : LnM line) (hp : p < 12) (h : RGood L line changes coins left tons p g (some (w, ws))) : Chn line ws (3 * p + w) := by
  obtain ⟨far, _, h⟩ := h
  rcases h with h | ⟨w', ws', e, hw, _, _, _, h⟩
  · cases h.1
  have e := Option.some.inj e
  have e1 : w = w' := congrArg Prod.fst e
  have e2 : ws = ws' := congrArg Prod.snd e
  rw [e1, e2]
  have key : ∀ (ws : List (Nat × Nat)) (M : Nat → Prop) (u : Nat), u < 36 → Wy (T7 L line changes coins left far tons) (EP L line changes coins left far tons) g ws M u → Chn line ws u := by
    intro ws
    induction ws with
    | nil => intro M u _ _; trivial
    | cons q r ih =>
      intro M u hu h
      obtain ⟨hv, hs, ht⟩ := h.2.1.1
      refine ⟨?_, ih _ _ hv h.2.2⟩
      have nb : ∀ {x : Int32}, x = -1 → x = Int32.ofNat q.2 → False := fun h1 h2 => by
        have b := (o36 hv).1.1
        rw [← h2, h1] at b
        exact absurd b (by decide)
      rcases Nat.lt_or_ge q.1 3 with h3 | h3
      · rcases (stpW hu h3).at ht with h | ⟨h1, _⟩
        · exact (nb h.1 rfl).elim
        · have ev := oinj (by omega) (by omega) h1
          exact Or.inl ⟨h3, by omega⟩
      · obtain ⟨l, hl3⟩ : ∃ l, q.1 = 3 + l := ⟨q.1 - 3, by omega⟩
        rw [hl3] at ht hs
        rcases (stpL hu (by omega) hl).at ht with h | ⟨v', h1, h2, _, h5, _⟩
        · exact (nb h.1 rfl).elim
        · have ev : q.2 = v' := oinj (by omega) (by omega) h1
          have el : q.1 - 3 = l := by omega
          rw [el, ev]
          exact Or.inr ⟨h3, h5⟩
  exact key _ _ _ (by omega) h
/-- the class's counts -/
theorem placeP {x1_edgeA : (Nat → Int32)} {x1_edgeB : (Nat → Int32)} {x1_edgeCost : (Nat → Int32)} {x1_edgeLine : (Nat → Int32)} {x1_change : (Nat → Int32)} {x1_away : (Nat → Int32)} {x1_steps : (Nat → Int32)} {x1_nodes : (Nat → Int32)} {x1_stepCount : Int32} {x1_open : (Nat → Int32)} {x1_openCount : Int32} {x1_seen : Int64} {x1_edgeCount : Int32} {x1_aim : Int32} {ws : List (Nat × Nat)} {k v : Nat} (hst : x1_stepCount = Int32.ofNat (ws.length + 1) ∧ ws.length + 1 ≤ 36) (hk : k ≤ ws.length) (hv : v < 36) (e : x1_nodes k = Int32.ofNat v) : Pf (fX5_placeAfter (x1_edgeA, x1_edgeB, x1_edgeCost, x1_edgeLine, x1_change, x1_away, x1_steps, x1_nodes, x1_stepCount, x1_open, x1_openCount, x1_seen, x1_edgeCount, x1_aim) (Int32.ofNat k)) (fun r => r = Int32.ofNat (v / 3)) := by
  have e1 : Int32.ofNat (ws.length + 1) - 1 = Int32.ofNat ws.length := by rw [o_succ, Int32.add_sub_cancel]
  have l36 := hst.2
  unfold fX5_placeAfter
  dsimp only [u14]
  rw [hst.1, e1]
  refine Pf.bindP (Pf.sf sX6_within) (fun v1 h1 => ?_)
  refine Pf.ite (fun hz => ?_) (fun _ => Pf.rdb (fun v3 e3 _ => Pf.ok ?_))
  · exfalso
    rcases h1 with h | h
    · exact absurd (h.1.symm.trans hz) (by decide)
    · rcases h.2 with a | a
      · exact absurd (oN (k := k) (by omega)).1 (Int32.not_le.mpr a)
      · have b := (oN_lt (by omega) (by omega)).mp a
        omega
  · rw [e3, ocl (by omega), e]
    exact (o36 hv).2.2.1
theorem plEq {p : Int32} {v : Nat} (hp : 0 ≤ p ∧ p ≤ 11) (hv : v < 36) : Int32.ofNat (v / 3) = p ↔ v / 3 = p.toNatClampNeg := by
  constructor
  · intro h
    rw [← h, ocl (by omega)]
  · intro h
    rw [h, o_of hp.1]
theorem stepsToP {n : Nat} {x0_left : (Nat → Int32)} {x0_earned : (Nat → Int32)} {x0_turnCost : Int32} {x0_turnWayless : Int32} {x1_edgeA : (Nat → Int32)} {x1_edgeB : (Nat → Int32)} {x1_edgeCost : (Nat → Int32)} {x1_edgeLine : (Nat → Int32)} {x1_change : (Nat → Int32)} {x1_away : (Nat → Int32)} {x1_steps : (Nat → Int32)} {x1_nodes : (Nat → Int32)} {x1_stepCount : Int32} {x1_open : (Nat → Int32)} {x1_openCount : Int32} {x1_seen : Int64} {x1_edgeCount : Int32} {x1_aim : Int32} {p1 : Int32} {ws : List (Nat × Nat)} {a w : Nat} (hp : 0 ≤ p1 ∧ p1 ≤ 11) (ha : a < 12) (hw : w < 3) (hn0 : x1_nodes 0 = Int32.ofNat (3 * a + w)) (hN : ArrN x1_nodes ws) (hv : ∀ q ∈ ws, q.2 < 36) (hst : x1_stepCount = Int32.ofNat (ws.length + 1) ∧ ws.length + 1 ≤ 36) : Pf (fX4_stepsTo n (x0_left, x0_earned, x0_turnCost, x0_turnWayless) (x1_edgeA, x1_edgeB, x1_edgeCost, x1_edgeLine, x1_change, x1_away, x1_steps, x1_nodes, x1_stepCount, x1_open, x1_openCount, x1_seen, x1_edgeCount, x1_aim) p1) (fun r => r = Int32.ofNat (thrC p1.toNatClampNeg a ws)) := by
  have l36 := hst.2
  unfold fX4_stepsTo
  dsimp only [u4, u14]
  refine Pf.bindP (P := fun r => r = Int32.ofNat (thrC p1.toNatClampNeg a ws)) ?_ (fun r h => Pf.ok h)
  refine Pf.loop (fun z => (z.2 = 0 ∧ z.1 = 0) ∨ ∃ k : Nat, k ≤ ws.length ∧ z.2 = Int32.ofNat (k + 1) ∧ z.1 = Int32.ofNat (thrC p1.toNatClampNeg a (ws.take k))) (fun z hz => ?_) n _ (Or.inl ⟨rfl, rfl⟩)
  obtain ⟨z2, z3⟩ := z
  dsimp only [u2]
  unfold fX4_stepsTo_s4
  rcases hz with ⟨e3, e2⟩ | ⟨k, hk, e3, e2⟩
  · have e3 : z3 = 0 := e3
    have e2 : z2 = 0 := e2
    rw [e3, e2, hst.1]
    refine Pf.ite (fun h => ?_) (fun _ => ?_)
    · have q := (oN_le (b := 0) (by omega) (by decide)).mp h
      omega
    have u36 : 3 * a + w < 36 := by omega
    have d : (3 * a + w) / 3 = a := by omega
    rw [← hst.1]
    refine Pf.bindP (placeP (k := 0) hst (Nat.zero_le _) u36 hn0) (fun v6 e6 => ?_)
    rw [e6]
    refine Pf.ite (fun h => Pf.inl (Or.inr ⟨0, Nat.zero_le _, rfl, ?_⟩)) (fun h => Pf.inl (Or.inr ⟨0, Nat.zero_le _, rfl, ?_⟩))
    · have q := (plEq hp u36).mp h
      rw [d] at q
      show (0 : Int32) + 1 = Int32.ofNat (thrC p1.toNatClampNeg a (ws.take 0))
      unfold thrC
      rw [if_pos q]
      rfl
    · have q : ¬ a = p1.toNatClampNeg := fun q => h ((plEq hp u36).mpr (by rw [d]; exact q))
      show (0 : Int32) = Int32.ofNat (thrC p1.toNatClampNeg a (ws.take 0))
      unfold thrC
      rw [if_neg q]
      rfl
  · have e3 : z3 = Int32.ofNat (k + 1) := e3
    have e2 : z2 = Int32.ofNat (thrC p1.toNatClampNeg a (ws.take k)) := e2
    rw [e3, hst.1]
    refine Pf.ite (fun h => Pf.inr (show _ = _ from ?_)) (fun h => ?_)
    · have q := (oN_le (by omega) (by omega)).mp h
      have e : k = ws.length := by omega
      rw [e2, e, List.take_length]
    have q : ¬ ws.length + 1 ≤ k + 1 := fun h2 => h ((oN_le (by omega) (by omega)).mpr h2)
    obtain ⟨x, hx, hm⟩ := get_some (ws := ws) (k := k) (by omega)
    have nx : Int32.ofNat (k + 1) + 1 = Int32.ofNat (k + 1 + 1) := (o_succ _).symm
    rw [← hst.1]
    refine Pf.bindP (placeP (k := k + 1) hst (by omega) (hv x hm) (hN k x hx)) (fun v6 e6 => ?_)
    rw [e6]
    have st : thrC p1.toNatClampNeg a (ws.take (k + 1)) = thrC p1.toNatClampNeg a (ws.take k) + (if atP p1.toNatClampNeg x = true then 1 else 0) := by
      unfold thrC
      rw [fl_step hx, Nat.add_assoc]
    refine Pf.ite (fun h => Pf.inl (Or.inr ⟨k + 1, by omega, nx, ?_⟩)) (fun h => Pf.inl (Or.inr ⟨k + 1, by omega, nx, ?_⟩))
    · have q := (plEq hp (hv x hm)).mp h
      show z2 + 1 = _
      rw [st, if_pos (by unfold atP; exact decide_eq_true q), o_succ, e2]
    · have q : ¬ x.2 / 3 = p1.toNatClampNeg := fun q => h ((plEq hp (hv x hm)).mpr q)
      show z2 = _
      rw [st, if_neg (by unfold atP; exact fun hh => q (of_decide_eq_true hh)), e2]
      rfl
theorem isChP {x1_edgeA : (Nat → Int32)} {x1_edgeB : (Nat → Int32)} {x1_edgeCost : (Nat → Int32)} {x1_edgeLine : (Nat → Int32)} {x1_change : (Nat → Int32)} {x1_away : (Nat → Int32)} {x1_steps : (Nat → Int32)} {x1_nodes : (Nat → Int32)} {x1_stepCount : Int32} {x1_open : (Nat → Int32)} {x1_openCount : Int32} {x1_seen : Int64} {x1_edgeCount : Int32} {x1_aim : Int32} {ws : List (Nat × Nat)} {k : Nat} {q : Nat × Nat} (hAr : Arr x1_steps ws) (hst : x1_stepCount = Int32.ofNat (ws.length + 1) ∧ ws.length + 1 ≤ 36) (hq : ws[k]? = some q) (hk : k < ws.length) (hq3 : q.1 < 23) : Pf (fX5_isChange (x1_edgeA, x1_edgeB, x1_edgeCost, x1_edgeLine, x1_change, x1_away, x1_steps, x1_nodes, x1_stepCount, x1_open, x1_openCount, x1_seen, x1_edgeCount, x1_aim) (Int32.ofNat (k + 1))) (fun r => r = 0 ↔ ¬ q.1 < 3) := by
  have ew : x1_steps (k + 1) = Int32.ofNat q.1 := hAr k q hq
  have le3 : 3 ≤ Int32.ofNat q.1 ↔ 3 ≤ q.1 := oN_le (a := 3) (by decide) (by omega)
  have e1 : Int32.ofNat (ws.length + 1) - 1 = Int32.ofNat ws.length := by rw [o_succ, Int32.add_sub_cancel]
  unfold fX5_isChange
  dsimp only [u14]
  rw [hst.1, e1]
  refine Pf.bindP (Pf.sf sX6_within) (fun v1 h1 => ?_)
  refine Pf.ite (fun hz => ?_) (fun _ => ?_)
  · exfalso
    rcases h1 with h | h
    · exact absurd (h.1.symm.trans hz) (by decide)
    · rcases h.2 with a | a
      · have b := (oN_lt (b := 1) (by omega) (by decide)).mp a
        omega
      · have b := (oN_lt (by omega) (by omega)).mp a
        omega
  refine Pf.rdb (fun v3 e3 _ => ?_)
  rw [ocl (a := k + 1) (by omega), ew] at e3
  rw [e3]
  refine Pf.ite (fun h => Pf.ok ⟨fun _ => Nat.not_lt.mpr (le3.mp h), fun _ => rfl⟩) (fun h => Pf.ok ⟨fun a => absurd a (by decide), fun a => absurd (le3.mpr (Nat.not_lt.mp a)) h⟩)
theorem changesP {n : Nat} {x0_left : (Nat → Int32)} {x0_earned : (Nat → Int32)} {x0_turnCost : Int32} {x0_turnWayless : Int32} {x1_edgeA : (Nat → Int32)} {x1_edgeB : (Nat → Int32)} {x1_edgeCost : (Nat → Int32)} {x1_edgeLine : (Nat → Int32)} {x1_change : (Nat → Int32)} {x1_away : (Nat → Int32)} {x1_steps : (Nat → Int32)} {x1_nodes : (Nat → Int32)} {x1_stepCount : Int32} {x1_open : (Nat → Int32)} {x1_openCount : Int32} {x1_seen : Int64} {x1_edgeCount : Int32} {x1_aim : Int32} {p1 : Int32} {ws : List (Nat × Nat)} (hp : 0 ≤ p1 ∧ p1 ≤ 11) (hAr : Arr x1_steps ws) (hN : ArrN x1_nodes ws) (hv : ∀ q ∈ ws, q.2 < 36 ∧ q.1 < 23) (hst : x1_stepCount = Int32.ofNat (ws.length + 1) ∧ ws.length + 1 ≤ 36) : Pf (fX4_changesAt n (x0_left, x0_earned, x0_turnCost, x0_turnWayless) (x1_edgeA, x1_edgeB, x1_edgeCost, x1_edgeLine, x1_change, x1_away, x1_steps, x1_nodes, x1_stepCount, x1_open, x1_openCount, x1_seen, x1_edgeCount, x1_aim) p1) (fun r => r = Int32.ofNat (fl (chP p1.toNatClampNeg) ws)) := by
  have l36 := hst.2
  unfold fX4_changesAt
  dsimp only [u4, u14]
  refine Pf.bindP (P := fun r => r = Int32.ofNat (fl (chP p1.toNatClampNeg) ws)) ?_ (fun r h => Pf.ok h)
  refine Pf.loop (fun z => ∃ k : Nat, k ≤ ws.length ∧ z.2 = Int32.ofNat (k + 1) ∧ z.1 = Int32.ofNat (fl (chP p1.toNatClampNeg) (ws.take k))) (fun z hz => ?_) n _ ⟨0, Nat.zero_le _, rfl, rfl⟩
  obtain ⟨z2, z3⟩ := z
  obtain ⟨k, hk, e3, e2⟩ := hz
  have e3 : z3 = Int32.ofNat (k + 1) := e3
  have e2 : z2 = Int32.ofNat (fl (chP p1.toNatClampNeg) (ws.take k)) := e2
  dsimp only [u2]
  unfold fX4_changesAt_s4
  rw [e3, hst.1]
  refine Pf.ite (fun h => Pf.inr (show _ = _ from ?_)) (fun h => ?_)
  · have q := (oN_le (by omega) (by omega)).mp h
    have e : k = ws.length := by omega
    rw [e2, e, List.take_length]
  have q : ¬ ws.length + 1 ≤ k + 1 := fun h2 => h ((oN_le (by omega) (by omega)).mpr h2)
  obtain ⟨x, hx, hm⟩ := get_some (ws := ws) (k := k) (by omega)
  have nx : Int32.ofNat (k + 1) + 1 = Int32.ofNat (k + 1 + 1) := (o_succ _).symm
  have st := fl_step (P := chP p1.toNatClampNeg) hx
  rw [← hst.1]
  refine Pf.bindP (isChP hAr hst hx (by omega) (hv x hm).2) (fun v6 h6 => ?_)
  refine Pf.ite (fun h => Pf.inl ⟨k + 1, by omega, nx, ?_⟩) (fun h => ?_)
  · show z2 = _
    rw [st, if_neg (by unfold chP; exact fun hh => h6.mp h (of_decide_eq_true hh).1), e2]
    rfl
  have h3 : x.1 < 3 := Classical.byContradiction fun q => h (h6.mpr q)
  refine Pf.bindP (placeP (k := k + 1) hst (by omega) (hv x hm).1 (hN k x hx)) (fun v8 e8 => ?_)
  rw [e8]
  refine Pf.ite (fun h => Pf.inl ⟨k + 1, by omega, nx, ?_⟩) (fun h => Pf.inl ⟨k + 1, by omega, nx, ?_⟩)
  · have q := (plEq hp (hv x hm).1).mp h
    show z2 + 1 = _
    rw [st, if_pos (by unfold chP; exact decide_eq_true ⟨h3, q⟩), o_succ, e2]
  · have q : ¬ x.2 / 3 = p1.toNatClampNeg := fun q => h ((plEq hp (hv x hm).1).mpr q)
    show z2 = _
    rw [st, if_neg (by unfold chP; exact fun hh => q (of_decide_eq_true hh).2), e2]
    rfl

theorem Wy.all2 {T : Nat → Nat → Nat → Prop} {E : Nat → Nat → Prop} {g : Nat} {P : Nat × Nat → Prop} (hT : ∀ u s v, T u s v → P (s, v)) : ∀ (a : List (Nat × Nat)) (M : Nat → Prop) (u : Nat), Wy T E g a M u → ∀ q ∈ a, P q := by
  intro a
  induction a with
  | nil => intro M u _ q hq; cases hq
  | cons p a ih =>
    intro M u h q hq
    rcases List.mem_cons.mp hq with e | e
    · rw [e]
      exact hT _ _ _ h.2.1.1
    · exact ih _ _ h.2.2 q e

theorem tonsAtP {n : Nat} {x0_left : (Nat → Int32)} {x0_earned : (Nat → Int32)} {x0_turnCost : Int32} {x0_turnWayless : Int32} {x1_edgeA : (Nat → Int32)} {x1_edgeB : (Nat → Int32)} {x1_edgeCost : (Nat → Int32)} {x1_edgeLine : (Nat → Int32)} {x1_change : (Nat → Int32)} {x1_away : (Nat → Int32)} {x1_steps : (Nat → Int32)} {x1_nodes : (Nat → Int32)} {x1_stepCount : Int32} {x1_open : (Nat → Int32)} {x1_openCount : Int32} {x1_seen : Int64} {x1_edgeCount : Int32} {x1_aim : Int32} {x2_lineCount : Int32} {x2_goodsCount : Int32} {x2_workCount : Int32} {x2_years : Int32} {x2_lines : (Nat → Int32)} {x2_goods : (Nat → Int32)} {x2_works : (Nat → Int32)} {x2_change : (Nat → Int32)} {x2_coin : (Nat → Int32)} {x2_knownFree : (Nat → Int32)} {x2_isKnown : Int32} {m_lines m_goods m_works m_years : Int32} {m_line m_good m_work : Nat → Nat → Int32} {m_changes m_coins : Nat → Int32} {p2 p3 : Int32} (hn : 1000000000000 ≤ n) (h_x1_edgeA : (AI 0 35 x1_edgeA)) (h_x1_edgeB : (AI 0 35 x1_edgeB)) (h_x1_edgeLine : (AI 0 19 x1_edgeLine)) (h_x1_steps : (AI 0 22 x1_steps)) (h_x1_nodes : (AI 0 35 x1_nodes)) (h_x1_stepCount : (0 ≤ x1_stepCount ∧ x1_stepCount ≤ 36)) (h_x1_open : (AI 0 35 x1_open)) (h_x1_openCount : (0 ≤ x1_openCount ∧ x1_openCount ≤ 36)) (h_x1_edgeCount : (0 ≤ x1_edgeCount ∧ x1_edgeCount ≤ 60)) (h_x2_lineCount : (0 ≤ x2_lineCount ∧ x2_lineCount ≤ 20)) (h_x2_goodsCount : (0 ≤ x2_goodsCount ∧ x2_goodsCount ≤ 8)) (h_x2_workCount : (0 ≤ x2_workCount ∧ x2_workCount ≤ 7)) (h_x2_years : (1 ≤ x2_years ∧ x2_years ≤ 30)) (h_x2_lines : (LnOk x2_lines)) (h_x2_goods : (GdOk x2_goods)) (h_x2_works : (WkOk x2_works)) (h_x2_change : (AI 0 99 x2_change)) (h_x2_coin : (AI 0 9 x2_coin)) (h_m_lines : 0 ≤ m_lines ∧ m_lines ≤ 20) (h_m_line : LnM m_line) (h_m_changes : AI 0 99 m_changes) (h_m_coins : AI 0 9 m_coins) (h_m_good : GdM m_good) (hA : (LaD x2_lineCount x2_goodsCount x2_workCount x2_years x2_lines x2_goods x2_works x2_change x2_coin m_lines m_line m_changes m_coins m_goods m_good m_works m_work m_years)) (hp2 : 0 ≤ p2 ∧ p2 ≤ 11) : Pf (fX4_tonsAt n (x0_left, x0_earned, x0_turnCost, x0_turnWayless) (x1_edgeA, x1_edgeB, x1_edgeCost, x1_edgeLine, x1_change, x1_away, x1_steps, x1_nodes, x1_stepCount, x1_open, x1_openCount, x1_seen, x1_edgeCount, x1_aim) (x2_lineCount, x2_goodsCount, x2_workCount, x2_years, x2_lines, x2_goods, x2_works, x2_change, x2_coin, x2_knownFree, x2_isKnown) p2 p3) (fun r => ∃ WS : Nat → Option (Nat × List (Nat × Nat)), (∀ g, g < m_goods.toNatClampNeg → ∀ left o, (∀ l, l < m_lines.toNatClampNeg → ¬ left l < 0) → RGood m_lines.toNatClampNeg m_line m_changes m_coins left 0 (m_good g 0).toNatClampNeg (m_good g 1).toNatClampNeg o → o = WS g) ∧ r.1 = portF m_good WS p2.toNatClampNeg p3 m_goods.toNatClampNeg) := by
  obtain ⟨⟨z1, z2, z3, z4⟩, z5, z6, z7, z8, z9, z10⟩ := hA
  have hL20 : m_lines.toNatClampNeg ≤ 20 := by
    have a := i32_cl h_m_lines.1
    have b := Int32.le_iff_toInt_le.mp h_m_lines.2
    have z20 : (20 : Int32).toInt = 20 := by decide
    rw [z20] at b
    omega
  obtain ⟨Tq, hT⟩ := Tz_ex (L := m_lines) h_m_lines h_m_line h_m_changes h_m_coins
  unfold fX4_tonsAt
  dsimp only [u4, u14, u11]
  refine Pf.bindP (Pf.sf (thereS hn h_x2_lineCount)) (fun v3 h3 => ?_)
  refine Pf.bindP (Pf.and (Pf.sf (prepS hn h_x2_lines h_x2_coin h_x2_lineCount h_x1_edgeA h_x1_edgeB)) (Pf.and (Pf.sf (prepSL hn h_x2_lines h_x2_coin h_x2_lineCount h_x1_edgeA h_x1_edgeB)) (Pf.sf (sX5_prepare hn h_x1_edgeA h_x1_edgeB h_x1_edgeLine h_x1_steps h_x1_nodes h_x1_stepCount h_x1_open h_x1_openCount h_x1_edgeCount h_x2_lineCount h_x2_goodsCount h_x2_workCount h_x2_years h_x2_lines h_x2_goods h_x2_works h_x2_change h_x2_coin)))) (fun r hr => ?_)
  obtain ⟨g6, g7, g8, g9, g10, g11, g12⟩ := r
  obtain ⟨⟨q1, q2, q3, q4, q5, q6, q7⟩, ⟨_, _, _, _, _, _, q8⟩, _, _, q9, _⟩ := hr
  have q1 : g12 = (-1) := q1
  have q2 : AI 0 35 g6 := q2
  have q3 : AI 0 35 g7 := q3
  have q4 : 0 ≤ g11 ∧ g11 ≤ 60 := q4
  have q5 : ∀ e, e < g11.toNatClampNeg → 0 ≤ g8 e ∧ g8 e ≤ 999 := q5
  have q6 : ∀ k, k < 12 → g10 k = x2_change k := q6
  have q7 : EgOk x2_lines x2_coin v3 (fun l _ => l < x2_lineCount.toNatClampNeg) g6 g7 g8 g11.toNatClampNeg := q7
  have q8 : EgL x2_lines x2_coin v3 (fun l _ => l < x2_lineCount.toNatClampNeg) 60 g6 g7 g8 g9 g11.toNatClampNeg := q8
  have q9 : AI 0 19 g9 := q9
  subst z1 z2
  have hl7 : ∀ l, l < x2_lineCount.toNatClampNeg → ∀ c, c < 7 → m_line l c = x2_lines (7 * l + c) := fun l hl c hc => by rw [← z5 l hl c hc, ro_eq hc]
  have hb : ∀ l, l < 20 → (tq v3 l = true ↔ (l < x2_lineCount.toNatClampNeg ∧ m_line l 6 = 0)) := by
    intro l hl
    rw [h3 l hl]
    constructor
    · rintro ⟨a, b⟩
      exact ⟨a, by rw [hl7 l a 6 (by decide)]; exact b⟩
    · rintro ⟨a, b⟩
      exact ⟨a, by rw [hl7 l a 6 (by decide)] at b; exact b⟩
  have hch : ∀ p, p < 12 → m_changes p = g10 p := fun p hp => by rw [q6 p hp]; exact (z8 p hp).symm
  have hco : ∀ w, w < 3 → m_coins w = x2_coin w := fun w hw => (z9 w hw).symm
  have hE : EdC g11.toNatClampNeg g6 g7 g8 g10 = EdL x2_lineCount.toNatClampNeg m_line m_changes m_coins := by
    funext u v c
    exact propext (EdC_Ed q7 hb hL20 (fun l hl c hc => hl7 l hl c (by omega)) hco hch (fun l _ => by decide) u v c)
  have hC12 : C12 g10 := fun p hp => by rw [q6 p hp]; exact h_x2_change p
  have hord := q8.ord
  have gp : ∀ g, g < x2_goodsCount.toNatClampNeg → ∀ c, c < 3 → x2_goods (3 * g + c) = m_good g c := fun g hg c hc => by rw [← z6 g hg c hc, ro_eq hc]
  have gr : ∀ g, g < x2_goodsCount.toNatClampNeg → (0 ≤ m_good g 0 ∧ m_good g 0 ≤ 11) ∧ (0 ≤ m_good g 1 ∧ m_good g 1 ≤ 11) := by
    intro g hg
    exact ⟨h_m_good g 0, h_m_good g 1⟩
  try dsimp only [u7]
  refine Pf.bindP (P := fun r => ∃ WS : Nat → Option (Nat × List (Nat × Nat)), (∀ g, g < x2_goodsCount.toNatClampNeg → CGood g11.toNatClampNeg g6 g7 g8 g9 g10 (Tq (m_good g 1).toNatClampNeg) (m_good g 0).toNatClampNeg (m_good g 1).toNatClampNeg (WS g)) ∧ r.1 = portF m_good WS p2.toNatClampNeg p3 x2_goodsCount.toNatClampNeg) ?_ (fun r hr => ?_)
  · refine Pf.loop (fun z => (0 ≤ z.2.1 ∧ z.2.1 ≤ x2_goodsCount) ∧ AwT Tq z.2.2.1 z.2.2.2.2.2.2.2.2.2 ∧ AI 0 35 z.2.2.2.2.2.2.1 ∧ ∃ WS : Nat → Option (Nat × List (Nat × Nat)), (∀ g, g < z.2.1.toNatClampNeg → CGood g11.toNatClampNeg g6 g7 g8 g9 g10 (Tq (m_good g 1).toNatClampNeg) (m_good g 0).toNatClampNeg (m_good g 1).toNatClampNeg (WS g)) ∧ z.1 = portF m_good WS p2.toNatClampNeg p3 z.2.1.toNatClampNeg) (fun z hz => ?_) n _ ⟨⟨Int32.le_refl _, h_x2_goodsCount.1⟩, fun p hp e => ?_, h_x1_open, fun _ => none, fun g h => absurd h (Nat.not_lt_zero _), rfl⟩
    · obtain ⟨z16, z15, z17, z18, z19, z20, z21, z22, z23, z24⟩ := z
      obtain ⟨⟨h15, h15'⟩, hAw, hop, WS, hW, hP⟩ := hz
      have h15 : 0 ≤ z15 := h15
      have h15' : z15 ≤ x2_goodsCount := h15'
      have hAw : AwT Tq z17 z24 := hAw
      have hop : AI 0 35 z21 := hop
      have hW : ∀ g, g < z15.toNatClampNeg → CGood g11.toNatClampNeg g6 g7 g8 g9 g10 (Tq (m_good g 1).toNatClampNeg) (m_good g 0).toNatClampNeg (m_good g 1).toNatClampNeg (WS g) := hW
      have hP : z16 = portF m_good WS p2.toNatClampNeg p3 z15.toNatClampNeg := hP
      dsimp only [u10]
      unfold fX4_tonsAt_s18
      refine Pf.ite (fun hc => Pf.inr (show _ from ⟨WS, fun g hg => hW g ?_, ?_⟩)) (fun hc => ?_)
      · rw [Int32.le_antisymm h15' hc]
        exact hg
      · show z16 = _
        rw [hP, Int32.le_antisymm h15' hc]
      obtain ⟨p15, n15, l15⟩ := up1 h15 (Int32.le_trans h_x2_goodsCount.2 (by decide)) hc
      have b15 : 0 ≤ z15 ∧ z15 < 8 := ⟨h15, Int32.lt_of_lt_of_le l15 h_x2_goodsCount.2⟩
      have m15 : z15 + 1 ≤ x2_goodsCount := by
        have a := h_x2_goodsCount
        clear hW hP hT hE hAw
        grind
      have lt : z15.toNatClampNeg < x2_goodsCount.toNatClampNeg := by
        have a := i32_cl h15
        have b := i32_cl h_x2_goodsCount.1
        have c := Int32.lt_iff_toInt_lt.mp l15
        omega
      obtain ⟨gr0, gr1⟩ := gr _ lt
      refine Pf.bindP (Pf.sf (ofGoodsV (c := 0) b15 (by decide))) (fun v35 e35 => ?_)
      have e35 : v35 = m_good z15.toNatClampNeg 0 := e35.trans (gp _ lt 0 (by decide))
      refine Pf.bindP (Pf.sf (ofGoodsV (c := 1) b15 (by decide))) (fun v37 e37 => ?_)
      have e37 : v37 = m_good z15.toNatClampNeg 1 := e37.trans (gp _ lt 1 (by decide))
      have r35 : 0 ≤ v35 ∧ v35 ≤ 11 := by rw [e35]; exact gr0
      have r37 : 0 ≤ v37 ∧ v37 ≤ 11 := by rw [e37]; exact gr1
      refine Pf.bindP (traceP (Tt := Tq v37.toNatClampNeg) hn q2 q3 q4 q9 q5 hC12 hord r37 r35 hop (by rw [hE]; exact hT _ (p_of r37)) (fun e => hAw v37 r37 e)) (fun r hr => ?_)
      obtain ⟨v39, g41, g42, g43, g44, g45, g46, g47, g48⟩ := r
      obtain ⟨t1, t2, t3, t4⟩ := hr
      have t1 : ∀ v, v < 36 → g41 v = Tq v37.toNatClampNeg v := t1
      have t2 : AI 0 35 g45 := t2
      have t3 : g48 = v37 := t3
      have aw' : AwT Tq g41 g48 := fun p hp e v hv => by
        rw [t3] at e
        rw [t1 v hv, e]
      have t4 := CWay.good t1 t4
      have upd : ∀ o : Option (Nat × List (Nat × Nat)), CGood g11.toNatClampNeg g6 g7 g8 g9 g10 (Tq v37.toNatClampNeg) v35.toNatClampNeg v37.toNatClampNeg o → ∀ y : Int32, y = portO p2.toNatClampNeg p3 (m_good z15.toNatClampNeg 0).toNatClampNeg (m_good z15.toNatClampNeg 2) z16 o → ∃ WS : Nat → Option (Nat × List (Nat × Nat)), (∀ g, g < (z15 + 1).toNatClampNeg → CGood g11.toNatClampNeg g6 g7 g8 g9 g10 (Tq (m_good g 1).toNatClampNeg) (m_good g 0).toNatClampNeg (m_good g 1).toNatClampNeg (WS g)) ∧ y = portF m_good WS p2.toNatClampNeg p3 (z15 + 1).toNatClampNeg := by
        intro o ho y hy
        refine ⟨fun g => if g = z15.toNatClampNeg then o else WS g, fun g hg => ?_, ?_⟩
        · rw [n15] at hg
          dsimp only
          by_cases e : g = z15.toNatClampNeg
          · rw [if_pos e, e, ← e35, ← e37]
            exact ho
          · rw [if_neg e]
            exact hW g (by omega)
        · rw [n15]
          show y = portO p2.toNatClampNeg p3 (m_good z15.toNatClampNeg 0).toNatClampNeg (m_good z15.toNatClampNeg 2) (portF m_good (fun g => if g = z15.toNatClampNeg then o else WS g) p2.toNatClampNeg p3 z15.toNatClampNeg) (if z15.toNatClampNeg = z15.toNatClampNeg then o else WS z15.toNatClampNeg)
          rw [if_pos rfl, portF_congr (WS' := WS) _ (fun g hg => if_neg (by omega)), ← hP]
          exact hy
      dsimp only [u2, u8]
      refine Pf.ite (fun hz => ?_) (fun hz => ?_)
      · rcases t4 with ⟨_, h⟩ | ⟨h, _⟩
        · exact Pf.inl ⟨⟨p15, m15⟩, aw', t2, upd none h _ rfl⟩
        · exact absurd (h.symm.trans hz) (by decide)
      · rcases t4 with ⟨h, _⟩ | ⟨_, w, ws, c1, c2, ⟨c3, c3'⟩, ⟨c4, c4'⟩, c5⟩
        · exact absurd h hz
        · have hsL : ∀ q ∈ ws, q.2 < 36 ∧ q.1 < 3 + x2_lineCount.toNatClampNeg := by
            obtain ⟨aw, _, hx⟩ := c1
            rcases hx with hx | ⟨w', ws', hx, _, _, _, _, hwy⟩
            · cases hx.1
            · have hx := Option.some.inj hx
              have ew : ws = ws' := congrArg Prod.snd hx
              rw [ew]
              refine Wy.all2 (P := fun q => q.2 < 36 ∧ q.1 < 3 + x2_lineCount.toNatClampNeg) (fun u s v h => ⟨h.1, ?_⟩) _ _ _ hwy
              show s < 3 + x2_lineCount.toNatClampNeg
              rcases h.2 with x | ⟨e', x1, x2, _, _⟩
              · have q := x.1
                omega
              · obtain ⟨l, _, hq', _, _, _, l20, el⟩ := q8.1 e' x1
                have hq' : l < x2_lineCount.toNatClampNeg := hq'
                rw [x2, el, ocl (by omega)]
                omega
          have fin : ∀ y : Int32, y = (if p3 = 0 then (if thrC p2.toNatClampNeg v35.toNatClampNeg ws = 0 then 0 else 1) else Int32.ofNat (fl (chP p2.toNatClampNeg) ws)) → Pf (fX4_tonsAt_j72 x2_lineCount x2_goodsCount x2_workCount x2_years x2_lines x2_goods x2_works x2_change x2_coin x2_knownFree x2_isKnown z16 z15 g41 g42 g43 g44 g45 g46 g47 g48 y) (fun r => Sum.elim (fun z => (0 ≤ z.2.1 ∧ z.2.1 ≤ x2_goodsCount) ∧ AwT Tq z.2.2.1 z.2.2.2.2.2.2.2.2.2 ∧ AI 0 35 z.2.2.2.2.2.2.1 ∧ ∃ WS : Nat → Option (Nat × List (Nat × Nat)), (∀ g, g < z.2.1.toNatClampNeg → CGood g11.toNatClampNeg g6 g7 g8 g9 g10 (Tq (m_good g 1).toNatClampNeg) (m_good g 0).toNatClampNeg (m_good g 1).toNatClampNeg (WS g)) ∧ z.1 = portF m_good WS p2.toNatClampNeg p3 z.2.1.toNatClampNeg) (fun r => ∃ WS : Nat → Option (Nat × List (Nat × Nat)), (∀ g, g < x2_goodsCount.toNatClampNeg → CGood g11.toNatClampNeg g6 g7 g8 g9 g10 (Tq (m_good g 1).toNatClampNeg) (m_good g 0).toNatClampNeg (m_good g 1).toNatClampNeg (WS g)) ∧ r.1 = portF m_good WS p2.toNatClampNeg p3 x2_goodsCount.toNatClampNeg) r) := by
            intro y hy
            unfold fX4_tonsAt_j72
            refine Pf.bindP (Pf.sf (ofGoodsV (c := 2) b15 (by decide))) (fun v50 e50 => ?_)
            have e50 : v50 = m_good z15.toNatClampNeg 2 := e50.trans (gp _ lt 2 (by decide))
            refine Pf.inl ⟨⟨p15, m15⟩, aw', t2, upd (some (w, ws)) c1 _ ?_⟩
            show z16 + v50 * y = portO p2.toNatClampNeg p3 (m_good z15.toNatClampNeg 0).toNatClampNeg (m_good z15.toNatClampNeg 2) z16 (some (w, ws))
            rw [hy, e50, e35]
            rfl
          have l36 := c5.2
          refine Pf.ite (fun h0 => ?_) (fun h0 => ?_)
          · refine Pf.bindP (stepsToP hp2 (p_of r35) c2 c3' c4' (fun q hq => (hsL q hq).1) c5) (fun v51 e51 => fin _ ?_)
            rw [if_pos h0, e51]
            have tl : thrC p2.toNatClampNeg v35.toNatClampNeg ws ≤ 36 := by
              unfold thrC
              have f := fl_le (P := atP p2.toNatClampNeg) (ws := ws)
              split <;> omega
            unfold mmin
            generalize thrC p2.toNatClampNeg v35.toNatClampNeg ws = t at tl
            by_cases ht : t = 0
            · rw [if_pos ht, ht]
              rfl
            · rw [if_neg ht, if_neg (fun hx => ht (by have q := (oN_lt (b := 1) (by omega) (by decide)).mp hx; omega))]
          · refine Pf.bindP (changesP hp2 c4 c4' (fun q hq => ⟨(hsL q hq).1, by have x := (hsL q hq).2; omega⟩) c5) (fun v53 e53 => fin _ ?_)
            rw [if_neg h0]
            exact e53
    · have e : g12 = p := e
      rw [q1] at e
      rw [← e] at hp
      exact absurd hp.1 (by decide)
  · obtain ⟨WS, hW, hP⟩ := hr
    refine Pf.ok ⟨WS, fun g hg left o hleft hR => ?_, hP⟩
    obtain ⟨gr0, gr1⟩ := gr g hg
    have tf := hT _ (p_of gr1)
    have el : Ed x2_lineCount.toNatClampNeg m_line m_changes m_coins left 0 = EdL x2_lineCount.toNatClampNeg m_line m_changes m_coins := Ed_left hleft
    refine RC_eq q8 (left := left) (tons := 0) (fun l hl => ?_) hL20 (fun l hl c hc => hl7 l hl c (by omega)) hco hch h_m_line h_m_coins h_m_changes (p_of gr0) (p_of gr1) (by rw [el]; exact tf) (fun u v c h => ⟨Ed.d h_m_line h_m_coins h_m_changes u v c h, Ed.d0 h_m_line h_m_coins h_m_changes u v c h⟩) hR (hW g hg)
    rw [hb l (by omega)]
    exact ⟨fun a => ⟨a.2, hleft l hl⟩, fun a => ⟨hl, a.1⟩⟩

theorem chn36 {line : Nat → Nat → Int32} (hl : LnM line) : ∀ {ws : List (Nat × Nat)} {u : Nat}, u < 36 → Chn line ws u → ∀ (j : Nat) (q : Nat × Nat), ws[j]? = some q → q.2 / 3 < 12 := by
  intro ws
  induction ws with
  | nil => intro u _ _ j q h; cases h
  | cons a r ih =>
    intro u hu h j q hq
    have ha : a.2 < 36 ∨ a.2 / 3 < 12 := by
      rcases h.1 with x | ⟨_, x | x⟩
      · omega
      · have p := p_of (hl (a.1 - 3) 1)
        omega
      · have p := p_of (hl (a.1 - 3) 0)
        omega
    have ha : a.2 < 36 := by omega
    cases j with
    | zero =>
      have e : a = q := Option.some.inj hq
      rw [← e]
      omega
    | succ j => exact ih ha h.2 j q hq

theorem thr_pos {p u : Nat} : ∀ (ws : List (Nat × Nat)) (k : Nat), k ≤ ws.length → ndA u ws k / 3 = p → ¬ thrC p (u / 3) (ws.take k) = 0 := by
  intro ws k hk h
  cases k with
  | zero =>
    have h : u / 3 = p := h
    unfold thrC
    rw [if_pos h]
    omega
  | succ k =>
    obtain ⟨q, hq, _⟩ := get_some (ws := ws) (k := k) (by omega)
    have e : ndA u ws (k + 1) = q.2 := by
      show ((ws[k]?).getD (0, 0)).2 = q.2
      rw [hq]
      rfl
    rw [e] at h
    unfold thrC
    rw [fl_step hq, if_pos (show atP p q = true from decide_eq_true h)]
    omega
theorem s67P {n : Nat} {p1 p2 acc z5 steps : Int32} {line good : Nat → Nat → Int32} {way : Nat → Int32} {ws : List (Nat × Nat)} {L u : Nat} (hl : LnM line) (hp : 0 ≤ p1 ∧ p1 ≤ 11) (hL : L ≤ 20) (hs : ∀ q ∈ ws, q.1 < 3 + L) (hu : u < 36) (hc : Chn line ws u) (hAr : Arr way ws) (hst : steps = Int32.ofNat (ws.length + 1) ∧ ws.length ≤ 36) {y : Int32} (hy : y = if u / 3 = p1.toNatClampNeg then 1 else 0) : Pf (lp (u4 (fX7_port_s67 p1 p2 line good z5 way steps)) n (acc, Int32.ofNat (u / 3), y, 1)) (fun e => e.1 = (if p2 = 0 then acc else acc + good z5.toNatClampNeg 2 * Int32.ofNat (fl (chP p1.toNatClampNeg) ws)) ∧ e.2 = (if thrC p1.toNatClampNeg (u / 3) ws = 0 then 0 else 1)) := by
  have l36 := hst.2
  refine Pf.loop (fun z => ∃ k : Nat, k ≤ ws.length ∧ z.2.2.2 = Int32.ofNat (k + 1) ∧ z.2.1 = Int32.ofNat (ndA u ws k / 3) ∧ z.1 = (if p2 = 0 then acc else acc + good z5.toNatClampNeg 2 * Int32.ofNat (fl (chP p1.toNatClampNeg) (ws.take k))) ∧ z.2.2.1 = (if thrC p1.toNatClampNeg (u / 3) (ws.take k) = 0 then 0 else 1)) (fun z hz => ?_) n _ ⟨0, Nat.zero_le _, rfl, rfl, ?_, ?_⟩
  · obtain ⟨z36, z37, z38, z39⟩ := z
    obtain ⟨k, hk, e39, e37, e36, e38⟩ := hz
    have e39 : z39 = Int32.ofNat (k + 1) := e39
    have e37 : z37 = Int32.ofNat (ndA u ws k / 3) := e37
    have e36 : z36 = (if p2 = 0 then acc else acc + good z5.toNatClampNeg 2 * Int32.ofNat (fl (chP p1.toNatClampNeg) (ws.take k))) := e36
    have e38 : z38 = (if thrC p1.toNatClampNeg (u / 3) (ws.take k) = 0 then 0 else 1) := e38
    dsimp only [u4]
    unfold fX7_port_s67
    rw [e39, hst.1]
    refine Pf.ite (fun h => Pf.inr (show _ ∧ _ from ?_)) (fun h => ?_)
    · have q := (oN_le (by omega) (by omega)).mp h
      have e : k = ws.length := by omega
      rw [e, List.take_length] at e36 e38
      exact ⟨e36, e38⟩
    have q : ¬ ws.length + 1 ≤ k + 1 := fun h2 => h ((oN_le (by omega) (by omega)).mpr h2)
    obtain ⟨x, hx, hm⟩ := get_some (ws := ws) (k := k) (by omega)
    have hx3 := hs x hm
    have ew : way (k + 1) = Int32.ofNat x.1 := hAr k x hx
    have nx : Int32.ofNat (k + 1) + 1 = Int32.ofNat (k + 1 + 1) := (o_succ _).symm
    have lt3 : Int32.ofNat x.1 < 3 ↔ x.1 < 3 := oN_lt (b := 3) (by omega) (by decide)
    have cg := hc.get _ _ k x hx
    have na : ndA u ws (k + 1) = x.2 := by
      show ((ws[k]?).getD (0, 0)).2 = x.2
      rw [hx]
      rfl
    have n12 : ndA u ws k / 3 < 12 := by
      cases k with
      | zero => show u / 3 < 12; omega
      | succ j =>
        obtain ⟨q2, hq2, _⟩ := get_some (ws := ws) (k := j) (by omega)
        have c2 := hc.get _ _ j q2 hq2
        have e : ndA u ws (j + 1) = q2.2 := by
          show ((ws[j]?).getD (0, 0)).2 = q2.2
          rw [hq2]
          rfl
        rw [e]
        exact chn36 hl hu hc j q2 hq2
    have st1 := fl_step (P := chP p1.toNatClampNeg) hx
    have st2 : thrC p1.toNatClampNeg (u / 3) (ws.take (k + 1)) = thrC p1.toNatClampNeg (u / 3) (ws.take k) + (if atP p1.toNatClampNeg x = true then 1 else 0) := by
      unfold thrC
      rw [fl_step hx, Nat.add_assoc]
    refine Pf.rdb (fun v45 e45 _ => ?_)
    rw [ocl (a := k + 1) (by omega), ew] at e45
    rw [e45]
    refine Pf.ite (fun h3 => ?_) (fun h3 => ?_)
    · have x3 := lt3.mp h3
      have pl : x.2 / 3 = ndA u ws k / 3 := by
        rcases cg with a | a
        · exact a.2
        · omega
      have f38 : z38 = (if thrC p1.toNatClampNeg (u / 3) (ws.take (k + 1)) = 0 then 0 else 1) := by
        rw [st2, e38]
        by_cases ha : atP p1.toNatClampNeg x = true
        · have hp2 : x.2 / 3 = p1.toNatClampNeg := by unfold atP at ha; exact of_decide_eq_true ha
          have q2 := thr_pos (p := p1.toNatClampNeg) (u := u) ws k hk (by rw [← pl]; exact hp2)
          rw [if_neg q2, if_pos ha, if_neg (by omega)]
        · rw [if_neg ha, Nat.add_zero]
      have f37 : z37 = Int32.ofNat (ndA u ws (k + 1) / 3) := by rw [na, pl, e37]
      refine Pf.ite (fun h0 => Pf.inl ⟨k + 1, by omega, nx, f37, ?_, f38⟩) (fun h0 => Pf.ite (fun hq => ?_) (fun hq => Pf.inl ⟨k + 1, by omega, nx, f37, ?_, f38⟩))
      · show z36 = _
        rw [e36, if_pos h0, if_pos h0]
      · have hp2 : x.2 / 3 = p1.toNatClampNeg := by
          rw [pl, ← hq, e37, ocl (by omega)]
        refine Pf.ckb (fun q46 e46 _ => Pf.rdb (fun v47 e47 _ => Pf.inl ⟨k + 1, by omega, nx, f37, ?_, f38⟩))
        rw [e46] at e47
        have e47 : v47 = good z5.toNatClampNeg 2 := e47
        show z36 + v47 = _
        rw [e36, if_neg h0, if_neg h0, st1, if_pos (show chP p1.toNatClampNeg x = true from decide_eq_true ⟨x3, hp2⟩), o_succ, Int32.mul_add, Int32.mul_one, ← Int32.add_assoc, e47]
      · have hp2 : ¬ x.2 / 3 = p1.toNatClampNeg := fun e => hq (by rw [e37, ← pl, e, o_of hp.1])
        show z36 = _
        rw [e36, if_neg h0, if_neg h0, st1, if_neg (show ¬ chP p1.toNatClampNeg x = true from fun hh => hp2 (of_decide_eq_true hh).2)]
        rfl
    · have x3 : 3 ≤ x.1 := Nat.not_lt.mp (fun q => h3 (lt3.mpr q))
      have ho : OeL line (x.1 - 3) (ndA u ws k) x.2 := by
        rcases cg with a | a
        · omega
        · exact a.2
      have e3 : Int32.ofNat x.1 - 3 = Int32.ofNat (x.1 - 3) := by
        have e := o20 (l := x.1 - 3) (by omega)
        have ee : 3 + (x.1 - 3) = x.1 := by omega
        rw [ee] at e
        exact e.2.1
      have o0 := o_of (hl (x.1 - 3) 0).1
      have o1 := o_of (hl (x.1 - 3) 1).1
      have f36 : z36 = (if p2 = 0 then acc else acc + good z5.toNatClampNeg 2 * Int32.ofNat (fl (chP p1.toNatClampNeg) (ws.take (k + 1)))) := by
        rw [e36, st1, if_neg (show ¬ chP p1.toNatClampNeg x = true from fun hh => absurd (of_decide_eq_true hh).1 (Nat.not_lt.mpr x3))]
        rfl
      have fin : ∀ v : Int32, v = Int32.ofNat (x.2 / 3) → x.2 / 3 < 12 → Pf (fX7_port_j123 p1 z36 z38 (Int32.ofNat (k + 1)) v) (fun r => Sum.elim (fun z => ∃ k : Nat, k ≤ ws.length ∧ z.2.2.2 = Int32.ofNat (k + 1) ∧ z.2.1 = Int32.ofNat (ndA u ws k / 3) ∧ z.1 = (if p2 = 0 then acc else acc + good z5.toNatClampNeg 2 * Int32.ofNat (fl (chP p1.toNatClampNeg) (ws.take k))) ∧ z.2.2.1 = (if thrC p1.toNatClampNeg (u / 3) (ws.take k) = 0 then 0 else 1)) (fun e => e.1 = (if p2 = 0 then acc else acc + good z5.toNatClampNeg 2 * Int32.ofNat (fl (chP p1.toNatClampNeg) ws)) ∧ e.2 = (if thrC p1.toNatClampNeg (u / 3) ws = 0 then 0 else 1)) r) := by
        intro v hv h12
        unfold fX7_port_j123
        have f37 : v = Int32.ofNat (ndA u ws (k + 1) / 3) := by rw [na, hv]
        refine Pf.ite (fun hq => Pf.inl ⟨k + 1, by omega, nx, f37, f36, ?_⟩) (fun hq => Pf.inl ⟨k + 1, by omega, nx, f37, f36, ?_⟩)
        · have hp2 : x.2 / 3 = p1.toNatClampNeg := by rw [← hq, hv, ocl (by omega)]
          show z38 ||| 1 = _
          rw [st2, if_pos (show atP p1.toNatClampNeg x = true from decide_eq_true hp2), if_neg (by omega), e38]
          split <;> decide
        · have hp2 : ¬ x.2 / 3 = p1.toNatClampNeg := fun e => hq (by rw [hv, e, o_of hp.1])
          show z38 ||| 0 = _
          rw [st2, if_neg (show ¬ atP p1.toNatClampNeg x = true from fun hh => hp2 (of_decide_eq_true hh)), Nat.add_zero, e38]
          split <;> decide
      have p0 := p_of (hl (x.1 - 3) 0)
      have p1' := p_of (hl (x.1 - 3) 1)
      refine Pf.rdb (fun v48 e48 _ => ?_)
      rw [ocl (a := k + 1) (by omega), ew] at e48
      rw [e48, e3]
      refine Pf.ckb (fun q49 e49 _ => ?_)
      rw [ocl (by omega)] at e49
      rw [e49]
      refine Pf.rdb (fun v50 e50 _ => ?_)
      have e50 : v50 = line (x.1 - 3) 0 := e50
      refine Pf.ite (fun hq => Pf.rdb (fun v53 e53 _ => ?_)) (fun hq => Pf.rdb (fun v52 e52 _ => ?_))
      · have e53 : v53 = line (x.1 - 3) 1 := e53
        have h0 : (line (x.1 - 3) 0).toNatClampNeg = ndA u ws k / 3 := by rw [← e50, hq, e37, ocl (by omega)]
        rcases ho with a | a
        · have d : x.2 / 3 = (line (x.1 - 3) 1).toNatClampNeg := by omega
          exact fin _ (by rw [e53, d, o1]) (by omega)
        · exact absurd h0 a.1
      · have e52 : v52 = line (x.1 - 3) 0 := e52
        rcases ho with a | a
        · exact absurd (by rw [e50, e37, ← a.1, o0]) hq
        · have d : x.2 / 3 = (line (x.1 - 3) 0).toNatClampNeg := by omega
          exact fin _ (by rw [e52, d, o0]) (by omega)
  · show acc = _
    by_cases h0 : p2 = 0
    · rw [if_pos h0]
    · rw [if_neg h0]
      show acc = acc + good z5.toNatClampNeg 2 * 0
      rw [Int32.mul_zero, Int32.add_zero]
  · show y = _
    rw [hy]
    unfold thrC
    by_cases h : u / 3 = p1.toNatClampNeg
    · rw [if_pos h, if_pos h]
      rfl
    · rw [if_neg h, if_neg h]
      rfl

theorem portRP {n : Nat} {x0_shelf : (Nat → Int32)} {x0_rowSort : (Nat → Int32)} {x0_rowSize : (Nat → Int32)} {x0_rows : (Nat → Nat → Int64)} {x0_moved : (Nat → Int64)} {x0_shown : (Nat → Int32)} {x0_tape : (Nat → Int32)} {x0_tapeSize : Int32} {x0_refused : (Nat → Int32)} {x0_lines : Int32} {x0_line : (Nat → Nat → Int32)} {x0_changes : (Nat → Int32)} {x0_coins : (Nat → Int32)} {x0_goods : Int32} {x0_good : (Nat → Nat → Int32)} {x0_works : Int32} {x0_work : (Nat → Nat → Int32)} {x0_years : Int32} {x0_gone : Int32} {x0_spent : Int32} {x0_at : Int32} {x0_token : Int32} {x0_from : Int32} {x0_figures : Int64} {x0_fault : Int32} {x0_numbers : (Nat → Int32)} {x0_statements : Int32} {x0_left : (Nat → Int32)} {x0_far : (Nat → Int32)} {x0_tons : Int32} {x0_way : (Nat → Int32)} {x0_steps : Int32} {x0_met : Int64} {x0_queue : (Nat → Int32)} {x0_totals : (Nat → Int32)} {p1 p2 : Int32} (hn : 1000000000000 ≤ n) (h_x0_shelf : (AI 0 2 x0_shelf)) (h_x0_rowSize : (AI 0 40 x0_rowSize)) (h_x0_tapeSize : (0 ≤ x0_tapeSize ∧ x0_tapeSize ≤ 250)) (h_x0_lines : (0 ≤ x0_lines ∧ x0_lines ≤ 20)) (h_x0_line : (LnM x0_line)) (h_x0_changes : (AI 0 99 x0_changes)) (h_x0_coins : (AI 0 9 x0_coins)) (h_x0_goods : (0 ≤ x0_goods ∧ x0_goods ≤ 8)) (h_x0_good : (GdM x0_good)) (h_x0_works : (0 ≤ x0_works ∧ x0_works ≤ 7)) (h_x0_work : (WkM x0_work)) (h_x0_years : (1 ≤ x0_years ∧ x0_years ≤ 30)) (h_x0_from : (0 ≤ x0_from ∧ x0_from ≤ 250)) (h_x0_far : (AI 0 1000000000 x0_far)) (h_x0_way : (AI 0 22 x0_way)) (h_x0_steps : (0 ≤ x0_steps ∧ x0_steps ≤ 37)) (h_x0_queue : (AI 0 35 x0_queue)) (hp1 : 0 ≤ p1 ∧ p1 ≤ 11) : Pf (lp (u9 (fX7_port_s19 n p1 p2 x0_shelf x0_rowSort x0_rowSize x0_rows x0_moved x0_shown x0_tape x0_tapeSize x0_refused x0_lines x0_line x0_changes x0_coins x0_goods x0_good x0_works x0_work x0_years x0_gone x0_spent x0_at x0_token x0_from x0_figures x0_fault x0_numbers x0_statements        x0_totals)) n (0, 0, x0_left, x0_far, x0_tons, x0_way, x0_steps, x0_met, x0_queue)) (fun r => ∃ WS : Nat → Option (Nat × List (Nat × Nat)), (∀ g, g < x0_goods.toNatClampNeg → ∃ left, (∀ l, l < x0_lines.toNatClampNeg → ¬ left l < 0) ∧ RGood x0_lines.toNatClampNeg x0_line x0_changes x0_coins left 0 (x0_good g 0).toNatClampNeg (x0_good g 1).toNatClampNeg (WS g)) ∧ r.1 = portF x0_good WS p1.toNatClampNeg p2 x0_goods.toNatClampNeg) := by
  have hL : x0_lines.toNatClampNeg ≤ 20 := by
    have a := i32_cl h_x0_lines.1
    have b := Int32.le_iff_toInt_le.mp h_x0_lines.2
    have z20 : (20 : Int32).toInt = 20 := by decide
    rw [z20] at b
    omega
  refine Pf.loop (fun z => (0 ≤ z.2.1 ∧ z.2.1 ≤ x0_goods) ∧ AI 0 1000000000 z.2.2.2.1 ∧ AI 0 22 z.2.2.2.2.2.1 ∧ (0 ≤ z.2.2.2.2.2.2.1 ∧ z.2.2.2.2.2.2.1 ≤ 37) ∧ AI 0 35 z.2.2.2.2.2.2.2.2 ∧ ∃ WS : Nat → Option (Nat × List (Nat × Nat)), (∀ g, g < z.2.1.toNatClampNeg → ∃ left, (∀ l, l < x0_lines.toNatClampNeg → ¬ left l < 0) ∧ RGood x0_lines.toNatClampNeg x0_line x0_changes x0_coins left 0 (x0_good g 0).toNatClampNeg (x0_good g 1).toNatClampNeg (WS g)) ∧ z.1 = portF x0_good WS p1.toNatClampNeg p2 z.2.1.toNatClampNeg) (fun z hz => ?_) n _ ⟨⟨Int32.le_refl _, h_x0_goods.1⟩, h_x0_far, h_x0_way, h_x0_steps, h_x0_queue, fun _ => none, fun g h => absurd h (Nat.not_lt_zero _), rfl⟩
  obtain ⟨z4, z5, z6, z7, z8, z9, z10, z11, z12⟩ := z
  obtain ⟨⟨h5, h5'⟩, hf, hw, hs, hq, WS, hW, hz4⟩ := hz
  have h5 : 0 ≤ z5 := h5
  have h5' : z5 ≤ x0_goods := h5'
  have hf : AI 0 1000000000 z7 := hf
  have hw : AI 0 22 z9 := hw
  have hs : 0 ≤ z10 ∧ z10 ≤ 37 := hs
  have hq : AI 0 35 z12 := hq
  have hW : ∀ g, g < z5.toNatClampNeg → ∃ left, (∀ l, l < x0_lines.toNatClampNeg → ¬ left l < 0) ∧ RGood x0_lines.toNatClampNeg x0_line x0_changes x0_coins left 0 (x0_good g 0).toNatClampNeg (x0_good g 1).toNatClampNeg (WS g) := hW
  have hz4 : z4 = portF x0_good WS p1.toNatClampNeg p2 z5.toNatClampNeg := hz4
  dsimp only [u9]
  unfold fX7_port_s19
  refine Pf.ite (fun hc => Pf.inr (show _ from ⟨WS, fun g hg => hW g ?_, ?_⟩)) (fun hc => ?_)
  · rw [Int32.le_antisymm h5' hc]
    exact hg
  · show z4 = _
    rw [hz4, Int32.le_antisymm h5' hc]
  obtain ⟨p5, q5, l5⟩ := up1 h5 (Int32.le_trans h_x0_goods.2 (by decide)) hc
  have b5 : 0 ≤ z5 ∧ z5 ≤ 7 := ⟨h5, by
    have a := h_x0_goods.2
    clear hW hz4
    grind⟩
  have n5 : z5 + 1 ≤ x0_goods := by
    have a := h_x0_goods
    clear hW hz4
    grind
  refine Pf.bindP (findGoodsP (x0_left := z6) (x0_tons := z8) (x0_met := z11) hn h_x0_shelf h_x0_rowSize h_x0_tapeSize h_x0_lines h_x0_line h_x0_changes h_x0_coins h_x0_goods h_x0_good h_x0_works h_x0_work h_x0_years h_x0_from hf hw hs hq b5) (fun r hr => ?_)
  obtain ⟨v22, g24, g25, g26, g27, g28, g29, g30⟩ := r
  obtain ⟨⟨r1, r2, r3, r4⟩, r5, r6⟩ := hr
  have r1 : AI 0 1000000000 g25 := r1
  have r2 : AI 0 22 g27 := r2
  have r3 : 0 ≤ g28 ∧ g28 ≤ 37 := r3
  have r4 : AI 0 35 g30 := r4
  have upd : ∀ o : Option (Nat × List (Nat × Nat)), RGood x0_lines.toNatClampNeg x0_line x0_changes x0_coins g24 0 (x0_good z5.toNatClampNeg 0).toNatClampNeg (x0_good z5.toNatClampNeg 1).toNatClampNeg o → ∀ y : Int32, y = portO p1.toNatClampNeg p2 (x0_good z5.toNatClampNeg 0).toNatClampNeg (x0_good z5.toNatClampNeg 2) z4 o → ∃ WS : Nat → Option (Nat × List (Nat × Nat)), (∀ g, g < (z5 + 1).toNatClampNeg → ∃ left, (∀ l, l < x0_lines.toNatClampNeg → ¬ left l < 0) ∧ RGood x0_lines.toNatClampNeg x0_line x0_changes x0_coins left 0 (x0_good g 0).toNatClampNeg (x0_good g 1).toNatClampNeg (WS g)) ∧ y = portF x0_good WS p1.toNatClampNeg p2 (z5 + 1).toNatClampNeg := by
    intro o ho y hy
    refine ⟨fun g => if g = z5.toNatClampNeg then o else WS g, fun g hg => ?_, ?_⟩
    · rw [q5] at hg
      dsimp only
      by_cases e : g = z5.toNatClampNeg
      · rw [if_pos e, e]
        exact ⟨g24, r5, ho⟩
      · rw [if_neg e]
        exact hW g (by omega)
    · rw [q5]
      show y = portO p1.toNatClampNeg p2 (x0_good z5.toNatClampNeg 0).toNatClampNeg (x0_good z5.toNatClampNeg 2) (portF x0_good (fun g => if g = z5.toNatClampNeg then o else WS g) p1.toNatClampNeg p2 z5.toNatClampNeg) (if z5.toNatClampNeg = z5.toNatClampNeg then o else WS z5.toNatClampNeg)
      rw [if_pos rfl, portF_congr (WS' := WS) _ (fun g hg => if_neg (by omega)), ← hz4]
      exact hy
  dsimp only [u2, u7]
  refine Pf.ite (fun hz => ?_) (fun hz => ?_)
  · rcases r6 with ⟨_, h⟩ | ⟨h, _⟩
    · exact Pf.inl ⟨⟨p5, n5⟩, r1, r2, r3, r4, upd none h _ rfl⟩
    · exact absurd hz h
  rcases r6 with ⟨h, _⟩ | ⟨_, w, ws, h1, ⟨h2, h3⟩, h4, h5, h6⟩
  · exact absurd h hz
  have gr : 0 ≤ x0_good z5.toNatClampNeg 0 ∧ x0_good z5.toNatClampNeg 0 ≤ 11 := h_x0_good _ 0
  have p12 := p_of gr
  have hu : 3 * (x0_good z5.toNatClampNeg 0).toNatClampNeg + w < 36 := by omega
  have d : (3 * (x0_good z5.toNatClampNeg 0).toNatClampNeg + w) / 3 = (x0_good z5.toNatClampNeg 0).toNatClampNeg := by omega
  have ch := h1.chn hL h_x0_line p12
  have j62 : ∀ v y : Int32, v = x0_good z5.toNatClampNeg 0 → y = (if (x0_good z5.toNatClampNeg 0).toNatClampNeg = p1.toNatClampNeg then 1 else 0) → Pf (fX7_port_j62 n p1 p2 x0_line x0_good z4 z5 g24 g25 g26 g27 g28 g29 g30 v y) (fun r => Sum.elim (fun z => (0 ≤ z.2.1 ∧ z.2.1 ≤ x0_goods) ∧ AI 0 1000000000 z.2.2.2.1 ∧ AI 0 22 z.2.2.2.2.2.1 ∧ (0 ≤ z.2.2.2.2.2.2.1 ∧ z.2.2.2.2.2.2.1 ≤ 37) ∧ AI 0 35 z.2.2.2.2.2.2.2.2 ∧ ∃ WS : Nat → Option (Nat × List (Nat × Nat)), (∀ g, g < z.2.1.toNatClampNeg → ∃ left, (∀ l, l < x0_lines.toNatClampNeg → ¬ left l < 0) ∧ RGood x0_lines.toNatClampNeg x0_line x0_changes x0_coins left 0 (x0_good g 0).toNatClampNeg (x0_good g 1).toNatClampNeg (WS g)) ∧ z.1 = portF x0_good WS p1.toNatClampNeg p2 z.2.1.toNatClampNeg) (fun r => ∃ WS : Nat → Option (Nat × List (Nat × Nat)), (∀ g, g < x0_goods.toNatClampNeg → ∃ left, (∀ l, l < x0_lines.toNatClampNeg → ¬ left l < 0) ∧ RGood x0_lines.toNatClampNeg x0_line x0_changes x0_coins left 0 (x0_good g 0).toNatClampNeg (x0_good g 1).toNatClampNeg (WS g)) ∧ r.1 = portF x0_good WS p1.toNatClampNeg p2 x0_goods.toNatClampNeg) r) := by
    intro v y hv hy
    unfold fX7_port_j62
    have lo := s67P (n := n) (p1 := p1) (p2 := p2) (acc := z4) (z5 := z5) (steps := g28) (line := x0_line) (good := x0_good) (way := g27) (u := 3 * (x0_good z5.toNatClampNeg 0).toNatClampNeg + w) h_x0_line hp1 hL h3 hu ch h5 h6 (y := y) (by rw [d]; exact hy)
    rw [d, o_of gr.1, ← hv] at lo
    refine Pf.bindP lo (fun r hr => ?_)
    obtain ⟨w41, w42⟩ := r
    obtain ⟨e1, e2⟩ := hr
    have e1 : w41 = _ := e1
    have e2 : w42 = _ := e2
    dsimp only [u2]
    rw [hv] at e2
    refine Pf.ite (fun h0 => Pf.ite (fun hx => Pf.inl ⟨⟨p5, n5⟩, r1, r2, r3, r4, upd (some (w, ws)) h1 _ ?_⟩) (fun hx => ?_)) (fun h0 => Pf.inl ⟨⟨p5, n5⟩, r1, r2, r3, r4, upd (some (w, ws)) h1 _ ?_⟩)
    · show w41 + 0 = z4 + x0_good z5.toNatClampNeg 2 * (if p2 = 0 then (if thrC p1.toNatClampNeg (x0_good z5.toNatClampNeg 0).toNatClampNeg ws = 0 then 0 else 1) else Int32.ofNat (fl (chP p1.toNatClampNeg) ws))
      rw [if_pos h0, ← e2, hx, Int32.mul_zero, e1, if_pos h0]
    · refine Pf.ckb (fun q43 e43 _ => Pf.rdb (fun v44 e44 _ => Pf.inl ⟨⟨p5, n5⟩, r1, r2, r3, r4, upd (some (w, ws)) h1 _ ?_⟩))
      rw [e43] at e44
      have e44 : v44 = x0_good z5.toNatClampNeg 2 := e44
      show w41 + v44 = z4 + x0_good z5.toNatClampNeg 2 * (if p2 = 0 then (if thrC p1.toNatClampNeg (x0_good z5.toNatClampNeg 0).toNatClampNeg ws = 0 then 0 else 1) else Int32.ofNat (fl (chP p1.toNatClampNeg) ws))
      have hx2 : ¬ thrC p1.toNatClampNeg (x0_good z5.toNatClampNeg 0).toNatClampNeg ws = 0 := fun h => hx (by rw [e2, if_pos h])
      rw [if_pos h0, if_neg hx2, Int32.mul_one, e1, if_pos h0, e44]
    · show w41 + 0 = z4 + x0_good z5.toNatClampNeg 2 * (if p2 = 0 then (if thrC p1.toNatClampNeg (x0_good z5.toNatClampNeg 0).toNatClampNeg ws = 0 then 0 else 1) else Int32.ofNat (fl (chP p1.toNatClampNeg) ws))
      rw [if_neg h0, Int32.add_zero, e1, if_neg h0]
  refine Pf.ckb (fun q32 e32 _ => Pf.rdb (fun v33 e33 _ => ?_))
  rw [e32] at e33
  have e33 : v33 = x0_good z5.toNatClampNeg 0 := e33
  refine Pf.ite (fun hx => j62 _ _ e33 ?_) (fun hx => j62 _ _ e33 ?_)
  · rw [if_pos (by rw [← e33, hx])]
  · rw [if_neg (fun h => hx (by rw [e33, ← o_of gr.1, h, o_of hp1.1]))]
/-- port -/
theorem dPort {n : Nat} {x0_refused : (Nat → Int32)} {x0_isKept : Int32} {x0_gone : Int32} {x0_spent : Int32} {x1_lineCount : Int32} {x1_goodsCount : Int32} {x1_workCount : Int32} {x1_years : Int32} {x1_lines : (Nat → Int32)} {x1_goods : (Nat → Int32)} {x1_works : (Nat → Int32)} {x1_change : (Nat → Int32)} {x1_coin : (Nat → Int32)} {x1_knownFree : (Nat → Int32)} {x1_isKnown : Int32} {x2_left : (Nat → Int32)} {x2_earned : (Nat → Int32)} {x2_turnCost : Int32} {x2_turnWayless : Int32} {x3_edgeA : (Nat → Int32)} {x3_edgeB : (Nat → Int32)} {x3_edgeCost : (Nat → Int32)} {x3_edgeLine : (Nat → Int32)} {x3_change : (Nat → Int32)} {x3_away : (Nat → Int32)} {x3_steps : (Nat → Int32)} {x3_nodes : (Nat → Int32)} {x3_stepCount : Int32} {x3_open : (Nat → Int32)} {x3_openCount : Int32} {x3_seen : Int64} {x3_edgeCount : Int32} {x3_aim : Int32} {m_shelf : (Nat → Int32)} {m_rowSort : (Nat → Int32)} {m_rowSize : (Nat → Int32)} {m_rows : (Nat → Nat → Int64)} {m_moved : (Nat → Int64)} {m_shown : (Nat → Int32)} {m_tape : (Nat → Int32)} {m_tapeSize : Int32} {m_refused : (Nat → Int32)} {m_lines : Int32} {m_line : (Nat → Nat → Int32)} {m_changes : (Nat → Int32)} {m_coins : (Nat → Int32)} {m_goods : Int32} {m_good : (Nat → Nat → Int32)} {m_works : Int32} {m_work : (Nat → Nat → Int32)} {m_years : Int32} {m_gone : Int32} {m_spent : Int32} {m_at : Int32} {m_token : Int32} {m_from : Int32} {m_figures : Int64} {m_fault : Int32} {m_numbers : (Nat → Int32)} {m_statements : Int32} {m_left : (Nat → Int32)} {m_far : (Nat → Int32)} {m_tons : Int32} {m_way : (Nat → Int32)} {m_steps : Int32} {m_met : Int64} {m_queue : (Nat → Int32)} {m_totals : (Nat → Int32)} {p1 p2 er fr : Int32} {A6 : (Nat → Int32) × ((Nat → Int32) × (Nat → Int32) × (Nat → Int32) × (Nat → Int32) × (Nat → Int32) × (Nat → Int32) × (Nat → Int32) × (Nat → Int32) × Int32 × (Nat → Int32) × Int32 × Int64 × Int32 × Int32)} {B6 : (Nat → Int32) × (Nat → Int32) × (Nat → Int32) × Int32 × (Nat → Int32) × Int32 × Int64 × (Nat → Int32)} (hn : 1000000000000 ≤ n) (h_x1_lineCount : (0 ≤ x1_lineCount ∧ x1_lineCount ≤ 20)) (h_x1_goodsCount : (0 ≤ x1_goodsCount ∧ x1_goodsCount ≤ 8)) (h_x1_workCount : (0 ≤ x1_workCount ∧ x1_workCount ≤ 7)) (h_x1_years : (1 ≤ x1_years ∧ x1_years ≤ 30)) (h_x1_lines : (LnOk x1_lines)) (h_x1_goods : (GdOk x1_goods)) (h_x1_works : (WkOk x1_works)) (h_x1_change : (AI 0 99 x1_change)) (h_x1_coin : (AI 0 9 x1_coin)) (h_x3_edgeA : (AI 0 35 x3_edgeA)) (h_x3_edgeB : (AI 0 35 x3_edgeB)) (h_x3_edgeLine : (AI 0 19 x3_edgeLine)) (h_x3_steps : (AI 0 22 x3_steps)) (h_x3_nodes : (AI 0 35 x3_nodes)) (h_x3_stepCount : (0 ≤ x3_stepCount ∧ x3_stepCount ≤ 36)) (h_x3_open : (AI 0 35 x3_open)) (h_x3_openCount : (0 ≤ x3_openCount ∧ x3_openCount ≤ 36)) (h_x3_edgeCount : (0 ≤ x3_edgeCount ∧ x3_edgeCount ≤ 60)) (h_m_shelf : (AI 0 2 m_shelf)) (h_m_rowSize : (AI 0 40 m_rowSize)) (h_m_tapeSize : (0 ≤ m_tapeSize ∧ m_tapeSize ≤ 250)) (h_m_lines : (0 ≤ m_lines ∧ m_lines ≤ 20)) (h_m_line : (LnM m_line)) (h_m_changes : (AI 0 99 m_changes)) (h_m_coins : (AI 0 9 m_coins)) (h_m_goods : (0 ≤ m_goods ∧ m_goods ≤ 8)) (h_m_good : (GdM m_good)) (h_m_works : (0 ≤ m_works ∧ m_works ≤ 7)) (h_m_work : (WkM m_work)) (h_m_years : (1 ≤ m_years ∧ m_years ≤ 30)) (h_m_from : (0 ≤ m_from ∧ m_from ≤ 250)) (h_m_far : (AI 0 1000000000 m_far)) (h_m_way : (AI 0 22 m_way)) (h_m_steps : (0 ≤ m_steps ∧ m_steps ≤ 37)) (h_m_queue : (AI 0 35 m_queue)) (hA : (LaD x1_lineCount x1_goodsCount x1_workCount x1_years x1_lines x1_goods x1_works x1_change x1_coin m_lines m_line m_changes m_coins m_goods m_good m_works m_work m_years)) (eqA : fX6_port n (x0_refused, x0_isKept, x0_gone, x0_spent) (x1_lineCount, x1_goodsCount, x1_workCount, x1_years, x1_lines, x1_goods, x1_works, x1_change, x1_coin, x1_knownFree, x1_isKnown) (x2_left, x2_earned, x2_turnCost, x2_turnWayless) (x3_edgeA, x3_edgeB, x3_edgeCost, x3_edgeLine, x3_change, x3_away, x3_steps, x3_nodes, x3_stepCount, x3_open, x3_openCount, x3_seen, x3_edgeCount, x3_aim) p1 p2 = some (er, A6)) (eqB : fX7_port n (m_shelf, m_rowSort, m_rowSize, m_rows, m_moved, m_shown, m_tape, m_tapeSize, m_refused, m_lines, m_line, m_changes, m_coins, m_goods, m_good, m_works, m_work, m_years, m_gone, m_spent, m_at, m_token, m_from, m_figures, m_fault, m_numbers, m_statements, m_left, m_far, m_tons, m_way, m_steps, m_met, m_queue, m_totals) p1 p2 = some (fr, B6)) : er = fr := by
  have a : Pf (fX6_port n (x0_refused, x0_isKept, x0_gone, x0_spent) (x1_lineCount, x1_goodsCount, x1_workCount, x1_years, x1_lines, x1_goods, x1_works, x1_change, x1_coin, x1_knownFree, x1_isKnown) (x2_left, x2_earned, x2_turnCost, x2_turnWayless) (x3_edgeA, x3_edgeB, x3_edgeCost, x3_edgeLine, x3_change, x3_away, x3_steps, x3_nodes, x3_stepCount, x3_open, x3_openCount, x3_seen, x3_edgeCount, x3_aim) p1 p2) (fun r => ((0 ≤ p1 ∧ p1 ≤ 11) ∧ ∃ WS : Nat → Option (Nat × List (Nat × Nat)), (∀ g, g < m_goods.toNatClampNeg → ∀ left o, (∀ l, l < m_lines.toNatClampNeg → ¬ left l < 0) → RGood m_lines.toNatClampNeg m_line m_changes m_coins left 0 (m_good g 0).toNatClampNeg (m_good g 1).toNatClampNeg o → o = WS g) ∧ r.1 = portF m_good WS p1.toNatClampNeg p2 m_goods.toNatClampNeg) ∨ (¬ (0 ≤ p1 ∧ p1 ≤ 11) ∧ r.1 = -2)) := by
    unfold fX6_port
    dsimp only [u4, u11, u14]
    refine Pf.bindP (Pf.sf sX6_isPlace) (fun v1 h1 => Pf.ite (fun hz => ?_) (fun hz => ?_))
    · refine Pf.bindP (Pf.sf refC) (fun r e => ?_)
      dsimp only [u2]
      exact Pf.ok (Or.inr ⟨gd0 h1 hz, e⟩)
    · have c1 := gd1 h1 hz
      refine Pf.bindP (tonsAtP hn h_x3_edgeA h_x3_edgeB h_x3_edgeLine h_x3_steps h_x3_nodes h_x3_stepCount h_x3_open h_x3_openCount h_x3_edgeCount h_x1_lineCount h_x1_goodsCount h_x1_workCount h_x1_years h_x1_lines h_x1_goods h_x1_works h_x1_change h_x1_coin h_m_lines h_m_line h_m_changes h_m_coins h_m_good hA c1) (fun r hr => ?_)
      try dsimp only [u2, u14]
      exact Pf.ok (Or.inl ⟨c1, hr⟩)
  have b : Pf (fX7_port n (m_shelf, m_rowSort, m_rowSize, m_rows, m_moved, m_shown, m_tape, m_tapeSize, m_refused, m_lines, m_line, m_changes, m_coins, m_goods, m_good, m_works, m_work, m_years, m_gone, m_spent, m_at, m_token, m_from, m_figures, m_fault, m_numbers, m_statements, m_left, m_far, m_tons, m_way, m_steps, m_met, m_queue, m_totals) p1 p2) (fun r => ((0 ≤ p1 ∧ p1 ≤ 11) ∧ ∃ WS : Nat → Option (Nat × List (Nat × Nat)), (∀ g, g < m_goods.toNatClampNeg → ∃ left, (∀ l, l < m_lines.toNatClampNeg → ¬ left l < 0) ∧ RGood m_lines.toNatClampNeg m_line m_changes m_coins left 0 (m_good g 0).toNatClampNeg (m_good g 1).toNatClampNeg (WS g)) ∧ r.1 = portF m_good WS p1.toNatClampNeg p2 m_goods.toNatClampNeg) ∨ (¬ (0 ≤ p1 ∧ p1 ≤ 11) ∧ r.1 = -2)) := by
    unfold fX7_port
    dsimp only [u35]
    refine Pf.bindP (Pf.sf sX7_isPlace) (fun v1 h1 => Pf.ite (fun hz => ?_) (fun hz => ?_))
    · refine Pf.bindP (Pf.sf (sX7_refuse h_m_shelf h_m_rowSize h_m_tapeSize h_m_lines h_m_line h_m_changes h_m_coins h_m_goods h_m_good h_m_works h_m_work h_m_years h_m_from h_m_far h_m_way h_m_steps h_m_queue (by decide))) (fun r e => ?_)
      dsimp only [u2]
      exact Pf.ok (Or.inr ⟨gd0 h1 hz, e⟩)
    · have c1 := gd1 h1 hz
      refine Pf.bindP (portRP hn h_m_shelf h_m_rowSize h_m_tapeSize h_m_lines h_m_line h_m_changes h_m_coins h_m_goods h_m_good h_m_works h_m_work h_m_years h_m_from h_m_far h_m_way h_m_steps h_m_queue c1) (fun r hr => ?_)
      try dsimp only [u8]
      exact Pf.ok (Or.inl ⟨c1, hr⟩)
  rcases a _ eqA with ⟨c, WS, h1, h2⟩ | ⟨c, h2⟩ <;> rcases b _ eqB with ⟨c', WS', h1', h2'⟩ | ⟨c', h2'⟩
  · refine Eq.trans (show er = _ from h2) (Eq.trans ?_ (show fr = _ from h2').symm)
    refine portF_congr _ (fun g hg => ?_)
    obtain ⟨left, hl, hR⟩ := h1' g hg
    exact (h1 g hg left _ hl hR).symm
  · exact absurd c c'
  · exact absurd c' c
  · exact Eq.trans (show er = _ from h2) (show fr = _ from h2').symm
end

section
/-! what lineOf, goodsOf, workOf, free, first, worth answer -/
theorem hasGoodsS {x0_lineCount : Int32} {x0_goodsCount : Int32} {x0_workCount : Int32} {x0_years : Int32} {x0_lines : (Nat → Int32)} {x0_goods : (Nat → Int32)} {x0_works : (Nat → Int32)} {x0_change : (Nat → Int32)} {x0_coin : (Nat → Int32)} {x0_knownFree : (Nat → Int32)} {x0_isKnown : Int32} {p1 : Int32} : Sf (fX1_hasGoods (x0_lineCount, x0_goodsCount, x0_workCount, x0_years, x0_lines, x0_goods, x0_works, x0_change, x0_coin, x0_knownFree, x0_isKnown) p1) (fun r => (r = 1 ∧ 0 ≤ p1 ∧ p1 ≤ x0_goodsCount - 1) ∨ (r = 0 ∧ (p1 < 0 ∨ x0_goodsCount - 1 < p1))) := by
  unfold fX1_hasGoods
  dsimp only [u11]
  refine Sf.bind sX6_within (fun v h => ?_)
  exact Sf.zbb (by rcases h with h | h; exact Or.inr h.1; exact Or.inl h.1) (fun r e => Sf.ok (by rw [e]; exact h))
theorem LineOfC {x0_refused : (Nat → Int32)} {x0_isKept : Int32} {x0_gone : Int32} {x0_spent : Int32} {x1_lineCount : Int32} {x1_goodsCount : Int32} {x1_workCount : Int32} {x1_years : Int32} {x1_lines : (Nat → Int32)} {x1_goods : (Nat → Int32)} {x1_works : (Nat → Int32)} {x1_change : (Nat → Int32)} {x1_coin : (Nat → Int32)} {x1_knownFree : (Nat → Int32)} {x1_isKnown : Int32} {p1 p2 : Int32} (h_x1_lineCount : (0 ≤ x1_lineCount ∧ x1_lineCount ≤ 20)) (h_x1_goodsCount : (0 ≤ x1_goodsCount ∧ x1_goodsCount ≤ 8)) (h_x1_workCount : (0 ≤ x1_workCount ∧ x1_workCount ≤ 7)) (h_x1_years : (1 ≤ x1_years ∧ x1_years ≤ 30)) (h_x1_lines : (LnOk x1_lines)) (h_x1_goods : (GdOk x1_goods)) (h_x1_works : (WkOk x1_works)) (h_x1_change : (AI 0 99 x1_change)) (h_x1_coin : (AI 0 9 x1_coin)) : Sf (fX6_lineOf (x0_refused, x0_isKept, x0_gone, x0_spent) (x1_lineCount, x1_goodsCount, x1_workCount, x1_years, x1_lines, x1_goods, x1_works, x1_change, x1_coin, x1_knownFree, x1_isKnown) p1 p2) (fun r => AP ((0 ≤ p1 ∧ p1 < x1_lineCount) ∧ (0 ≤ p2 ∧ p2 ≤ 6)) r.1 (((0 ≤ p1 ∧ p1 < x1_lineCount) ∧ (0 ≤ p2 ∧ p2 ≤ 6)) ∧ r.1 = ro 7 x1_lines p1.toNatClampNeg p2.toNatClampNeg) True) := by
  unfold fX6_lineOf
  dsimp only [u4, u11]
  have no : ¬ ((0 ≤ p1 ∧ p1 < x1_lineCount) ∧ (0 ≤ p2 ∧ p2 ≤ 6)) → Sf ((fX6_refuse (x0_refused, x0_isKept, x0_gone, x0_spent) (-2)).bind (u2 fun v g => some (v, g))) (fun r => AP ((0 ≤ p1 ∧ p1 < x1_lineCount) ∧ (0 ≤ p2 ∧ p2 ≤ 6)) r.1 (((0 ≤ p1 ∧ p1 < x1_lineCount) ∧ (0 ≤ p2 ∧ p2 ≤ 6)) ∧ r.1 = ro 7 x1_lines p1.toNatClampNeg p2.toNatClampNeg) True) := by
    intro hV
    refine Sf.bind refC ?_
    rintro ⟨v, g⟩ e
    exact Sf.ok (Or.inr ⟨hV, e, trivial⟩)
  refine Sf.bind hasLineS (fun v1 h1 => Sf.ite (fun hz => no (fun V => gd0 h1 hz ⟨V.1.1, by have h := V.1; have q := h_x1_lineCount; clear V no h1; grind⟩)) (fun hz => ?_))
  have c0 := gd1 h1 hz
  have c1 : 0 ≤ p1 ∧ p1 < x1_lineCount := ⟨c0.1, by have q := h_x1_lineCount; clear no h1; grind⟩
  refine Sf.bind sX6_within (fun v6 h6 => Sf.ite (fun hz => no (fun V => gd0 h6 hz V.2)) (fun hz => ?_))
  have c2 := gd1 h6 hz
  refine Sf.bind (ofLineV ⟨c1.1, Int32.lt_of_lt_of_le c1.2 h_x1_lineCount.2⟩ ⟨c2.1, Int32.lt_of_le_of_lt c2.2 (by decide)⟩) (fun v8 e8 => ?_)
  have hq : p2.toNatClampNeg < 7 := i32_lt (M := 7) (N := 7) rfl ⟨c2.1, Int32.lt_of_le_of_lt c2.2 (by decide)⟩
  have e8 : v8 = ro 7 x1_lines p1.toNatClampNeg p2.toNatClampNeg := by rw [e8, ro_eq hq]
  exact Sf.ok (Or.inl ⟨⟨c1, c2⟩, ⟨c1, c2⟩, e8⟩)
theorem LineOfR {x0_shelf : (Nat → Int32)} {x0_rowSort : (Nat → Int32)} {x0_rowSize : (Nat → Int32)} {x0_rows : (Nat → Nat → Int64)} {x0_moved : (Nat → Int64)} {x0_shown : (Nat → Int32)} {x0_tape : (Nat → Int32)} {x0_tapeSize : Int32} {x0_refused : (Nat → Int32)} {x0_lines : Int32} {x0_line : (Nat → Nat → Int32)} {x0_changes : (Nat → Int32)} {x0_coins : (Nat → Int32)} {x0_goods : Int32} {x0_good : (Nat → Nat → Int32)} {x0_works : Int32} {x0_work : (Nat → Nat → Int32)} {x0_years : Int32} {x0_gone : Int32} {x0_spent : Int32} {x0_at : Int32} {x0_token : Int32} {x0_from : Int32} {x0_figures : Int64} {x0_fault : Int32} {x0_numbers : (Nat → Int32)} {x0_statements : Int32} {x0_left : (Nat → Int32)} {x0_far : (Nat → Int32)} {x0_tons : Int32} {x0_way : (Nat → Int32)} {x0_steps : Int32} {x0_met : Int64} {x0_queue : (Nat → Int32)} {x0_totals : (Nat → Int32)} {p1 p2 : Int32} (h_x0_shelf : (AI 0 2 x0_shelf)) (h_x0_rowSize : (AI 0 40 x0_rowSize)) (h_x0_tapeSize : (0 ≤ x0_tapeSize ∧ x0_tapeSize ≤ 250)) (h_x0_lines : (0 ≤ x0_lines ∧ x0_lines ≤ 20)) (h_x0_line : (LnM x0_line)) (h_x0_changes : (AI 0 99 x0_changes)) (h_x0_coins : (AI 0 9 x0_coins)) (h_x0_goods : (0 ≤ x0_goods ∧ x0_goods ≤ 8)) (h_x0_good : (GdM x0_good)) (h_x0_works : (0 ≤ x0_works ∧ x0_works ≤ 7)) (h_x0_work : (WkM x0_work)) (h_x0_years : (1 ≤ x0_years ∧ x0_years ≤ 30)) (h_x0_from : (0 ≤ x0_from ∧ x0_from ≤ 250)) (h_x0_far : (AI 0 1000000000 x0_far)) (h_x0_way : (AI 0 22 x0_way)) (h_x0_steps : (0 ≤ x0_steps ∧ x0_steps ≤ 37)) (h_x0_queue : (AI 0 35 x0_queue)) : Sf (fX7_lineOf (x0_shelf, x0_rowSort, x0_rowSize, x0_rows, x0_moved, x0_shown, x0_tape, x0_tapeSize, x0_refused, x0_lines, x0_line, x0_changes, x0_coins, x0_goods, x0_good, x0_works, x0_work, x0_years, x0_gone, x0_spent, x0_at, x0_token, x0_from, x0_figures, x0_fault, x0_numbers, x0_statements, x0_left, x0_far, x0_tons, x0_way, x0_steps, x0_met, x0_queue, x0_totals) p1 p2) (fun r => AP ((0 ≤ p1 ∧ p1 < x0_lines) ∧ (0 ≤ p2 ∧ p2 ≤ 6)) r.1 (r.1 = x0_line p1.toNatClampNeg p2.toNatClampNeg) True) := by
  unfold fX7_lineOf
  dsimp only [u35]
  have no : ¬ ((0 ≤ p1 ∧ p1 < x0_lines) ∧ (0 ≤ p2 ∧ p2 ≤ 6)) → Sf ((fX7_refuse (x0_shelf, x0_rowSort, x0_rowSize, x0_rows, x0_moved, x0_shown, x0_tape, x0_tapeSize, x0_refused, x0_lines, x0_line, x0_changes, x0_coins, x0_goods, x0_good, x0_works, x0_work, x0_years, x0_gone, x0_spent, x0_at, x0_token, x0_from, x0_figures, x0_fault, x0_numbers, x0_statements, x0_left, x0_far, x0_tons, x0_way, x0_steps, x0_met, x0_queue, x0_totals) (-2)).bind (u2 fun v g => some (v, g))) (fun r => AP ((0 ≤ p1 ∧ p1 < x0_lines) ∧ (0 ≤ p2 ∧ p2 ≤ 6)) r.1 (r.1 = x0_line p1.toNatClampNeg p2.toNatClampNeg) True) := by
    intro hV
    refine Sf.bind (sX7_refuse h_x0_shelf h_x0_rowSize h_x0_tapeSize h_x0_lines h_x0_line h_x0_changes h_x0_coins h_x0_goods h_x0_good h_x0_works h_x0_work h_x0_years h_x0_from h_x0_far h_x0_way h_x0_steps h_x0_queue (by decide)) ?_
    rintro ⟨v, g⟩ e
    exact Sf.ok (Or.inr ⟨hV, e, trivial⟩)
  have isl : Sf (fX7_isLine (x0_shelf, x0_rowSort, x0_rowSize, x0_rows, x0_moved, x0_shown, x0_tape, x0_tapeSize, x0_refused, x0_lines, x0_line, x0_changes, x0_coins, x0_goods, x0_good, x0_works, x0_work, x0_years, x0_gone, x0_spent, x0_at, x0_token, x0_from, x0_figures, x0_fault, x0_numbers, x0_statements, x0_left, x0_far, x0_tons, x0_way, x0_steps, x0_met, x0_queue, x0_totals) p1) (fun r => (r = 1 ∧ 0 ≤ p1 ∧ p1 < x0_lines) ∨ (r = 0 ∧ ¬ (0 ≤ p1 ∧ p1 < x0_lines))) := sX7_isLine h_x0_shelf h_x0_rowSize h_x0_tapeSize h_x0_lines h_x0_line h_x0_changes h_x0_coins h_x0_goods h_x0_good h_x0_works h_x0_work h_x0_years h_x0_from h_x0_far h_x0_way h_x0_steps h_x0_queue
  refine Sf.bind isl (fun v1 h1 => Sf.ite (fun hz => no (fun V => ?_)) (fun hz => ?_))
  · rcases h1 with h1 | h1
    · rw [h1.1] at hz; exact absurd hz (by decide)
    · exact h1.2 V.1
  have c1 : 0 ≤ p1 ∧ p1 < x0_lines := by
    rcases h1 with h1 | h1
    · exact h1.2
    · exact absurd h1.1 hz
  refine Sf.bind (s_inq p2 0 6 (by decide) (by decide)) (fun v6 h6 => Sf.ite (fun hz => no (fun V => gd0 h6 hz V.2)) (fun hz => ?_))
  have c2 := gd1 h6 hz
  refine Sf.ckb 20 rfl ⟨c1.1, Int32.lt_of_lt_of_le c1.2 h_x0_lines.2⟩ (fun q11 e11 _ => ?_)
  refine Sf.rdb 7 rfl ⟨c2.1, Int32.lt_of_le_of_lt c2.2 (by decide)⟩ (fun v12 e12 => ?_)
  refine Sf.ok (Or.inl ⟨⟨c1, c2⟩, ?_⟩)
  show v12 = _
  rw [e12, e11]
theorem dLineOf {x0_refused : (Nat → Int32)} {x0_isKept : Int32} {x0_gone : Int32} {x0_spent : Int32} {x1_lineCount : Int32} {x1_goodsCount : Int32} {x1_workCount : Int32} {x1_years : Int32} {x1_lines : (Nat → Int32)} {x1_goods : (Nat → Int32)} {x1_works : (Nat → Int32)} {x1_change : (Nat → Int32)} {x1_coin : (Nat → Int32)} {x1_knownFree : (Nat → Int32)} {x1_isKnown : Int32} {m_shelf : (Nat → Int32)} {m_rowSort : (Nat → Int32)} {m_rowSize : (Nat → Int32)} {m_rows : (Nat → Nat → Int64)} {m_moved : (Nat → Int64)} {m_shown : (Nat → Int32)} {m_tape : (Nat → Int32)} {m_tapeSize : Int32} {m_refused : (Nat → Int32)} {m_lines : Int32} {m_line : (Nat → Nat → Int32)} {m_changes : (Nat → Int32)} {m_coins : (Nat → Int32)} {m_goods : Int32} {m_good : (Nat → Nat → Int32)} {m_works : Int32} {m_work : (Nat → Nat → Int32)} {m_years : Int32} {m_gone : Int32} {m_spent : Int32} {m_at : Int32} {m_token : Int32} {m_from : Int32} {m_figures : Int64} {m_fault : Int32} {m_numbers : (Nat → Int32)} {m_statements : Int32} {m_left : (Nat → Int32)} {m_far : (Nat → Int32)} {m_tons : Int32} {m_way : (Nat → Int32)} {m_steps : Int32} {m_met : Int64} {m_queue : (Nat → Int32)} {m_totals : (Nat → Int32)} {p1 p2 er fr : Int32} {e0 f0 : Nat → Int32} (h_x1_lineCount : (0 ≤ x1_lineCount ∧ x1_lineCount ≤ 20)) (h_x1_goodsCount : (0 ≤ x1_goodsCount ∧ x1_goodsCount ≤ 8)) (h_x1_workCount : (0 ≤ x1_workCount ∧ x1_workCount ≤ 7)) (h_x1_years : (1 ≤ x1_years ∧ x1_years ≤ 30)) (h_x1_lines : (LnOk x1_lines)) (h_x1_goods : (GdOk x1_goods)) (h_x1_works : (WkOk x1_works)) (h_x1_change : (AI 0 99 x1_change)) (h_x1_coin : (AI 0 9 x1_coin)) (h_m_shelf : (AI 0 2 m_shelf)) (h_m_rowSize : (AI 0 40 m_rowSize)) (h_m_tapeSize : (0 ≤ m_tapeSize ∧ m_tapeSize ≤ 250)) (h_m_lines : (0 ≤ m_lines ∧ m_lines ≤ 20)) (h_m_line : (LnM m_line)) (h_m_changes : (AI 0 99 m_changes)) (h_m_coins : (AI 0 9 m_coins)) (h_m_goods : (0 ≤ m_goods ∧ m_goods ≤ 8)) (h_m_good : (GdM m_good)) (h_m_works : (0 ≤ m_works ∧ m_works ≤ 7)) (h_m_work : (WkM m_work)) (h_m_years : (1 ≤ m_years ∧ m_years ≤ 30)) (h_m_from : (0 ≤ m_from ∧ m_from ≤ 250)) (h_m_far : (AI 0 1000000000 m_far)) (h_m_way : (AI 0 22 m_way)) (h_m_steps : (0 ≤ m_steps ∧ m_steps ≤ 37)) (h_m_queue : (AI 0 35 m_queue)) (hA : (LaD x1_lineCount x1_goodsCount x1_workCount x1_years x1_lines x1_goods x1_works x1_change x1_coin m_lines m_line m_changes m_coins m_goods m_good m_works m_work m_years)) (eqA : fX6_lineOf (x0_refused, x0_isKept, x0_gone, x0_spent) (x1_lineCount, x1_goodsCount, x1_workCount, x1_years, x1_lines, x1_goods, x1_works, x1_change, x1_coin, x1_knownFree, x1_isKnown) p1 p2 = some (er, e0)) (eqB : fX7_lineOf (m_shelf, m_rowSort, m_rowSize, m_rows, m_moved, m_shown, m_tape, m_tapeSize, m_refused, m_lines, m_line, m_changes, m_coins, m_goods, m_good, m_works, m_work, m_years, m_gone, m_spent, m_at, m_token, m_from, m_figures, m_fault, m_numbers, m_statements, m_left, m_far, m_tons, m_way, m_steps, m_met, m_queue, m_totals) p1 p2 = some (fr, f0)) : er = fr := by
  have a := (LineOfC h_x1_lineCount h_x1_goodsCount h_x1_workCount h_x1_years h_x1_lines h_x1_goods h_x1_works h_x1_change h_x1_coin).at eqA
  have b := (LineOfR h_m_shelf h_m_rowSize h_m_tapeSize h_m_lines h_m_line h_m_changes h_m_coins h_m_goods h_m_good h_m_works h_m_work h_m_years h_m_from h_m_far h_m_way h_m_steps h_m_queue).at eqB
  have ec : x1_lineCount = m_lines := hA.1.1
  rw [← ec] at b
  rcases AP_eq a b with ⟨⟨⟨c1, c2⟩, a1⟩, b1⟩ | ⟨e, _⟩
  · have hp : p1.toNatClampNeg < x1_lineCount.toNatClampNeg := by
      have x := i32_cl c1.1
      have y := i32_cl h_x1_lineCount.1
      have z := Int32.lt_iff_toInt_lt.mp c1.2
      omega
    have hq : p2.toNatClampNeg < 7 := i32_lt (M := 7) (N := 7) rfl ⟨c2.1, Int32.lt_of_le_of_lt c2.2 (by decide)⟩
    exact (a1.trans (hA.2.1 _ hp _ hq)).trans b1.symm
  · exact e
theorem GoodsOfC {x0_refused : (Nat → Int32)} {x0_isKept : Int32} {x0_gone : Int32} {x0_spent : Int32} {x1_lineCount : Int32} {x1_goodsCount : Int32} {x1_workCount : Int32} {x1_years : Int32} {x1_lines : (Nat → Int32)} {x1_goods : (Nat → Int32)} {x1_works : (Nat → Int32)} {x1_change : (Nat → Int32)} {x1_coin : (Nat → Int32)} {x1_knownFree : (Nat → Int32)} {x1_isKnown : Int32} {p1 p2 : Int32} (h_x1_lineCount : (0 ≤ x1_lineCount ∧ x1_lineCount ≤ 20)) (h_x1_goodsCount : (0 ≤ x1_goodsCount ∧ x1_goodsCount ≤ 8)) (h_x1_workCount : (0 ≤ x1_workCount ∧ x1_workCount ≤ 7)) (h_x1_years : (1 ≤ x1_years ∧ x1_years ≤ 30)) (h_x1_lines : (LnOk x1_lines)) (h_x1_goods : (GdOk x1_goods)) (h_x1_works : (WkOk x1_works)) (h_x1_change : (AI 0 99 x1_change)) (h_x1_coin : (AI 0 9 x1_coin)) : Sf (fX6_goodsOf (x0_refused, x0_isKept, x0_gone, x0_spent) (x1_lineCount, x1_goodsCount, x1_workCount, x1_years, x1_lines, x1_goods, x1_works, x1_change, x1_coin, x1_knownFree, x1_isKnown) p1 p2) (fun r => AP ((0 ≤ p1 ∧ p1 < x1_goodsCount) ∧ (0 ≤ p2 ∧ p2 ≤ 2)) r.1 (((0 ≤ p1 ∧ p1 < x1_goodsCount) ∧ (0 ≤ p2 ∧ p2 ≤ 2)) ∧ r.1 = ro 3 x1_goods p1.toNatClampNeg p2.toNatClampNeg) True) := by
  unfold fX6_goodsOf
  dsimp only [u4, u11]
  have no : ¬ ((0 ≤ p1 ∧ p1 < x1_goodsCount) ∧ (0 ≤ p2 ∧ p2 ≤ 2)) → Sf ((fX6_refuse (x0_refused, x0_isKept, x0_gone, x0_spent) (-2)).bind (u2 fun v g => some (v, g))) (fun r => AP ((0 ≤ p1 ∧ p1 < x1_goodsCount) ∧ (0 ≤ p2 ∧ p2 ≤ 2)) r.1 (((0 ≤ p1 ∧ p1 < x1_goodsCount) ∧ (0 ≤ p2 ∧ p2 ≤ 2)) ∧ r.1 = ro 3 x1_goods p1.toNatClampNeg p2.toNatClampNeg) True) := by
    intro hV
    refine Sf.bind refC ?_
    rintro ⟨v, g⟩ e
    exact Sf.ok (Or.inr ⟨hV, e, trivial⟩)
  refine Sf.bind hasGoodsS (fun v1 h1 => Sf.ite (fun hz => no (fun V => gd0 h1 hz ⟨V.1.1, by have h := V.1; have q := h_x1_goodsCount; clear V no h1; grind⟩)) (fun hz => ?_))
  have c0 := gd1 h1 hz
  have c1 : 0 ≤ p1 ∧ p1 < x1_goodsCount := ⟨c0.1, by have q := h_x1_goodsCount; clear no h1; grind⟩
  refine Sf.bind sX6_within (fun v6 h6 => Sf.ite (fun hz => no (fun V => gd0 h6 hz V.2)) (fun hz => ?_))
  have c2 := gd1 h6 hz
  refine Sf.bind (ofGoodsV ⟨c1.1, Int32.lt_of_lt_of_le c1.2 h_x1_goodsCount.2⟩ ⟨c2.1, Int32.lt_of_le_of_lt c2.2 (by decide)⟩) (fun v8 e8 => ?_)
  have hq : p2.toNatClampNeg < 3 := i32_lt (M := 3) (N := 3) rfl ⟨c2.1, Int32.lt_of_le_of_lt c2.2 (by decide)⟩
  have e8 : v8 = ro 3 x1_goods p1.toNatClampNeg p2.toNatClampNeg := by rw [e8, ro_eq hq]
  exact Sf.ok (Or.inl ⟨⟨c1, c2⟩, ⟨c1, c2⟩, e8⟩)
theorem GoodsOfR {x0_shelf : (Nat → Int32)} {x0_rowSort : (Nat → Int32)} {x0_rowSize : (Nat → Int32)} {x0_rows : (Nat → Nat → Int64)} {x0_moved : (Nat → Int64)} {x0_shown : (Nat → Int32)} {x0_tape : (Nat → Int32)} {x0_tapeSize : Int32} {x0_refused : (Nat → Int32)} {x0_lines : Int32} {x0_line : (Nat → Nat → Int32)} {x0_changes : (Nat → Int32)} {x0_coins : (Nat → Int32)} {x0_goods : Int32} {x0_good : (Nat → Nat → Int32)} {x0_works : Int32} {x0_work : (Nat → Nat → Int32)} {x0_years : Int32} {x0_gone : Int32} {x0_spent : Int32} {x0_at : Int32} {x0_token : Int32} {x0_from : Int32} {x0_figures : Int64} {x0_fault : Int32} {x0_numbers : (Nat → Int32)} {x0_statements : Int32} {x0_left : (Nat → Int32)} {x0_far : (Nat → Int32)} {x0_tons : Int32} {x0_way : (Nat → Int32)} {x0_steps : Int32} {x0_met : Int64} {x0_queue : (Nat → Int32)} {x0_totals : (Nat → Int32)} {p1 p2 : Int32} (h_x0_shelf : (AI 0 2 x0_shelf)) (h_x0_rowSize : (AI 0 40 x0_rowSize)) (h_x0_tapeSize : (0 ≤ x0_tapeSize ∧ x0_tapeSize ≤ 250)) (h_x0_lines : (0 ≤ x0_lines ∧ x0_lines ≤ 20)) (h_x0_line : (LnM x0_line)) (h_x0_changes : (AI 0 99 x0_changes)) (h_x0_coins : (AI 0 9 x0_coins)) (h_x0_goods : (0 ≤ x0_goods ∧ x0_goods ≤ 8)) (h_x0_good : (GdM x0_good)) (h_x0_works : (0 ≤ x0_works ∧ x0_works ≤ 7)) (h_x0_work : (WkM x0_work)) (h_x0_years : (1 ≤ x0_years ∧ x0_years ≤ 30)) (h_x0_from : (0 ≤ x0_from ∧ x0_from ≤ 250)) (h_x0_far : (AI 0 1000000000 x0_far)) (h_x0_way : (AI 0 22 x0_way)) (h_x0_steps : (0 ≤ x0_steps ∧ x0_steps ≤ 37)) (h_x0_queue : (AI 0 35 x0_queue)) : Sf (fX7_goodsOf (x0_shelf, x0_rowSort, x0_rowSize, x0_rows, x0_moved, x0_shown, x0_tape, x0_tapeSize, x0_refused, x0_lines, x0_line, x0_changes, x0_coins, x0_goods, x0_good, x0_works, x0_work, x0_years, x0_gone, x0_spent, x0_at, x0_token, x0_from, x0_figures, x0_fault, x0_numbers, x0_statements, x0_left, x0_far, x0_tons, x0_way, x0_steps, x0_met, x0_queue, x0_totals) p1 p2) (fun r => AP ((0 ≤ p1 ∧ p1 < x0_goods) ∧ (0 ≤ p2 ∧ p2 ≤ 2)) r.1 (r.1 = x0_good p1.toNatClampNeg p2.toNatClampNeg) True) := by
  unfold fX7_goodsOf
  dsimp only [u35]
  have no : ¬ ((0 ≤ p1 ∧ p1 < x0_goods) ∧ (0 ≤ p2 ∧ p2 ≤ 2)) → Sf ((fX7_refuse (x0_shelf, x0_rowSort, x0_rowSize, x0_rows, x0_moved, x0_shown, x0_tape, x0_tapeSize, x0_refused, x0_lines, x0_line, x0_changes, x0_coins, x0_goods, x0_good, x0_works, x0_work, x0_years, x0_gone, x0_spent, x0_at, x0_token, x0_from, x0_figures, x0_fault, x0_numbers, x0_statements, x0_left, x0_far, x0_tons, x0_way, x0_steps, x0_met, x0_queue, x0_totals) (-2)).bind (u2 fun v g => some (v, g))) (fun r => AP ((0 ≤ p1 ∧ p1 < x0_goods) ∧ (0 ≤ p2 ∧ p2 ≤ 2)) r.1 (r.1 = x0_good p1.toNatClampNeg p2.toNatClampNeg) True) := by
    intro hV
    refine Sf.bind (sX7_refuse h_x0_shelf h_x0_rowSize h_x0_tapeSize h_x0_lines h_x0_line h_x0_changes h_x0_coins h_x0_goods h_x0_good h_x0_works h_x0_work h_x0_years h_x0_from h_x0_far h_x0_way h_x0_steps h_x0_queue (by decide)) ?_
    rintro ⟨v, g⟩ e
    exact Sf.ok (Or.inr ⟨hV, e, trivial⟩)
  refine Sf.bind (s_inq p1 0 (x0_goods - 1) (by decide) rfl) (fun v1 h1 => Sf.ite (fun hz => no (fun V => gd0 h1 hz ⟨V.1.1, by have h := V.1; have q := h_x0_goods; clear V no h1; grind⟩)) (fun hz => ?_))
  have c0 := gd1 h1 hz
  have c1 : 0 ≤ p1 ∧ p1 < x0_goods := ⟨c0.1, by have q := h_x0_goods; clear no h1; grind⟩
  refine Sf.bind (s_inq p2 0 2 (by decide) (by decide)) (fun v6 h6 => Sf.ite (fun hz => no (fun V => gd0 h6 hz V.2)) (fun hz => ?_))
  have c2 := gd1 h6 hz
  refine Sf.ckb 8 rfl ⟨c1.1, Int32.lt_of_lt_of_le c1.2 h_x0_goods.2⟩ (fun q11 e11 _ => ?_)
  refine Sf.rdb 3 rfl ⟨c2.1, Int32.lt_of_le_of_lt c2.2 (by decide)⟩ (fun v12 e12 => ?_)
  refine Sf.ok (Or.inl ⟨⟨c1, c2⟩, ?_⟩)
  show v12 = _
  rw [e12, e11]
theorem dGoodsOf {x0_refused : (Nat → Int32)} {x0_isKept : Int32} {x0_gone : Int32} {x0_spent : Int32} {x1_lineCount : Int32} {x1_goodsCount : Int32} {x1_workCount : Int32} {x1_years : Int32} {x1_lines : (Nat → Int32)} {x1_goods : (Nat → Int32)} {x1_works : (Nat → Int32)} {x1_change : (Nat → Int32)} {x1_coin : (Nat → Int32)} {x1_knownFree : (Nat → Int32)} {x1_isKnown : Int32} {m_shelf : (Nat → Int32)} {m_rowSort : (Nat → Int32)} {m_rowSize : (Nat → Int32)} {m_rows : (Nat → Nat → Int64)} {m_moved : (Nat → Int64)} {m_shown : (Nat → Int32)} {m_tape : (Nat → Int32)} {m_tapeSize : Int32} {m_refused : (Nat → Int32)} {m_lines : Int32} {m_line : (Nat → Nat → Int32)} {m_changes : (Nat → Int32)} {m_coins : (Nat → Int32)} {m_goods : Int32} {m_good : (Nat → Nat → Int32)} {m_works : Int32} {m_work : (Nat → Nat → Int32)} {m_years : Int32} {m_gone : Int32} {m_spent : Int32} {m_at : Int32} {m_token : Int32} {m_from : Int32} {m_figures : Int64} {m_fault : Int32} {m_numbers : (Nat → Int32)} {m_statements : Int32} {m_left : (Nat → Int32)} {m_far : (Nat → Int32)} {m_tons : Int32} {m_way : (Nat → Int32)} {m_steps : Int32} {m_met : Int64} {m_queue : (Nat → Int32)} {m_totals : (Nat → Int32)} {p1 p2 er fr : Int32} {e0 f0 : Nat → Int32} (h_x1_lineCount : (0 ≤ x1_lineCount ∧ x1_lineCount ≤ 20)) (h_x1_goodsCount : (0 ≤ x1_goodsCount ∧ x1_goodsCount ≤ 8)) (h_x1_workCount : (0 ≤ x1_workCount ∧ x1_workCount ≤ 7)) (h_x1_years : (1 ≤ x1_years ∧ x1_years ≤ 30)) (h_x1_lines : (LnOk x1_lines)) (h_x1_goods : (GdOk x1_goods)) (h_x1_works : (WkOk x1_works)) (h_x1_change : (AI 0 99 x1_change)) (h_x1_coin : (AI 0 9 x1_coin)) (h_m_shelf : (AI 0 2 m_shelf)) (h_m_rowSize : (AI 0 40 m_rowSize)) (h_m_tapeSize : (0 ≤ m_tapeSize ∧ m_tapeSize ≤ 250)) (h_m_lines : (0 ≤ m_lines ∧ m_lines ≤ 20)) (h_m_line : (LnM m_line)) (h_m_changes : (AI 0 99 m_changes)) (h_m_coins : (AI 0 9 m_coins)) (h_m_goods : (0 ≤ m_goods ∧ m_goods ≤ 8)) (h_m_good : (GdM m_good)) (h_m_works : (0 ≤ m_works ∧ m_works ≤ 7)) (h_m_work : (WkM m_work)) (h_m_years : (1 ≤ m_years ∧ m_years ≤ 30)) (h_m_from : (0 ≤ m_from ∧ m_from ≤ 250)) (h_m_far : (AI 0 1000000000 m_far)) (h_m_way : (AI 0 22 m_way)) (h_m_steps : (0 ≤ m_steps ∧ m_steps ≤ 37)) (h_m_queue : (AI 0 35 m_queue)) (hA : (LaD x1_lineCount x1_goodsCount x1_workCount x1_years x1_lines x1_goods x1_works x1_change x1_coin m_lines m_line m_changes m_coins m_goods m_good m_works m_work m_years)) (eqA : fX6_goodsOf (x0_refused, x0_isKept, x0_gone, x0_spent) (x1_lineCount, x1_goodsCount, x1_workCount, x1_years, x1_lines, x1_goods, x1_works, x1_change, x1_coin, x1_knownFree, x1_isKnown) p1 p2 = some (er, e0)) (eqB : fX7_goodsOf (m_shelf, m_rowSort, m_rowSize, m_rows, m_moved, m_shown, m_tape, m_tapeSize, m_refused, m_lines, m_line, m_changes, m_coins, m_goods, m_good, m_works, m_work, m_years, m_gone, m_spent, m_at, m_token, m_from, m_figures, m_fault, m_numbers, m_statements, m_left, m_far, m_tons, m_way, m_steps, m_met, m_queue, m_totals) p1 p2 = some (fr, f0)) : er = fr := by
  have a := (GoodsOfC h_x1_lineCount h_x1_goodsCount h_x1_workCount h_x1_years h_x1_lines h_x1_goods h_x1_works h_x1_change h_x1_coin).at eqA
  have b := (GoodsOfR h_m_shelf h_m_rowSize h_m_tapeSize h_m_lines h_m_line h_m_changes h_m_coins h_m_goods h_m_good h_m_works h_m_work h_m_years h_m_from h_m_far h_m_way h_m_steps h_m_queue).at eqB
  have ec : x1_goodsCount = m_goods := hA.1.2.1
  rw [← ec] at b
  rcases AP_eq a b with ⟨⟨⟨c1, c2⟩, a1⟩, b1⟩ | ⟨e, _⟩
  · have hp : p1.toNatClampNeg < x1_goodsCount.toNatClampNeg := by
      have x := i32_cl c1.1
      have y := i32_cl h_x1_goodsCount.1
      have z := Int32.lt_iff_toInt_lt.mp c1.2
      omega
    have hq : p2.toNatClampNeg < 3 := i32_lt (M := 3) (N := 3) rfl ⟨c2.1, Int32.lt_of_le_of_lt c2.2 (by decide)⟩
    exact (a1.trans (hA.2.2.1 _ hp _ hq)).trans b1.symm
  · exact e
theorem WorkOfC {x0_refused : (Nat → Int32)} {x0_isKept : Int32} {x0_gone : Int32} {x0_spent : Int32} {x1_lineCount : Int32} {x1_goodsCount : Int32} {x1_workCount : Int32} {x1_years : Int32} {x1_lines : (Nat → Int32)} {x1_goods : (Nat → Int32)} {x1_works : (Nat → Int32)} {x1_change : (Nat → Int32)} {x1_coin : (Nat → Int32)} {x1_knownFree : (Nat → Int32)} {x1_isKnown : Int32} {p1 p2 : Int32} (h_x1_lineCount : (0 ≤ x1_lineCount ∧ x1_lineCount ≤ 20)) (h_x1_goodsCount : (0 ≤ x1_goodsCount ∧ x1_goodsCount ≤ 8)) (h_x1_workCount : (0 ≤ x1_workCount ∧ x1_workCount ≤ 7)) (h_x1_years : (1 ≤ x1_years ∧ x1_years ≤ 30)) (h_x1_lines : (LnOk x1_lines)) (h_x1_goods : (GdOk x1_goods)) (h_x1_works : (WkOk x1_works)) (h_x1_change : (AI 0 99 x1_change)) (h_x1_coin : (AI 0 9 x1_coin)) : Sf (fX6_workOf (x0_refused, x0_isKept, x0_gone, x0_spent) (x1_lineCount, x1_goodsCount, x1_workCount, x1_years, x1_lines, x1_goods, x1_works, x1_change, x1_coin, x1_knownFree, x1_isKnown) p1 p2) (fun r => AP ((0 ≤ p1 ∧ p1 < x1_workCount) ∧ (0 ≤ p2 ∧ p2 ≤ 4)) r.1 (((0 ≤ p1 ∧ p1 < x1_workCount) ∧ (0 ≤ p2 ∧ p2 ≤ 4)) ∧ r.1 = ro 5 x1_works p1.toNatClampNeg p2.toNatClampNeg) True) := by
  unfold fX6_workOf
  dsimp only [u4, u11]
  have no : ¬ ((0 ≤ p1 ∧ p1 < x1_workCount) ∧ (0 ≤ p2 ∧ p2 ≤ 4)) → Sf ((fX6_refuse (x0_refused, x0_isKept, x0_gone, x0_spent) (-2)).bind (u2 fun v g => some (v, g))) (fun r => AP ((0 ≤ p1 ∧ p1 < x1_workCount) ∧ (0 ≤ p2 ∧ p2 ≤ 4)) r.1 (((0 ≤ p1 ∧ p1 < x1_workCount) ∧ (0 ≤ p2 ∧ p2 ≤ 4)) ∧ r.1 = ro 5 x1_works p1.toNatClampNeg p2.toNatClampNeg) True) := by
    intro hV
    refine Sf.bind refC ?_
    rintro ⟨v, g⟩ e
    exact Sf.ok (Or.inr ⟨hV, e, trivial⟩)
  refine Sf.bind hasWorkS (fun v1 h1 => Sf.ite (fun hz => no (fun V => gd0 h1 hz ⟨V.1.1, by have h := V.1; have q := h_x1_workCount; clear V no h1; grind⟩)) (fun hz => ?_))
  have c0 := gd1 h1 hz
  have c1 : 0 ≤ p1 ∧ p1 < x1_workCount := ⟨c0.1, by have q := h_x1_workCount; clear no h1; grind⟩
  refine Sf.bind sX6_within (fun v6 h6 => Sf.ite (fun hz => no (fun V => gd0 h6 hz V.2)) (fun hz => ?_))
  have c2 := gd1 h6 hz
  have hp6 : 0 ≤ p1 ∧ p1 ≤ 6 := ⟨c1.1, by have q := h_x1_workCount; clear no h1 h6; grind⟩
  refine Sf.bind (ofWorkV h_x1_works hp6 ⟨c2.1, Int32.lt_of_le_of_lt c2.2 (by decide)⟩) (fun v8 e8 => ?_)
  exact Sf.ok (Or.inl ⟨⟨c1, c2⟩, ⟨c1, c2⟩, e8⟩)
theorem WorkOfR {x0_shelf : (Nat → Int32)} {x0_rowSort : (Nat → Int32)} {x0_rowSize : (Nat → Int32)} {x0_rows : (Nat → Nat → Int64)} {x0_moved : (Nat → Int64)} {x0_shown : (Nat → Int32)} {x0_tape : (Nat → Int32)} {x0_tapeSize : Int32} {x0_refused : (Nat → Int32)} {x0_lines : Int32} {x0_line : (Nat → Nat → Int32)} {x0_changes : (Nat → Int32)} {x0_coins : (Nat → Int32)} {x0_goods : Int32} {x0_good : (Nat → Nat → Int32)} {x0_works : Int32} {x0_work : (Nat → Nat → Int32)} {x0_years : Int32} {x0_gone : Int32} {x0_spent : Int32} {x0_at : Int32} {x0_token : Int32} {x0_from : Int32} {x0_figures : Int64} {x0_fault : Int32} {x0_numbers : (Nat → Int32)} {x0_statements : Int32} {x0_left : (Nat → Int32)} {x0_far : (Nat → Int32)} {x0_tons : Int32} {x0_way : (Nat → Int32)} {x0_steps : Int32} {x0_met : Int64} {x0_queue : (Nat → Int32)} {x0_totals : (Nat → Int32)} {p1 p2 : Int32} (h_x0_shelf : (AI 0 2 x0_shelf)) (h_x0_rowSize : (AI 0 40 x0_rowSize)) (h_x0_tapeSize : (0 ≤ x0_tapeSize ∧ x0_tapeSize ≤ 250)) (h_x0_lines : (0 ≤ x0_lines ∧ x0_lines ≤ 20)) (h_x0_line : (LnM x0_line)) (h_x0_changes : (AI 0 99 x0_changes)) (h_x0_coins : (AI 0 9 x0_coins)) (h_x0_goods : (0 ≤ x0_goods ∧ x0_goods ≤ 8)) (h_x0_good : (GdM x0_good)) (h_x0_works : (0 ≤ x0_works ∧ x0_works ≤ 7)) (h_x0_work : (WkM x0_work)) (h_x0_years : (1 ≤ x0_years ∧ x0_years ≤ 30)) (h_x0_from : (0 ≤ x0_from ∧ x0_from ≤ 250)) (h_x0_far : (AI 0 1000000000 x0_far)) (h_x0_way : (AI 0 22 x0_way)) (h_x0_steps : (0 ≤ x0_steps ∧ x0_steps ≤ 37)) (h_x0_queue : (AI 0 35 x0_queue)) : Sf (fX7_workOf (x0_shelf, x0_rowSort, x0_rowSize, x0_rows, x0_moved, x0_shown, x0_tape, x0_tapeSize, x0_refused, x0_lines, x0_line, x0_changes, x0_coins, x0_goods, x0_good, x0_works, x0_work, x0_years, x0_gone, x0_spent, x0_at, x0_token, x0_from, x0_figures, x0_fault, x0_numbers, x0_statements, x0_left, x0_far, x0_tons, x0_way, x0_steps, x0_met, x0_queue, x0_totals) p1 p2) (fun r => AP ((0 ≤ p1 ∧ p1 < x0_works) ∧ (0 ≤ p2 ∧ p2 ≤ 4)) r.1 (r.1 = x0_work p1.toNatClampNeg p2.toNatClampNeg) True) := by
  unfold fX7_workOf
  dsimp only [u35]
  have no : ¬ ((0 ≤ p1 ∧ p1 < x0_works) ∧ (0 ≤ p2 ∧ p2 ≤ 4)) → Sf ((fX7_refuse (x0_shelf, x0_rowSort, x0_rowSize, x0_rows, x0_moved, x0_shown, x0_tape, x0_tapeSize, x0_refused, x0_lines, x0_line, x0_changes, x0_coins, x0_goods, x0_good, x0_works, x0_work, x0_years, x0_gone, x0_spent, x0_at, x0_token, x0_from, x0_figures, x0_fault, x0_numbers, x0_statements, x0_left, x0_far, x0_tons, x0_way, x0_steps, x0_met, x0_queue, x0_totals) (-2)).bind (u2 fun v g => some (v, g))) (fun r => AP ((0 ≤ p1 ∧ p1 < x0_works) ∧ (0 ≤ p2 ∧ p2 ≤ 4)) r.1 (r.1 = x0_work p1.toNatClampNeg p2.toNatClampNeg) True) := by
    intro hV
    refine Sf.bind (sX7_refuse h_x0_shelf h_x0_rowSize h_x0_tapeSize h_x0_lines h_x0_line h_x0_changes h_x0_coins h_x0_goods h_x0_good h_x0_works h_x0_work h_x0_years h_x0_from h_x0_far h_x0_way h_x0_steps h_x0_queue (by decide)) ?_
    rintro ⟨v, g⟩ e
    exact Sf.ok (Or.inr ⟨hV, e, trivial⟩)
  have isl : Sf (fX7_isWork (x0_shelf, x0_rowSort, x0_rowSize, x0_rows, x0_moved, x0_shown, x0_tape, x0_tapeSize, x0_refused, x0_lines, x0_line, x0_changes, x0_coins, x0_goods, x0_good, x0_works, x0_work, x0_years, x0_gone, x0_spent, x0_at, x0_token, x0_from, x0_figures, x0_fault, x0_numbers, x0_statements, x0_left, x0_far, x0_tons, x0_way, x0_steps, x0_met, x0_queue, x0_totals) p1) (fun r => (r = 1 ∧ 0 ≤ p1 ∧ p1 < x0_works) ∨ (r = 0 ∧ ¬ (0 ≤ p1 ∧ p1 < x0_works))) := sX7_isWork h_x0_shelf h_x0_rowSize h_x0_tapeSize h_x0_lines h_x0_line h_x0_changes h_x0_coins h_x0_goods h_x0_good h_x0_works h_x0_work h_x0_years h_x0_from h_x0_far h_x0_way h_x0_steps h_x0_queue
  refine Sf.bind isl (fun v1 h1 => Sf.ite (fun hz => no (fun V => ?_)) (fun hz => ?_))
  · rcases h1 with h1 | h1
    · rw [h1.1] at hz; exact absurd hz (by decide)
    · exact h1.2 V.1
  have c1 : 0 ≤ p1 ∧ p1 < x0_works := by
    rcases h1 with h1 | h1
    · exact h1.2
    · exact absurd h1.1 hz
  refine Sf.bind (s_inq p2 0 4 (by decide) (by decide)) (fun v6 h6 => Sf.ite (fun hz => no (fun V => gd0 h6 hz V.2)) (fun hz => ?_))
  have c2 := gd1 h6 hz
  refine Sf.ckb 7 rfl ⟨c1.1, Int32.lt_of_lt_of_le c1.2 h_x0_works.2⟩ (fun q11 e11 _ => ?_)
  refine Sf.rdb 5 rfl ⟨c2.1, Int32.lt_of_le_of_lt c2.2 (by decide)⟩ (fun v12 e12 => ?_)
  refine Sf.ok (Or.inl ⟨⟨c1, c2⟩, ?_⟩)
  show v12 = _
  rw [e12, e11]
theorem dWorkOf {x0_refused : (Nat → Int32)} {x0_isKept : Int32} {x0_gone : Int32} {x0_spent : Int32} {x1_lineCount : Int32} {x1_goodsCount : Int32} {x1_workCount : Int32} {x1_years : Int32} {x1_lines : (Nat → Int32)} {x1_goods : (Nat → Int32)} {x1_works : (Nat → Int32)} {x1_change : (Nat → Int32)} {x1_coin : (Nat → Int32)} {x1_knownFree : (Nat → Int32)} {x1_isKnown : Int32} {m_shelf : (Nat → Int32)} {m_rowSort : (Nat → Int32)} {m_rowSize : (Nat → Int32)} {m_rows : (Nat → Nat → Int64)} {m_moved : (Nat → Int64)} {m_shown : (Nat → Int32)} {m_tape : (Nat → Int32)} {m_tapeSize : Int32} {m_refused : (Nat → Int32)} {m_lines : Int32} {m_line : (Nat → Nat → Int32)} {m_changes : (Nat → Int32)} {m_coins : (Nat → Int32)} {m_goods : Int32} {m_good : (Nat → Nat → Int32)} {m_works : Int32} {m_work : (Nat → Nat → Int32)} {m_years : Int32} {m_gone : Int32} {m_spent : Int32} {m_at : Int32} {m_token : Int32} {m_from : Int32} {m_figures : Int64} {m_fault : Int32} {m_numbers : (Nat → Int32)} {m_statements : Int32} {m_left : (Nat → Int32)} {m_far : (Nat → Int32)} {m_tons : Int32} {m_way : (Nat → Int32)} {m_steps : Int32} {m_met : Int64} {m_queue : (Nat → Int32)} {m_totals : (Nat → Int32)} {p1 p2 er fr : Int32} {e0 f0 : Nat → Int32} (h_x1_lineCount : (0 ≤ x1_lineCount ∧ x1_lineCount ≤ 20)) (h_x1_goodsCount : (0 ≤ x1_goodsCount ∧ x1_goodsCount ≤ 8)) (h_x1_workCount : (0 ≤ x1_workCount ∧ x1_workCount ≤ 7)) (h_x1_years : (1 ≤ x1_years ∧ x1_years ≤ 30)) (h_x1_lines : (LnOk x1_lines)) (h_x1_goods : (GdOk x1_goods)) (h_x1_works : (WkOk x1_works)) (h_x1_change : (AI 0 99 x1_change)) (h_x1_coin : (AI 0 9 x1_coin)) (h_m_shelf : (AI 0 2 m_shelf)) (h_m_rowSize : (AI 0 40 m_rowSize)) (h_m_tapeSize : (0 ≤ m_tapeSize ∧ m_tapeSize ≤ 250)) (h_m_lines : (0 ≤ m_lines ∧ m_lines ≤ 20)) (h_m_line : (LnM m_line)) (h_m_changes : (AI 0 99 m_changes)) (h_m_coins : (AI 0 9 m_coins)) (h_m_goods : (0 ≤ m_goods ∧ m_goods ≤ 8)) (h_m_good : (GdM m_good)) (h_m_works : (0 ≤ m_works ∧ m_works ≤ 7)) (h_m_work : (WkM m_work)) (h_m_years : (1 ≤ m_years ∧ m_years ≤ 30)) (h_m_from : (0 ≤ m_from ∧ m_from ≤ 250)) (h_m_far : (AI 0 1000000000 m_far)) (h_m_way : (AI 0 22 m_way)) (h_m_steps : (0 ≤ m_steps ∧ m_steps ≤ 37)) (h_m_queue : (AI 0 35 m_queue)) (hA : (LaD x1_lineCount x1_goodsCount x1_workCount x1_years x1_lines x1_goods x1_works x1_change x1_coin m_lines m_line m_changes m_coins m_goods m_good m_works m_work m_years)) (eqA : fX6_workOf (x0_refused, x0_isKept, x0_gone, x0_spent) (x1_lineCount, x1_goodsCount, x1_workCount, x1_years, x1_lines, x1_goods, x1_works, x1_change, x1_coin, x1_knownFree, x1_isKnown) p1 p2 = some (er, e0)) (eqB : fX7_workOf (m_shelf, m_rowSort, m_rowSize, m_rows, m_moved, m_shown, m_tape, m_tapeSize, m_refused, m_lines, m_line, m_changes, m_coins, m_goods, m_good, m_works, m_work, m_years, m_gone, m_spent, m_at, m_token, m_from, m_figures, m_fault, m_numbers, m_statements, m_left, m_far, m_tons, m_way, m_steps, m_met, m_queue, m_totals) p1 p2 = some (fr, f0)) : er = fr := by
  have a := (WorkOfC h_x1_lineCount h_x1_goodsCount h_x1_workCount h_x1_years h_x1_lines h_x1_goods h_x1_works h_x1_change h_x1_coin).at eqA
  have b := (WorkOfR h_m_shelf h_m_rowSize h_m_tapeSize h_m_lines h_m_line h_m_changes h_m_coins h_m_goods h_m_good h_m_works h_m_work h_m_years h_m_from h_m_far h_m_way h_m_steps h_m_queue).at eqB
  have ec : x1_workCount = m_works := hA.1.2.2.1
  rw [← ec] at b
  rcases AP_eq a b with ⟨⟨⟨c1, c2⟩, a1⟩, b1⟩ | ⟨e, _⟩
  · have hp : p1.toNatClampNeg < x1_workCount.toNatClampNeg := by
      have x := i32_cl c1.1
      have y := i32_cl h_x1_workCount.1
      have z := Int32.lt_iff_toInt_lt.mp c1.2
      omega
    have hq : p2.toNatClampNeg < 5 := i32_lt (M := 5) (N := 5) rfl ⟨c2.1, Int32.lt_of_le_of_lt c2.2 (by decide)⟩
    exact (a1.trans (hA.2.2.2.1 _ hp _ hq)).trans b1.symm
  · exact e
theorem dFree {n : Nat} {x0_refused : (Nat → Int32)} {x0_isKept : Int32} {x0_gone : Int32} {x0_spent : Int32} {x1_gained : Nat → Int32} {x2_lineCount : Int32} {x2_goodsCount : Int32} {x2_workCount : Int32} {x2_years : Int32} {x2_lines : (Nat → Int32)} {x2_goods : (Nat → Int32)} {x2_works : (Nat → Int32)} {x2_change : (Nat → Int32)} {x2_coin : (Nat → Int32)} {x2_knownFree : (Nat → Int32)} {x2_isKnown : Int32} {x3_lineCount : Int32} {x3_goodsCount : Int32} {x3_workCount : Int32} {x3_years : Int32} {x3_lines : (Nat → Int32)} {x3_goods : (Nat → Int32)} {x3_works : (Nat → Int32)} {x3_change : (Nat → Int32)} {x3_coin : (Nat → Int32)} {x3_knownFree : (Nat → Int32)} {x3_isKnown : Int32} {x4_left : (Nat → Int32)} {x4_earned : (Nat → Int32)} {x4_turnCost : Int32} {x4_turnWayless : Int32} {x5_edgeA : (Nat → Int32)} {x5_edgeB : (Nat → Int32)} {x5_edgeCost : (Nat → Int32)} {x5_edgeLine : (Nat → Int32)} {x5_change : (Nat → Int32)} {x5_away : (Nat → Int32)} {x5_steps : (Nat → Int32)} {x5_nodes : (Nat → Int32)} {x5_stepCount : Int32} {x5_open : (Nat → Int32)} {x5_openCount : Int32} {x5_seen : Int64} {x5_edgeCount : Int32} {x5_aim : Int32} {m_shelf : (Nat → Int32)} {m_rowSort : (Nat → Int32)} {m_rowSize : (Nat → Int32)} {m_rows : (Nat → Nat → Int64)} {m_moved : (Nat → Int64)} {m_shown : (Nat → Int32)} {m_tape : (Nat → Int32)} {m_tapeSize : Int32} {m_refused : (Nat → Int32)} {m_lines : Int32} {m_line : (Nat → Nat → Int32)} {m_changes : (Nat → Int32)} {m_coins : (Nat → Int32)} {m_goods : Int32} {m_good : (Nat → Nat → Int32)} {m_works : Int32} {m_work : (Nat → Nat → Int32)} {m_years : Int32} {m_gone : Int32} {m_spent : Int32} {m_at : Int32} {m_token : Int32} {m_from : Int32} {m_figures : Int64} {m_fault : Int32} {m_numbers : (Nat → Int32)} {m_statements : Int32} {m_left : (Nat → Int32)} {m_far : (Nat → Int32)} {m_tons : Int32} {m_way : (Nat → Int32)} {m_steps : Int32} {m_met : Int64} {m_queue : (Nat → Int32)} {m_totals : (Nat → Int32)} {A6 : Int32 × (Int32 × Int32 × Int32 × Int32 × (Nat → Int32) × (Nat → Int32) × (Nat → Int32) × (Nat → Int32) × (Nat → Int32) × Int32) × (Int32 × (Nat → Int32) × (Nat → Int32) × (Nat → Int32) × Int32) × ((Nat → Int32) × (Nat → Int32) × (Nat → Int32) × (Nat → Int32) × (Nat → Int32) × (Nat → Int32) × Int32 × Int32)} {B6 : Int32 × (Nat → Int32) × (Nat → Int32) × Int32} (hn : 1000000000000 ≤ n) (h_x2_lineCount : (0 ≤ x2_lineCount ∧ x2_lineCount ≤ 20)) (h_x2_goodsCount : (0 ≤ x2_goodsCount ∧ x2_goodsCount ≤ 8)) (h_x2_workCount : (0 ≤ x2_workCount ∧ x2_workCount ≤ 7)) (h_x2_years : (1 ≤ x2_years ∧ x2_years ≤ 30)) (h_x2_lines : (LnOk x2_lines)) (h_x2_goods : (GdOk x2_goods)) (h_x2_works : (WkOk x2_works)) (h_x2_change : (AI 0 99 x2_change)) (h_x2_coin : (AI 0 9 x2_coin)) (h_x3_lineCount : (0 ≤ x3_lineCount ∧ x3_lineCount ≤ 20)) (h_x3_goodsCount : (0 ≤ x3_goodsCount ∧ x3_goodsCount ≤ 8)) (h_x3_workCount : (0 ≤ x3_workCount ∧ x3_workCount ≤ 7)) (h_x3_years : (1 ≤ x3_years ∧ x3_years ≤ 30)) (h_x3_lines : (LnOk x3_lines)) (h_x3_goods : (GdOk x3_goods)) (h_x3_works : (WkOk x3_works)) (h_x3_change : (AI 0 99 x3_change)) (h_x3_coin : (AI 0 9 x3_coin)) (h_x5_edgeA : (AI 0 35 x5_edgeA)) (h_x5_edgeB : (AI 0 35 x5_edgeB)) (h_x5_edgeLine : (AI 0 19 x5_edgeLine)) (h_x5_steps : (AI 0 22 x5_steps)) (h_x5_nodes : (AI 0 35 x5_nodes)) (h_x5_stepCount : (0 ≤ x5_stepCount ∧ x5_stepCount ≤ 36)) (h_x5_open : (AI 0 35 x5_open)) (h_x5_openCount : (0 ≤ x5_openCount ∧ x5_openCount ≤ 36)) (h_x5_edgeCount : (0 ≤ x5_edgeCount ∧ x5_edgeCount ≤ 60)) (h_m_shelf : (AI 0 2 m_shelf)) (h_m_rowSize : (AI 0 40 m_rowSize)) (h_m_tapeSize : (0 ≤ m_tapeSize ∧ m_tapeSize ≤ 250)) (h_m_lines : (0 ≤ m_lines ∧ m_lines ≤ 20)) (h_m_line : (LnM m_line)) (h_m_changes : (AI 0 99 m_changes)) (h_m_coins : (AI 0 9 m_coins)) (h_m_goods : (0 ≤ m_goods ∧ m_goods ≤ 8)) (h_m_good : (GdM m_good)) (h_m_works : (0 ≤ m_works ∧ m_works ≤ 7)) (h_m_work : (WkM m_work)) (h_m_years : (1 ≤ m_years ∧ m_years ≤ 30)) (h_m_from : (0 ≤ m_from ∧ m_from ≤ 250)) (h_m_far : (AI 0 1000000000 m_far)) (h_m_way : (AI 0 22 m_way)) (h_m_steps : (0 ≤ m_steps ∧ m_steps ≤ 37)) (h_m_queue : (AI 0 35 m_queue)) (hA : (LaD x3_lineCount x3_goodsCount x3_workCount x3_years x3_lines x3_goods x3_works x3_change x3_coin m_lines m_line m_changes m_coins m_goods m_good m_works m_work m_years)) (hk : Kn (FrS x3_lineCount (ro 7 x3_lines) x3_change x3_coin (ro 3 x3_goods) x3_goodsCount (ro 5 x3_works) x3_workCount) x3_knownFree x3_isKnown) (eqA : fX6_free n (x0_refused, x0_isKept, x0_gone, x0_spent) x1_gained (x2_lineCount, x2_goodsCount, x2_workCount, x2_years, x2_lines, x2_goods, x2_works, x2_change, x2_coin, x2_knownFree, x2_isKnown) (x3_lineCount, x3_goodsCount, x3_workCount, x3_years, x3_lines, x3_goods, x3_works, x3_change, x3_coin, x3_knownFree, x3_isKnown) (x4_left, x4_earned, x4_turnCost, x4_turnWayless) (x5_edgeA, x5_edgeB, x5_edgeCost, x5_edgeLine, x5_change, x5_away, x5_steps, x5_nodes, x5_stepCount, x5_open, x5_openCount, x5_seen, x5_edgeCount, x5_aim) = some A6) (eqB : fX7_free n (m_shelf, m_rowSort, m_rowSize, m_rows, m_moved, m_shown, m_tape, m_tapeSize, m_refused, m_lines, m_line, m_changes, m_coins, m_goods, m_good, m_works, m_work, m_years, m_gone, m_spent, m_at, m_token, m_from, m_figures, m_fault, m_numbers, m_statements, m_left, m_far, m_tons, m_way, m_steps, m_met, m_queue, m_totals) = some B6) : A6.1 = B6.1 := by
  have a := ((kFree hn h_x2_lineCount h_x2_goodsCount h_x2_workCount h_x2_years h_x2_lines h_x2_goods h_x2_works h_x2_change h_x2_coin h_x3_lineCount h_x3_goodsCount h_x3_workCount h_x3_years h_x3_lines h_x3_goods h_x3_works h_x3_change h_x3_coin h_x5_edgeA h_x5_edgeB h_x5_edgeLine h_x5_steps h_x5_nodes h_x5_stepCount h_x5_open h_x5_openCount h_x5_edgeCount hA.2.2.2.2.2.2 hk).at eqA).1
  have b := (freeR hn h_m_shelf h_m_rowSize h_m_tapeSize h_m_lines h_m_line h_m_changes h_m_coins h_m_goods h_m_good h_m_works h_m_work h_m_years h_m_from h_m_far h_m_way h_m_steps h_m_queue).at eqB
  obtain ⟨⟨z1, z2, z3, z4⟩, z5, z6, z7, z8, z9, z10⟩ := id hA
  have q := FrA_congr (G := x3_goodsCount) hA.s.1 z9 z6
  rw [a, b, q, z2]
  rfl
theorem dFirst {n : Nat} {x0_refused : (Nat → Int32)} {x0_isKept : Int32} {x0_gone : Int32} {x0_spent : Int32} {x1_gained : Nat → Int32} {x2_lineCount : Int32} {x2_goodsCount : Int32} {x2_workCount : Int32} {x2_years : Int32} {x2_lines : (Nat → Int32)} {x2_goods : (Nat → Int32)} {x2_works : (Nat → Int32)} {x2_change : (Nat → Int32)} {x2_coin : (Nat → Int32)} {x2_knownFree : (Nat → Int32)} {x2_isKnown : Int32} {x3_lineCount : Int32} {x3_goodsCount : Int32} {x3_workCount : Int32} {x3_years : Int32} {x3_lines : (Nat → Int32)} {x3_goods : (Nat → Int32)} {x3_works : (Nat → Int32)} {x3_change : (Nat → Int32)} {x3_coin : (Nat → Int32)} {x3_knownFree : (Nat → Int32)} {x3_isKnown : Int32} {x4_left : (Nat → Int32)} {x4_earned : (Nat → Int32)} {x4_turnCost : Int32} {x4_turnWayless : Int32} {x5_edgeA : (Nat → Int32)} {x5_edgeB : (Nat → Int32)} {x5_edgeCost : (Nat → Int32)} {x5_edgeLine : (Nat → Int32)} {x5_change : (Nat → Int32)} {x5_away : (Nat → Int32)} {x5_steps : (Nat → Int32)} {x5_nodes : (Nat → Int32)} {x5_stepCount : Int32} {x5_open : (Nat → Int32)} {x5_openCount : Int32} {x5_seen : Int64} {x5_edgeCount : Int32} {x5_aim : Int32} {m_shelf : (Nat → Int32)} {m_rowSort : (Nat → Int32)} {m_rowSize : (Nat → Int32)} {m_rows : (Nat → Nat → Int64)} {m_moved : (Nat → Int64)} {m_shown : (Nat → Int32)} {m_tape : (Nat → Int32)} {m_tapeSize : Int32} {m_refused : (Nat → Int32)} {m_lines : Int32} {m_line : (Nat → Nat → Int32)} {m_changes : (Nat → Int32)} {m_coins : (Nat → Int32)} {m_goods : Int32} {m_good : (Nat → Nat → Int32)} {m_works : Int32} {m_work : (Nat → Nat → Int32)} {m_years : Int32} {m_gone : Int32} {m_spent : Int32} {m_at : Int32} {m_token : Int32} {m_from : Int32} {m_figures : Int64} {m_fault : Int32} {m_numbers : (Nat → Int32)} {m_statements : Int32} {m_left : (Nat → Int32)} {m_far : (Nat → Int32)} {m_tons : Int32} {m_way : (Nat → Int32)} {m_steps : Int32} {m_met : Int64} {m_queue : (Nat → Int32)} {m_totals : (Nat → Int32)} {t_shelf : (Nat → Int32)} {t_rowSort : (Nat → Int32)} {t_rowSize : (Nat → Int32)} {t_rows : (Nat → Nat → Int64)} {t_moved : (Nat → Int64)} {t_shown : (Nat → Int32)} {t_tape : (Nat → Int32)} {t_tapeSize : Int32} {t_refused : (Nat → Int32)} {t_lines : Int32} {t_line : (Nat → Nat → Int32)} {t_changes : (Nat → Int32)} {t_coins : (Nat → Int32)} {t_goods : Int32} {t_good : (Nat → Nat → Int32)} {t_works : Int32} {t_work : (Nat → Nat → Int32)} {t_years : Int32} {t_gone : Int32} {t_spent : Int32} {t_at : Int32} {t_token : Int32} {t_from : Int32} {t_figures : Int64} {t_fault : Int32} {t_numbers : (Nat → Int32)} {t_statements : Int32} {t_left : (Nat → Int32)} {t_far : (Nat → Int32)} {t_tons : Int32} {t_way : (Nat → Int32)} {t_steps : Int32} {t_met : Int64} {t_queue : (Nat → Int32)} {t_totals : (Nat → Int32)} {er fr : Int32} {A6 : (Int32 × Int32 × Int32 × Int32 × (Nat → Int32) × (Nat → Int32) × (Nat → Int32) × (Nat → Int32) × (Nat → Int32) × Int32) × (Int32 × (Nat → Int32) × (Nat → Int32) × (Nat → Int32) × Int32) × ((Nat → Int32) × (Nat → Int32) × (Nat → Int32) × (Nat → Int32) × (Nat → Int32) × (Nat → Int32) × Int32 × Int32)} {B6 : Int32 × (Nat → Nat → Int32) × (Nat → Int32) × (Nat → Int32) × Int32 × (Nat → Nat → Int32) × Int32 × (Nat → Nat → Int32) × Int32 × Int32 × Int32 × (Nat → Int32) × (Nat → Int32) × Int32} (hn : 1000000000000 ≤ n) (h_x2_lineCount : (0 ≤ x2_lineCount ∧ x2_lineCount ≤ 20)) (h_x2_goodsCount : (0 ≤ x2_goodsCount ∧ x2_goodsCount ≤ 8)) (h_x2_workCount : (0 ≤ x2_workCount ∧ x2_workCount ≤ 7)) (h_x2_years : (1 ≤ x2_years ∧ x2_years ≤ 30)) (h_x2_lines : (LnOk x2_lines)) (h_x2_goods : (GdOk x2_goods)) (h_x2_works : (WkOk x2_works)) (h_x2_change : (AI 0 99 x2_change)) (h_x2_coin : (AI 0 9 x2_coin)) (h_x3_lineCount : (0 ≤ x3_lineCount ∧ x3_lineCount ≤ 20)) (h_x3_goodsCount : (0 ≤ x3_goodsCount ∧ x3_goodsCount ≤ 8)) (h_x3_workCount : (0 ≤ x3_workCount ∧ x3_workCount ≤ 7)) (h_x3_years : (1 ≤ x3_years ∧ x3_years ≤ 30)) (h_x3_lines : (LnOk x3_lines)) (h_x3_goods : (GdOk x3_goods)) (h_x3_works : (WkOk x3_works)) (h_x3_change : (AI 0 99 x3_change)) (h_x3_coin : (AI 0 9 x3_coin)) (h_x5_edgeA : (AI 0 35 x5_edgeA)) (h_x5_edgeB : (AI 0 35 x5_edgeB)) (h_x5_edgeLine : (AI 0 19 x5_edgeLine)) (h_x5_steps : (AI 0 22 x5_steps)) (h_x5_nodes : (AI 0 35 x5_nodes)) (h_x5_stepCount : (0 ≤ x5_stepCount ∧ x5_stepCount ≤ 36)) (h_x5_open : (AI 0 35 x5_open)) (h_x5_openCount : (0 ≤ x5_openCount ∧ x5_openCount ≤ 36)) (h_x5_edgeCount : (0 ≤ x5_edgeCount ∧ x5_edgeCount ≤ 60)) (h_m_shelf : (AI 0 2 m_shelf)) (h_m_rowSize : (AI 0 40 m_rowSize)) (h_m_tapeSize : (0 ≤ m_tapeSize ∧ m_tapeSize ≤ 250)) (h_m_lines : (0 ≤ m_lines ∧ m_lines ≤ 20)) (h_m_line : (LnM m_line)) (h_m_changes : (AI 0 99 m_changes)) (h_m_coins : (AI 0 9 m_coins)) (h_m_goods : (0 ≤ m_goods ∧ m_goods ≤ 8)) (h_m_good : (GdM m_good)) (h_m_works : (0 ≤ m_works ∧ m_works ≤ 7)) (h_m_work : (WkM m_work)) (h_m_years : (1 ≤ m_years ∧ m_years ≤ 30)) (h_m_from : (0 ≤ m_from ∧ m_from ≤ 250)) (h_m_far : (AI 0 1000000000 m_far)) (h_m_way : (AI 0 22 m_way)) (h_m_steps : (0 ≤ m_steps ∧ m_steps ≤ 37)) (h_m_queue : (AI 0 35 m_queue)) (h_t_shelf : (AI 0 2 t_shelf)) (h_t_rowSize : (AI 0 40 t_rowSize)) (h_t_tapeSize : (0 ≤ t_tapeSize ∧ t_tapeSize ≤ 250)) (h_t_lines : (0 ≤ t_lines ∧ t_lines ≤ 20)) (h_t_line : (LnM t_line)) (h_t_changes : (AI 0 99 t_changes)) (h_t_coins : (AI 0 9 t_coins)) (h_t_goods : (0 ≤ t_goods ∧ t_goods ≤ 8)) (h_t_good : (GdM t_good)) (h_t_works : (0 ≤ t_works ∧ t_works ≤ 7)) (h_t_work : (WkM t_work)) (h_t_years : (1 ≤ t_years ∧ t_years ≤ 30)) (h_t_from : (0 ≤ t_from ∧ t_from ≤ 250)) (h_t_far : (AI 0 1000000000 t_far)) (h_t_way : (AI 0 22 t_way)) (h_t_steps : (0 ≤ t_steps ∧ t_steps ≤ 37)) (h_t_queue : (AI 0 35 t_queue)) (hA : (LaD x3_lineCount x3_goodsCount x3_workCount x3_years x3_lines x3_goods x3_works x3_change x3_coin m_lines m_line m_changes m_coins m_goods m_good m_works m_work m_years)) (hk : Kn (FrS x3_lineCount (ro 7 x3_lines) x3_change x3_coin (ro 3 x3_goods) x3_goodsCount (ro 5 x3_works) x3_workCount) x3_knownFree x3_isKnown) (eqA : fX6_first n (x0_refused, x0_isKept, x0_gone, x0_spent) x1_gained (x2_lineCount, x2_goodsCount, x2_workCount, x2_years, x2_lines, x2_goods, x2_works, x2_change, x2_coin, x2_knownFree, x2_isKnown) (x3_lineCount, x3_goodsCount, x3_workCount, x3_years, x3_lines, x3_goods, x3_works, x3_change, x3_coin, x3_knownFree, x3_isKnown) (x4_left, x4_earned, x4_turnCost, x4_turnWayless) (x5_edgeA, x5_edgeB, x5_edgeCost, x5_edgeLine, x5_change, x5_away, x5_steps, x5_nodes, x5_stepCount, x5_open, x5_openCount, x5_seen, x5_edgeCount, x5_aim) = some (er, A6)) (eqB : fX7_first n (m_shelf, m_rowSort, m_rowSize, m_rows, m_moved, m_shown, m_tape, m_tapeSize, m_refused, m_lines, m_line, m_changes, m_coins, m_goods, m_good, m_works, m_work, m_years, m_gone, m_spent, m_at, m_token, m_from, m_figures, m_fault, m_numbers, m_statements, m_left, m_far, m_tons, m_way, m_steps, m_met, m_queue, m_totals) (t_shelf, t_rowSort, t_rowSize, t_rows, t_moved, t_shown, t_tape, t_tapeSize, t_refused, t_lines, t_line, t_changes, t_coins, t_goods, t_good, t_works, t_work, t_years, t_gone, t_spent, t_at, t_token, t_from, t_figures, t_fault, t_numbers, t_statements, t_left, t_far, t_tons, t_way, t_steps, t_met, t_queue, t_totals) = some (fr, B6)) : er = fr := by
  have a := ((kFirst hn h_x2_lineCount h_x2_goodsCount h_x2_workCount h_x2_years h_x2_lines h_x2_goods h_x2_works h_x2_change h_x2_coin h_x3_lineCount h_x3_goodsCount h_x3_workCount h_x3_years h_x3_lines h_x3_goods h_x3_works h_x3_change h_x3_coin h_x5_edgeA h_x5_edgeB h_x5_edgeLine h_x5_steps h_x5_nodes h_x5_stepCount h_x5_open h_x5_openCount h_x5_edgeCount hA.2.2.2.2.2.2 hk).at eqA).1
  obtain ⟨⟨z1, z2, z3, z4⟩, z5, z6, z7, z8, z9, z10⟩ := id hA
  have hS := hA.s
  subst z1 z2 z3 z4
  have hW : WfS x3_workCount.toNatClampNeg ((x3_lineCount, ro 7 x3_lines, x3_change), ro 5 x3_works) := ⟨h_x3_lineCount, z10⟩
  have hW2 := hW.congr hS
  have b := (firstR hn h_m_shelf h_m_rowSize h_m_tapeSize h_x3_lineCount h_m_line h_m_changes h_m_coins h_x3_goodsCount h_m_good h_x3_workCount h_m_work h_x3_years h_m_from h_m_far h_m_way h_m_steps h_m_queue h_t_shelf h_t_rowSize h_t_tapeSize h_t_lines h_t_line h_t_changes h_t_coins h_t_goods h_t_good h_t_works h_t_work h_t_years h_t_from h_t_far h_t_way h_t_steps h_t_queue hW2.2).at eqB
  have q := SEq.fir (coins := x3_coin) (coins' := m_coins) (good := ro 3 x3_goods) (good' := m_good) (G := x3_goodsCount) (yr := x3_years) hS hW z9 z6
  exact (a.trans q).trans b.symm
end
section
/-! worth: what it answers on both sides -/
theorem worthR {n : Nat} {x0_shelf : (Nat → Int32)} {x0_rowSort : (Nat → Int32)} {x0_rowSize : (Nat → Int32)} {x0_rows : (Nat → Nat → Int64)} {x0_moved : (Nat → Int64)} {x0_shown : (Nat → Int32)} {x0_tape : (Nat → Int32)} {x0_tapeSize : Int32} {x0_refused : (Nat → Int32)} {x0_lines : Int32} {x0_line : (Nat → Nat → Int32)} {x0_changes : (Nat → Int32)} {x0_coins : (Nat → Int32)} {x0_goods : Int32} {x0_good : (Nat → Nat → Int32)} {x0_works : Int32} {x0_work : (Nat → Nat → Int32)} {x0_years : Int32} {x0_gone : Int32} {x0_spent : Int32} {x0_at : Int32} {x0_token : Int32} {x0_from : Int32} {x0_figures : Int64} {x0_fault : Int32} {x0_numbers : (Nat → Int32)} {x0_statements : Int32} {x0_left : (Nat → Int32)} {x0_far : (Nat → Int32)} {x0_tons : Int32} {x0_way : (Nat → Int32)} {x0_steps : Int32} {x0_met : Int64} {x0_queue : (Nat → Int32)} {x0_totals : (Nat → Int32)} {x1_shelf : (Nat → Int32)} {x1_rowSort : (Nat → Int32)} {x1_rowSize : (Nat → Int32)} {x1_rows : (Nat → Nat → Int64)} {x1_moved : (Nat → Int64)} {x1_shown : (Nat → Int32)} {x1_tape : (Nat → Int32)} {x1_tapeSize : Int32} {x1_refused : (Nat → Int32)} {x1_lines : Int32} {x1_line : (Nat → Nat → Int32)} {x1_changes : (Nat → Int32)} {x1_coins : (Nat → Int32)} {x1_goods : Int32} {x1_good : (Nat → Nat → Int32)} {x1_works : Int32} {x1_work : (Nat → Nat → Int32)} {x1_years : Int32} {x1_gone : Int32} {x1_spent : Int32} {x1_at : Int32} {x1_token : Int32} {x1_from : Int32} {x1_figures : Int64} {x1_fault : Int32} {x1_numbers : (Nat → Int32)} {x1_statements : Int32} {x1_left : (Nat → Int32)} {x1_far : (Nat → Int32)} {x1_tons : Int32} {x1_way : (Nat → Int32)} {x1_steps : Int32} {x1_met : Int64} {x1_queue : (Nat → Int32)} {x1_totals : (Nat → Int32)} {p1 : Int32} (hn : 1000000000000 ≤ n) (h_x0_shelf : (AI 0 2 x0_shelf)) (h_x0_rowSize : (AI 0 40 x0_rowSize)) (h_x0_tapeSize : (0 ≤ x0_tapeSize ∧ x0_tapeSize ≤ 250)) (h_x0_lines : (0 ≤ x0_lines ∧ x0_lines ≤ 20)) (h_x0_line : (LnM x0_line)) (h_x0_changes : (AI 0 99 x0_changes)) (h_x0_coins : (AI 0 9 x0_coins)) (h_x0_goods : (0 ≤ x0_goods ∧ x0_goods ≤ 8)) (h_x0_good : (GdM x0_good)) (h_x0_works : (0 ≤ x0_works ∧ x0_works ≤ 7)) (h_x0_work : (WkM x0_work)) (h_x0_years : (1 ≤ x0_years ∧ x0_years ≤ 30)) (h_x0_from : (0 ≤ x0_from ∧ x0_from ≤ 250)) (h_x0_far : (AI 0 1000000000 x0_far)) (h_x0_way : (AI 0 22 x0_way)) (h_x0_steps : (0 ≤ x0_steps ∧ x0_steps ≤ 37)) (h_x0_queue : (AI 0 35 x0_queue)) (h_x1_shelf : (AI 0 2 x1_shelf)) (h_x1_rowSize : (AI 0 40 x1_rowSize)) (h_x1_tapeSize : (0 ≤ x1_tapeSize ∧ x1_tapeSize ≤ 250)) (h_x1_lines : (0 ≤ x1_lines ∧ x1_lines ≤ 20)) (h_x1_line : (LnM x1_line)) (h_x1_changes : (AI 0 99 x1_changes)) (h_x1_coins : (AI 0 9 x1_coins)) (h_x1_goods : (0 ≤ x1_goods ∧ x1_goods ≤ 8)) (h_x1_good : (GdM x1_good)) (h_x1_works : (0 ≤ x1_works ∧ x1_works ≤ 7)) (h_x1_work : (WkM x1_work)) (h_x1_years : (1 ≤ x1_years ∧ x1_years ≤ 30)) (h_x1_from : (0 ≤ x1_from ∧ x1_from ≤ 250)) (h_x1_far : (AI 0 1000000000 x1_far)) (h_x1_way : (AI 0 22 x1_way)) (h_x1_steps : (0 ≤ x1_steps ∧ x1_steps ≤ 37)) (h_x1_queue : (AI 0 35 x1_queue)) (hf : ∀ k, k < x0_works.toNatClampNeg → Wf1 x0_work x0_lines k) : Sf (fX7_worth n (x0_shelf, x0_rowSort, x0_rowSize, x0_rows, x0_moved, x0_shown, x0_tape, x0_tapeSize, x0_refused, x0_lines, x0_line, x0_changes, x0_coins, x0_goods, x0_good, x0_works, x0_work, x0_years, x0_gone, x0_spent, x0_at, x0_token, x0_from, x0_figures, x0_fault, x0_numbers, x0_statements, x0_left, x0_far, x0_tons, x0_way, x0_steps, x0_met, x0_queue, x0_totals) (x1_shelf, x1_rowSort, x1_rowSize, x1_rows, x1_moved, x1_shown, x1_tape, x1_tapeSize, x1_refused, x1_lines, x1_line, x1_changes, x1_coins, x1_goods, x1_good, x1_works, x1_work, x1_years, x1_gone, x1_spent, x1_at, x1_token, x1_from, x1_figures, x1_fault, x1_numbers, x1_statements, x1_left, x1_far, x1_tons, x1_way, x1_steps, x1_met, x1_queue, x1_totals) p1) (fun r => ((0 ≤ p1 ∧ p1.toNatClampNeg < x0_works.toNatClampNeg) ∧ x0_work p1.toNatClampNeg 4 = 0 ∧ r.1 = WoA (x0_lines, x0_line, x0_changes) x0_coins x0_good x0_goods x0_work x0_years p1.toNatClampNeg) ∨ (¬ (0 ≤ p1 ∧ p1.toNatClampNeg < x0_works.toNatClampNeg) ∧ r.1 = -1000002) ∨ ((0 ≤ p1 ∧ p1.toNatClampNeg < x0_works.toNatClampNeg) ∧ ¬ x0_work p1.toNatClampNeg 4 = 0 ∧ r.1 = -1000005)) := by
  unfold fX7_worth
  dsimp only [u35]
  refine Sf.bind (sX7_isWork h_x0_shelf h_x0_rowSize h_x0_tapeSize h_x0_lines h_x0_line h_x0_changes h_x0_coins h_x0_goods h_x0_good h_x0_works h_x0_work h_x0_years h_x0_from h_x0_far h_x0_way h_x0_steps h_x0_queue) (fun v1 h1 => Sf.ite (fun hz => ?_) (fun hz => ?_))
  · refine Sf.bind (sX7_refuse h_x0_shelf h_x0_rowSize h_x0_tapeSize h_x0_lines h_x0_line h_x0_changes h_x0_coins h_x0_goods h_x0_good h_x0_works h_x0_work h_x0_years h_x0_from h_x0_far h_x0_way h_x0_steps h_x0_queue (by decide)) ?_
    rintro ⟨v, g⟩ e
    have e : v = -2 := e
    refine Sf.ok (Or.inr (Or.inl ⟨fun h => ?_, (show v - 1000000 = -1000002 by rw [e]; decide)⟩))
    have q := (okK_lt h_x0_works h).1
    rcases h1 with h1 | h1
    · rw [h1.1] at hz; exact absurd hz (by decide)
    · exact h1.2 q
  have hp : 0 ≤ p1 ∧ p1 < x0_works := by
    rcases h1 with h | h
    · exact h.2
    · exact absurd h.1 hz
  have hpn : 0 ≤ p1 ∧ p1.toNatClampNeg < x0_works.toNatClampNeg := by
    have a := i32_cl hp.1
    have b := i32_cl h_x0_works.1
    have c := Int32.lt_iff_toInt_lt.mp hp.2
    exact ⟨hp.1, by omega⟩
  have hp6 := (okK_lt h_x0_works hpn).2
  refine Sf.ckb 7 rfl ⟨hp6.1, Int32.lt_of_le_of_lt hp6.2 (by decide)⟩ (fun q3 e3 _ => ?_)
  refine Sf.rdl 4 rfl rfl (fun v4 e4 => ?_)
  rw [e3] at e4
  have b4 : 0 ≤ v4 ∧ v4 ≤ 1 := by rw [e4]; exact h_x0_work.1 p1.toNatClampNeg 4
  refine Sf.ite (fun hv => ?_) (fun hv => ?_)
  · refine Sf.bind (sX7_refuse h_x0_shelf h_x0_rowSize h_x0_tapeSize h_x0_lines h_x0_line h_x0_changes h_x0_coins h_x0_goods h_x0_good h_x0_works h_x0_work h_x0_years h_x0_from h_x0_far h_x0_way h_x0_steps h_x0_queue (by decide)) ?_
    rintro ⟨v, g⟩ e
    have e : v = -5 := e
    refine Sf.ok (Or.inr (Or.inr ⟨hpn, fun h => ?_, (show v - 1000000 = -1000005 by rw [e]; decide)⟩))
    rw [← e4, hv] at h
    exact absurd h (by decide)
  · have h0 : x0_work p1.toNatClampNeg 4 = 0 := by
      rw [← e4]
      clear h1 e4 hf
      grind
    refine Sf.bind (worthOfR hn h_x0_shelf h_x0_rowSize h_x0_tapeSize h_x0_lines h_x0_line h_x0_changes h_x0_coins h_x0_goods h_x0_good h_x0_works h_x0_work h_x0_years h_x0_from h_x0_far h_x0_way h_x0_steps h_x0_queue h_x1_shelf h_x1_rowSize h_x1_tapeSize h_x1_lines h_x1_line h_x1_changes h_x1_coins h_x1_goods h_x1_good h_x1_works h_x1_work h_x1_years h_x1_from h_x1_far h_x1_way h_x1_steps h_x1_queue hp6 (hf _ hpn.2)) ?_
    rintro ⟨v5, g7, g8, g9, g10, g11, g12, g13, g14, g15, g16, g17, g18, g19, g20⟩ e5
    exact Sf.ok (Or.inl ⟨hpn, h0, e5⟩)
theorem dWorth {n : Nat} {x0_refused : (Nat → Int32)} {x0_isKept : Int32} {x0_gone : Int32} {x0_spent : Int32} {x1_gained : Nat → Int32} {x2_lineCount : Int32} {x2_goodsCount : Int32} {x2_workCount : Int32} {x2_years : Int32} {x2_lines : (Nat → Int32)} {x2_goods : (Nat → Int32)} {x2_works : (Nat → Int32)} {x2_change : (Nat → Int32)} {x2_coin : (Nat → Int32)} {x2_knownFree : (Nat → Int32)} {x2_isKnown : Int32} {x3_lineCount : Int32} {x3_goodsCount : Int32} {x3_workCount : Int32} {x3_years : Int32} {x3_lines : (Nat → Int32)} {x3_goods : (Nat → Int32)} {x3_works : (Nat → Int32)} {x3_change : (Nat → Int32)} {x3_coin : (Nat → Int32)} {x3_knownFree : (Nat → Int32)} {x3_isKnown : Int32} {x4_left : (Nat → Int32)} {x4_earned : (Nat → Int32)} {x4_turnCost : Int32} {x4_turnWayless : Int32} {x5_edgeA : (Nat → Int32)} {x5_edgeB : (Nat → Int32)} {x5_edgeCost : (Nat → Int32)} {x5_edgeLine : (Nat → Int32)} {x5_change : (Nat → Int32)} {x5_away : (Nat → Int32)} {x5_steps : (Nat → Int32)} {x5_nodes : (Nat → Int32)} {x5_stepCount : Int32} {x5_open : (Nat → Int32)} {x5_openCount : Int32} {x5_seen : Int64} {x5_edgeCount : Int32} {x5_aim : Int32} {m_shelf : (Nat → Int32)} {m_rowSort : (Nat → Int32)} {m_rowSize : (Nat → Int32)} {m_rows : (Nat → Nat → Int64)} {m_moved : (Nat → Int64)} {m_shown : (Nat → Int32)} {m_tape : (Nat → Int32)} {m_tapeSize : Int32} {m_refused : (Nat → Int32)} {m_lines : Int32} {m_line : (Nat → Nat → Int32)} {m_changes : (Nat → Int32)} {m_coins : (Nat → Int32)} {m_goods : Int32} {m_good : (Nat → Nat → Int32)} {m_works : Int32} {m_work : (Nat → Nat → Int32)} {m_years : Int32} {m_gone : Int32} {m_spent : Int32} {m_at : Int32} {m_token : Int32} {m_from : Int32} {m_figures : Int64} {m_fault : Int32} {m_numbers : (Nat → Int32)} {m_statements : Int32} {m_left : (Nat → Int32)} {m_far : (Nat → Int32)} {m_tons : Int32} {m_way : (Nat → Int32)} {m_steps : Int32} {m_met : Int64} {m_queue : (Nat → Int32)} {m_totals : (Nat → Int32)} {t_shelf : (Nat → Int32)} {t_rowSort : (Nat → Int32)} {t_rowSize : (Nat → Int32)} {t_rows : (Nat → Nat → Int64)} {t_moved : (Nat → Int64)} {t_shown : (Nat → Int32)} {t_tape : (Nat → Int32)} {t_tapeSize : Int32} {t_refused : (Nat → Int32)} {t_lines : Int32} {t_line : (Nat → Nat → Int32)} {t_changes : (Nat → Int32)} {t_coins : (Nat → Int32)} {t_goods : Int32} {t_good : (Nat → Nat → Int32)} {t_works : Int32} {t_work : (Nat → Nat → Int32)} {t_years : Int32} {t_gone : Int32} {t_spent : Int32} {t_at : Int32} {t_token : Int32} {t_from : Int32} {t_figures : Int64} {t_fault : Int32} {t_numbers : (Nat → Int32)} {t_statements : Int32} {t_left : (Nat → Int32)} {t_far : (Nat → Int32)} {t_tons : Int32} {t_way : (Nat → Int32)} {t_steps : Int32} {t_met : Int64} {t_queue : (Nat → Int32)} {t_totals : (Nat → Int32)} {p1 er fr : Int32} {A6 : (Nat → Int32) × (Int32 × Int32 × Int32 × Int32 × (Nat → Int32) × (Nat → Int32) × (Nat → Int32) × (Nat → Int32) × (Nat → Int32) × Int32) × (Int32 × (Nat → Int32) × (Nat → Int32) × (Nat → Int32) × Int32) × ((Nat → Int32) × (Nat → Int32) × (Nat → Int32) × (Nat → Int32) × (Nat → Int32) × (Nat → Int32) × Int32 × Int32)} {B6 : (Nat → Int32) × (Int32 × (Nat → Nat → Int32) × (Nat → Int32) × (Nat → Int32) × Int32 × (Nat → Nat → Int32) × Int32 × (Nat → Nat → Int32) × Int32 × Int32 × Int32 × (Nat → Int32) × (Nat → Int32) × Int32)} (hn : 1000000000000 ≤ n) (h_x2_lineCount : (0 ≤ x2_lineCount ∧ x2_lineCount ≤ 20)) (h_x2_goodsCount : (0 ≤ x2_goodsCount ∧ x2_goodsCount ≤ 8)) (h_x2_workCount : (0 ≤ x2_workCount ∧ x2_workCount ≤ 7)) (h_x2_years : (1 ≤ x2_years ∧ x2_years ≤ 30)) (h_x2_lines : (LnOk x2_lines)) (h_x2_goods : (GdOk x2_goods)) (h_x2_works : (WkOk x2_works)) (h_x2_change : (AI 0 99 x2_change)) (h_x2_coin : (AI 0 9 x2_coin)) (h_x3_lineCount : (0 ≤ x3_lineCount ∧ x3_lineCount ≤ 20)) (h_x3_goodsCount : (0 ≤ x3_goodsCount ∧ x3_goodsCount ≤ 8)) (h_x3_workCount : (0 ≤ x3_workCount ∧ x3_workCount ≤ 7)) (h_x3_years : (1 ≤ x3_years ∧ x3_years ≤ 30)) (h_x3_lines : (LnOk x3_lines)) (h_x3_goods : (GdOk x3_goods)) (h_x3_works : (WkOk x3_works)) (h_x3_change : (AI 0 99 x3_change)) (h_x3_coin : (AI 0 9 x3_coin)) (h_x5_edgeA : (AI 0 35 x5_edgeA)) (h_x5_edgeB : (AI 0 35 x5_edgeB)) (h_x5_edgeLine : (AI 0 19 x5_edgeLine)) (h_x5_steps : (AI 0 22 x5_steps)) (h_x5_nodes : (AI 0 35 x5_nodes)) (h_x5_stepCount : (0 ≤ x5_stepCount ∧ x5_stepCount ≤ 36)) (h_x5_open : (AI 0 35 x5_open)) (h_x5_openCount : (0 ≤ x5_openCount ∧ x5_openCount ≤ 36)) (h_x5_edgeCount : (0 ≤ x5_edgeCount ∧ x5_edgeCount ≤ 60)) (h_m_shelf : (AI 0 2 m_shelf)) (h_m_rowSize : (AI 0 40 m_rowSize)) (h_m_tapeSize : (0 ≤ m_tapeSize ∧ m_tapeSize ≤ 250)) (h_m_lines : (0 ≤ m_lines ∧ m_lines ≤ 20)) (h_m_line : (LnM m_line)) (h_m_changes : (AI 0 99 m_changes)) (h_m_coins : (AI 0 9 m_coins)) (h_m_goods : (0 ≤ m_goods ∧ m_goods ≤ 8)) (h_m_good : (GdM m_good)) (h_m_works : (0 ≤ m_works ∧ m_works ≤ 7)) (h_m_work : (WkM m_work)) (h_m_years : (1 ≤ m_years ∧ m_years ≤ 30)) (h_m_from : (0 ≤ m_from ∧ m_from ≤ 250)) (h_m_far : (AI 0 1000000000 m_far)) (h_m_way : (AI 0 22 m_way)) (h_m_steps : (0 ≤ m_steps ∧ m_steps ≤ 37)) (h_m_queue : (AI 0 35 m_queue)) (h_t_shelf : (AI 0 2 t_shelf)) (h_t_rowSize : (AI 0 40 t_rowSize)) (h_t_tapeSize : (0 ≤ t_tapeSize ∧ t_tapeSize ≤ 250)) (h_t_lines : (0 ≤ t_lines ∧ t_lines ≤ 20)) (h_t_line : (LnM t_line)) (h_t_changes : (AI 0 99 t_changes)) (h_t_coins : (AI 0 9 t_coins)) (h_t_goods : (0 ≤ t_goods ∧ t_goods ≤ 8)) (h_t_good : (GdM t_good)) (h_t_works : (0 ≤ t_works ∧ t_works ≤ 7)) (h_t_work : (WkM t_work)) (h_t_years : (1 ≤ t_years ∧ t_years ≤ 30)) (h_t_from : (0 ≤ t_from ∧ t_from ≤ 250)) (h_t_far : (AI 0 1000000000 t_far)) (h_t_way : (AI 0 22 t_way)) (h_t_steps : (0 ≤ t_steps ∧ t_steps ≤ 37)) (h_t_queue : (AI 0 35 t_queue)) (hA : (LaD x3_lineCount x3_goodsCount x3_workCount x3_years x3_lines x3_goods x3_works x3_change x3_coin m_lines m_line m_changes m_coins m_goods m_good m_works m_work m_years)) (hk : Kn (FrS x3_lineCount (ro 7 x3_lines) x3_change x3_coin (ro 3 x3_goods) x3_goodsCount (ro 5 x3_works) x3_workCount) x3_knownFree x3_isKnown) (eqA : fX6_worth n (x0_refused, x0_isKept, x0_gone, x0_spent) x1_gained (x2_lineCount, x2_goodsCount, x2_workCount, x2_years, x2_lines, x2_goods, x2_works, x2_change, x2_coin, x2_knownFree, x2_isKnown) (x3_lineCount, x3_goodsCount, x3_workCount, x3_years, x3_lines, x3_goods, x3_works, x3_change, x3_coin, x3_knownFree, x3_isKnown) (x4_left, x4_earned, x4_turnCost, x4_turnWayless) (x5_edgeA, x5_edgeB, x5_edgeCost, x5_edgeLine, x5_change, x5_away, x5_steps, x5_nodes, x5_stepCount, x5_open, x5_openCount, x5_seen, x5_edgeCount, x5_aim) p1 = some (er, A6)) (eqB : fX7_worth n (m_shelf, m_rowSort, m_rowSize, m_rows, m_moved, m_shown, m_tape, m_tapeSize, m_refused, m_lines, m_line, m_changes, m_coins, m_goods, m_good, m_works, m_work, m_years, m_gone, m_spent, m_at, m_token, m_from, m_figures, m_fault, m_numbers, m_statements, m_left, m_far, m_tons, m_way, m_steps, m_met, m_queue, m_totals) (t_shelf, t_rowSort, t_rowSize, t_rows, t_moved, t_shown, t_tape, t_tapeSize, t_refused, t_lines, t_line, t_changes, t_coins, t_goods, t_good, t_works, t_work, t_years, t_gone, t_spent, t_at, t_token, t_from, t_figures, t_fault, t_numbers, t_statements, t_left, t_far, t_tons, t_way, t_steps, t_met, t_queue, t_totals) p1 = some (fr, B6)) : er = fr := by
  have a := ((kWorth hn h_x2_lineCount h_x2_goodsCount h_x2_workCount h_x2_years h_x2_lines h_x2_goods h_x2_works h_x2_change h_x2_coin h_x3_lineCount h_x3_goodsCount h_x3_workCount h_x3_years h_x3_lines h_x3_goods h_x3_works h_x3_change h_x3_coin h_x5_edgeA h_x5_edgeB h_x5_edgeLine h_x5_steps h_x5_nodes h_x5_stepCount h_x5_open h_x5_openCount h_x5_edgeCount hA.2.2.2.2.2.2 hk).at eqA).1
  obtain ⟨⟨z1, z2, z3, z4⟩, z5, z6, z7, z8, z9, z10⟩ := id hA
  have hS := hA.s
  subst z1 z2 z3 z4
  have hW : WfS x3_workCount.toNatClampNeg ((x3_lineCount, ro 7 x3_lines, x3_change), ro 5 x3_works) := ⟨h_x3_lineCount, z10⟩
  have hW2 := hW.congr hS
  have b := (worthR hn h_m_shelf h_m_rowSize h_m_tapeSize h_x3_lineCount h_m_line h_m_changes h_m_coins h_x3_goodsCount h_m_good h_x3_workCount h_m_work h_x3_years h_m_from h_m_far h_m_way h_m_steps h_m_queue h_t_shelf h_t_rowSize h_t_tapeSize h_t_lines h_t_line h_t_changes h_t_coins h_t_goods h_t_good h_t_works h_t_work h_t_years h_t_from h_t_far h_t_way h_t_steps h_t_queue hW2.2).at eqB
  rcases a with ⟨a1, a2, a3⟩ | ⟨a1, a2⟩ | ⟨a1, a2, a3⟩ <;> rcases b with ⟨b1, b2, b3⟩ | ⟨b1, b2⟩ | ⟨b1, b2, b3⟩
  · exact (a3.trans (WoA_congr hS.1 h_x3_lineCount z9 z6 (z7 _ a1.2) (z10 _ a1.2))).trans b3.symm
  · exact absurd a1 b1
  · rw [z7 _ a1.2 4 (by decide)] at a2; exact absurd a2 b2
  · exact absurd b1 a1
  · exact a2.trans b2.symm
  · exact absurd b1 a1
  · rw [z7 _ a1.2 4 (by decide)] at a2; exact absurd b2 a2
  · exact absurd a1 b1
  · exact a3.trans b3.symm
end
section
/-! total: the reference's, and alike -/
theorem doU_L {work : Nat → Nat → Int32} {s : Int32} {A : Ab} (h0 : 0 ≤ A.1 ∧ A.1 ≤ 20) : ∀ K : Nat, A.1 ≤ (doU work s K A).1 ∧ 0 ≤ (doU work s K A).1 ∧ (doU work s K A).1 ≤ 20
  | 0 => ⟨Int32.le_refl _, h0⟩
  | K + 1 => by
    have ih := doU_L h0 (s := s) (work := work) K
    show A.1 ≤ (if tq s K = true ∧ work K 4 = 0 then doA work K (doU work s K A) else doU work s K A).1 ∧ 0 ≤ (if tq s K = true ∧ work K 4 = 0 then doA work K (doU work s K A) else doU work s K A).1 ∧ (if tq s K = true ∧ work K 4 = 0 then doA work K (doU work s K A) else doU work s K A).1 ≤ 20
    by_cases hb : tq s K = true ∧ work K 4 = 0
    · rw [if_pos hb]
      have q := doA_L (work := work) (k := K) ih.2
      exact ⟨Int32.le_trans ih.1 q.1, q.2⟩
    · rw [if_neg hb]
      exact ih
theorem doU_congr {work work' : Nat → Nat → Int32} {s : Int32} {A B : Ab} (h : AbEq A B) (h0 : 0 ≤ A.1 ∧ A.1 ≤ 20) : ∀ K : Nat, (∀ k, k < K → ∀ c, c < 5 → work k c = work' k c) → (∀ k, k < K → Wf1 work A.1 k) → AbEq (doU work s K A) (doU work' s K B)
  | 0, _, _ => h
  | K + 1, hw, hf => by
    have ih := doU_congr h h0 K (fun k hk => hw k (by omega)) (fun k hk => hf k (by omega)) (s := s)
    show AbEq (if tq s K = true ∧ work K 4 = 0 then doA work K (doU work s K A) else doU work s K A) (if tq s K = true ∧ work' K 4 = 0 then doA work' K (doU work' s K B) else doU work' s K B)
    rw [← hw K (by omega) 4 (by decide)]
    have q := doU_L h0 (s := s) (work := work) K
    by_cases hb : tq s K = true ∧ work K 4 = 0
    · rw [if_pos hb, if_pos hb]
      exact doA_congr ih (fun c hc => hw K (by omega) c (by omega)) ((hf K (by omega)).mono q.1) q.2
    · rw [if_neg hb, if_neg hb]
      exact ih
theorem TotA_congr {A B : Ab} {coins coins' : Nat → Int32} {good good' : Nat → Nat → Int32} {G : Int32} {work work' : Nat → Nat → Int32} {W yr s : Int32} (h : AbEq A B) (h0 : 0 ≤ A.1 ∧ A.1 ≤ 20) (hco : ∀ w, w < 3 → coins w = coins' w) (hg : ∀ g, g < G.toNatClampNeg → ∀ c, c < 3 → good g c = good' g c) (hw : ∀ k, k < W.toNatClampNeg → ∀ c, c < 5 → work k c = work' k c) (hf : ∀ k, k < W.toNatClampNeg → Wf1 work A.1 k) : TotA A coins good G work W yr s = TotA B coins' good' G work' W yr s := by
  unfold TotA
  rw [FrA_congr (doU_congr h h0 _ hw hf) hco hg, sm_congr (f := cnU work s) (g := cnU work' s) _ (fun k hk => by unfold cnU; rw [hw k hk 3 (by decide), hw k hk 4 (by decide)])]
theorem totalOfR {n : Nat} {x0_shelf : (Nat → Int32)} {x0_rowSort : (Nat → Int32)} {x0_rowSize : (Nat → Int32)} {x0_rows : (Nat → Nat → Int64)} {x0_moved : (Nat → Int64)} {x0_shown : (Nat → Int32)} {x0_tape : (Nat → Int32)} {x0_tapeSize : Int32} {x0_refused : (Nat → Int32)} {x0_lines : Int32} {x0_line : (Nat → Nat → Int32)} {x0_changes : (Nat → Int32)} {x0_coins : (Nat → Int32)} {x0_goods : Int32} {x0_good : (Nat → Nat → Int32)} {x0_works : Int32} {x0_work : (Nat → Nat → Int32)} {x0_years : Int32} {x0_gone : Int32} {x0_spent : Int32} {x0_at : Int32} {x0_token : Int32} {x0_from : Int32} {x0_figures : Int64} {x0_fault : Int32} {x0_numbers : (Nat → Int32)} {x0_statements : Int32} {x0_left : (Nat → Int32)} {x0_far : (Nat → Int32)} {x0_tons : Int32} {x0_way : (Nat → Int32)} {x0_steps : Int32} {x0_met : Int64} {x0_queue : (Nat → Int32)} {x0_totals : (Nat → Int32)} {x1_shelf : (Nat → Int32)} {x1_rowSort : (Nat → Int32)} {x1_rowSize : (Nat → Int32)} {x1_rows : (Nat → Nat → Int64)} {x1_moved : (Nat → Int64)} {x1_shown : (Nat → Int32)} {x1_tape : (Nat → Int32)} {x1_tapeSize : Int32} {x1_refused : (Nat → Int32)} {x1_lines : Int32} {x1_line : (Nat → Nat → Int32)} {x1_changes : (Nat → Int32)} {x1_coins : (Nat → Int32)} {x1_goods : Int32} {x1_good : (Nat → Nat → Int32)} {x1_works : Int32} {x1_work : (Nat → Nat → Int32)} {x1_years : Int32} {x1_gone : Int32} {x1_spent : Int32} {x1_at : Int32} {x1_token : Int32} {x1_from : Int32} {x1_figures : Int64} {x1_fault : Int32} {x1_numbers : (Nat → Int32)} {x1_statements : Int32} {x1_left : (Nat → Int32)} {x1_far : (Nat → Int32)} {x1_tons : Int32} {x1_way : (Nat → Int32)} {x1_steps : Int32} {x1_met : Int64} {x1_queue : (Nat → Int32)} {x1_totals : (Nat → Int32)} {p1 : Int32} (hn : 1000000000000 ≤ n) (h_x0_shelf : (AI 0 2 x0_shelf)) (h_x0_rowSize : (AI 0 40 x0_rowSize)) (h_x0_tapeSize : (0 ≤ x0_tapeSize ∧ x0_tapeSize ≤ 250)) (h_x0_lines : (0 ≤ x0_lines ∧ x0_lines ≤ 20)) (h_x0_line : (LnM x0_line)) (h_x0_changes : (AI 0 99 x0_changes)) (h_x0_coins : (AI 0 9 x0_coins)) (h_x0_goods : (0 ≤ x0_goods ∧ x0_goods ≤ 8)) (h_x0_good : (GdM x0_good)) (h_x0_works : (0 ≤ x0_works ∧ x0_works ≤ 7)) (h_x0_work : (WkM x0_work)) (h_x0_years : (1 ≤ x0_years ∧ x0_years ≤ 30)) (h_x0_from : (0 ≤ x0_from ∧ x0_from ≤ 250)) (h_x0_far : (AI 0 1000000000 x0_far)) (h_x0_way : (AI 0 22 x0_way)) (h_x0_steps : (0 ≤ x0_steps ∧ x0_steps ≤ 37)) (h_x0_queue : (AI 0 35 x0_queue)) (h_x1_shelf : (AI 0 2 x1_shelf)) (h_x1_rowSize : (AI 0 40 x1_rowSize)) (h_x1_tapeSize : (0 ≤ x1_tapeSize ∧ x1_tapeSize ≤ 250)) (h_x1_lines : (0 ≤ x1_lines ∧ x1_lines ≤ 20)) (h_x1_line : (LnM x1_line)) (h_x1_changes : (AI 0 99 x1_changes)) (h_x1_coins : (AI 0 9 x1_coins)) (h_x1_goods : (0 ≤ x1_goods ∧ x1_goods ≤ 8)) (h_x1_good : (GdM x1_good)) (h_x1_works : (0 ≤ x1_works ∧ x1_works ≤ 7)) (h_x1_work : (WkM x1_work)) (h_x1_years : (1 ≤ x1_years ∧ x1_years ≤ 30)) (h_x1_from : (0 ≤ x1_from ∧ x1_from ≤ 250)) (h_x1_far : (AI 0 1000000000 x1_far)) (h_x1_way : (AI 0 22 x1_way)) (h_x1_steps : (0 ≤ x1_steps ∧ x1_steps ≤ 37)) (h_x1_queue : (AI 0 35 x1_queue)) (hf : ∀ k, k < x0_works.toNatClampNeg → Wf1 x0_work x0_lines k) : Sf (fX7_totalOf n (x0_shelf, x0_rowSort, x0_rowSize, x0_rows, x0_moved, x0_shown, x0_tape, x0_tapeSize, x0_refused, x0_lines, x0_line, x0_changes, x0_coins, x0_goods, x0_good, x0_works, x0_work, x0_years, x0_gone, x0_spent, x0_at, x0_token, x0_from, x0_figures, x0_fault, x0_numbers, x0_statements, x0_left, x0_far, x0_tons, x0_way, x0_steps, x0_met, x0_queue, x0_totals) (x1_shelf, x1_rowSort, x1_rowSize, x1_rows, x1_moved, x1_shown, x1_tape, x1_tapeSize, x1_refused, x1_lines, x1_line, x1_changes, x1_coins, x1_goods, x1_good, x1_works, x1_work, x1_years, x1_gone, x1_spent, x1_at, x1_token, x1_from, x1_figures, x1_fault, x1_numbers, x1_statements, x1_left, x1_far, x1_tons, x1_way, x1_steps, x1_met, x1_queue, x1_totals) p1) (fun r => r.1 = TotA (x0_lines, x0_line, x0_changes) x0_coins x0_good x0_goods x0_work x0_works x0_years p1) := by
  unfold fX7_totalOf
  dsimp only [u35]
  refine Sf.bind (Sf.and (sX7_fresh hn h_x0_shelf h_x0_rowSize h_x0_tapeSize h_x0_lines h_x0_line h_x0_changes h_x0_coins h_x0_goods h_x0_good h_x0_works h_x0_work h_x0_years h_x0_from h_x0_far h_x0_way h_x0_steps h_x0_queue h_x1_shelf h_x1_rowSize h_x1_tapeSize h_x1_lines h_x1_line h_x1_changes h_x1_coins h_x1_goods h_x1_good h_x1_works h_x1_work h_x1_years h_x1_from h_x1_far h_x1_way h_x1_steps h_x1_queue) (freshR hn)) ?_
  rintro ⟨g2, g3, g4, g5, g6, g7, g8, g9, g10, g11, g12⟩ ⟨⟨b1, b2, b3, b4, b5, b6, b7, b8, b9⟩, s1, s2, s3, s4, s5, s6, s7, s8, s9, _, _⟩
  have s1 : g2 = x0_lines := s1
  have s2 : ∀ l, l < 20 → ∀ c, c < 7 → g3 l c = x0_line l c := s2
  have s3 : ∀ p, p < 12 → g4 p = x0_changes p := s3
  have s4 : ∀ w, w < 3 → g5 w = x0_coins w := s4
  have s5 : g6 = x0_goods := s5
  have s6 : ∀ g, g < 8 → ∀ c, c < 3 → g7 g c = x0_good g c := s6
  have s8 : ∀ k, k < 7 → ∀ c, c < 5 → g9 k c = x0_work k c := s8
  have b1 : 0 ≤ g2 ∧ g2 ≤ 20 := b1
  have b2 : LnM g3 := b2
  have b3 : AI 0 99 g4 := b3
  have b8 : WkM g9 := b8
  have hL := nlt (M := 20) (N := 20) rfl h_x0_lines
  have hG := nlt (M := 8) (N := 8) rfl h_x0_goods
  have hW7 := nlt (M := 7) (N := 7) rfl h_x0_works
  subst s1 s5
  try dsimp only [u11]
  have hf9 : ∀ k, k < x0_works.toNatClampNeg → Wf1 g9 g2 k := fun k hk => (hf k hk).congr (fun c hc => (s8 k (by omega) c (by omega)).symm)
  refine Sf.bind (P := fun r : Int32 × Int32 × (Nat → Nat → Int32) × (Nat → Int32) × (Nat → Nat → Int32) => ((0 ≤ r.2.1 ∧ r.2.1 ≤ 20) ∧ LnM r.2.2.1 ∧ AI 0 99 r.2.2.2.1 ∧ WkM r.2.2.2.2) ∧ r.1 = sm (cnU g9 p1) x0_works.toNatClampNeg ∧ AbEq (r.2.1, r.2.2.1, r.2.2.2.1) (doU g9 p1 x0_works.toNatClampNeg (g2, g3, g4))) ?_ ?_
  · refine Sf.loop6 (fun (z15 z16 z17 : Int32) (z18 : Nat → Nat → Int32) (z19 : Nat → Int32) (z20 : Nat → Nat → Int32) => (0 ≤ z16 ∧ z16 ≤ x0_works) ∧ ((0 ≤ z17 ∧ z17 ≤ 20) ∧ LnM z18 ∧ AI 0 99 z19 ∧ WkM z20) ∧ z15 = sm (cnU g9 p1) z16.toNatClampNeg ∧ AbEq (z17, z18, z19) (doU g9 p1 z16.toNatClampNeg (g2, g3, g4)) ∧ ∀ j, z16.toNatClampNeg ≤ j → z20 j = g9 j) (fun z15 z16 z17 z18 z19 z20 => muUp z16) (fun z15 z16 z17 z18 z19 z20 h => ?_) (show (0 ≤ (0 : Int32) ∧ (0 : Int32) ≤ x0_works) ∧ ((0 ≤ g2 ∧ g2 ≤ 20) ∧ LnM g3 ∧ AI 0 99 g4 ∧ WkM g9) ∧ (0 : Int32) = sm (cnU g9 p1) (0 : Int32).toNatClampNeg ∧ AbEq (g2, g3, g4) (doU g9 p1 (0 : Int32).toNatClampNeg (g2, g3, g4)) ∧ ∀ j, (0 : Int32).toNatClampNeg ≤ j → g9 j = g9 j from ⟨⟨by decide, h_x0_works.1⟩, ⟨b1, b2, b3, b8⟩, rfl, AbEq.refl _, fun _ _ => rfl⟩) (muUp_n hn)
    obtain ⟨i0, ⟨l1, l2, l3, l4⟩, i1, i2, i3⟩ := h
    unfold fX7_totalOf_s10
    refine Sf.ite (fun hc => ?_) (fun hc => ?_)
    · have e : z16 = x0_works := Int32.le_antisymm i0.2 hc
      rw [e] at i1 i2
      exact Sf.inr ⟨⟨l1, l2, l3, l4⟩, i1, i2⟩
    obtain ⟨p0, p1', p3⟩ := up1 i0.1 (Int32.le_trans h_x0_works.2 (by decide)) hc
    have hz1 : z16 + 1 ≤ x0_works := by clear i1 i2 i3 hf hf9; grind
    have hz6 : 0 ≤ z16 ∧ z16 ≤ 6 := ⟨i0.1, by clear i1 i2 i3 hf hf9; grind⟩
    have hz30 : 0 ≤ z16 ∧ z16 ≤ 30 := ⟨i0.1, Int32.le_trans hz6.2 (by decide)⟩
    have hzn : z16.toNatClampNeg < x0_works.toNatClampNeg := by
      have a := i32_cl i0.1
      have b := i32_cl h_x0_works.1
      have c := Int32.lt_iff_toInt_lt.mp p3
      omega
    have hi : 0 ≤ z16 ∧ z16 < 7 := ⟨hz6.1, Int32.lt_of_le_of_lt hz6.2 (by decide)⟩
    have row : z20 z16.toNatClampNeg = g9 z16.toNatClampNeg := i3 _ (Nat.le_refl _)
    have nx1 : sm (cnU g9 p1) (z16 + 1).toNatClampNeg = z15 + cnU g9 p1 z16.toNatClampNeg := by
      rw [p1', i1]
      rfl
    have nx2 : doU g9 p1 (z16 + 1).toNatClampNeg (g2, g3, g4) = if tq p1 z16.toNatClampNeg = true ∧ g9 z16.toNatClampNeg 4 = 0 then doA g9 z16.toNatClampNeg (doU g9 p1 z16.toNatClampNeg (g2, g3, g4)) else doU g9 p1 z16.toNatClampNeg (g2, g3, g4) := by
      rw [p1']
      rfl
    have i3' : ∀ j, (z16 + 1).toNatClampNeg ≤ j → z20 j = g9 j := fun j hj => i3 j (by omega)
    have keep : ¬ (tq p1 z16.toNatClampNeg = true ∧ g9 z16.toNatClampNeg 4 = 0) → (0 ≤ z16 + 1 ∧ z16 + 1 ≤ x0_works) ∧ ((0 ≤ z17 ∧ z17 ≤ 20) ∧ LnM z18 ∧ AI 0 99 z19 ∧ WkM z20) ∧ z15 = sm (cnU g9 p1) (z16 + 1).toNatClampNeg ∧ AbEq (z17, z18, z19) (doU g9 p1 (z16 + 1).toNatClampNeg (g2, g3, g4)) ∧ ∀ j, (z16 + 1).toNatClampNeg ≤ j → z20 j = g9 j := by
      intro hno
      refine ⟨⟨p0, hz1⟩, ⟨l1, l2, l3, l4⟩, ?_, ?_, i3'⟩
      · rw [nx1]
        unfold cnU
        rw [if_neg hno, Int32.add_zero]
      · rw [nx2, if_neg hno]
        exact i2
    refine Sf.ite (fun hb => Sf.inl (keep (fun h => by rw [(bit_at hz30).mp hb] at h; exact absurd h.1 (by decide))) (muUp_lt hc)) (fun hb => ?_)
    have hb : tq p1 z16.toNatClampNeg = true := by
      cases hq : tq p1 z16.toNatClampNeg with
      | true => rfl
      | false => exact absurd ((bit_at hz30).mpr hq) hb
    refine Sf.ckb 7 rfl hi (fun q32 e32 _ => ?_)
    refine Sf.rdl 4 rfl rfl (fun v33 e33 => ?_)
    rw [e32, row] at e33
    refine Sf.ite (fun hv => ?_) (fun hv => Sf.inl (keep (fun h => hv (e33.trans h.2))) (muUp_lt hc))
    rw [e33] at hv
    refine Sf.ckb 7 rfl hi (fun q34 e34 _ => ?_)
    refine Sf.rdl 3 rfl rfl (fun v35 e35 => ?_)
    rw [e34, row] at e35
    refine Sf.bind (Sf.and (sX7_does h_x1_shelf h_x1_rowSize h_x1_tapeSize l1 l2 l3 b4 b5 b6 b7 l4 b9 h_x1_from h_x1_far h_x1_way h_x1_steps h_x1_queue hz6) (doesR l1 l4 hz6)) ?_
    rintro ⟨g36, g37, g38, g39⟩ ⟨⟨d1, d2, d3, d4, _⟩, e36, e39⟩
    have e36 : AbEq (g36, g37, g38) (doA z20 z16.toNatClampNeg (z17, z18, z19)) := e36
    have e39 : g39 = va_up z20 z16.toNatClampNeg (va_up (z20 z16.toNatClampNeg) 4 1) := e39
    try dsimp only [u4]
    have qL := doU_L (work := g9) (s := p1) (A := (g2, g3, g4)) b1 z16.toNatClampNeg
    have eL : z17 = (doU g9 p1 z16.toNatClampNeg (g2, g3, g4)).1 := i2.1
    have hw1 : Wf1 z20 z17 z16.toNatClampNeg := ((hf9 _ hzn).congr (fun c _ => by rw [row])).mono (by rw [eL]; exact qL.1)
    refine Sf.inl (show (0 ≤ z16 + 1 ∧ z16 + 1 ≤ x0_works) ∧ ((0 ≤ g36 ∧ g36 ≤ 20) ∧ LnM g37 ∧ AI 0 99 g38 ∧ WkM g39) ∧ z15 + v35 = sm (cnU g9 p1) (z16 + 1).toNatClampNeg ∧ AbEq (g36, g37, g38) (doU g9 p1 (z16 + 1).toNatClampNeg (g2, g3, g4)) ∧ ∀ j, (z16 + 1).toNatClampNeg ≤ j → g39 j = g9 j from ⟨⟨p0, hz1⟩, ⟨d1, d2, d3, d4⟩, ?_, ?_, fun j hj => ?_⟩) (muUp_lt hc)
    · rw [nx1, e35]
      unfold cnU
      rw [if_pos ⟨hb, hv⟩]
    · rw [nx2, if_pos ⟨hb, hv⟩]
      exact AbEq.trans e36 (doA_congr i2 (fun c _ => by rw [row]) hw1 l1)
    · rw [e39, va_ne _ _ (by omega)]
      exact i3' j hj
  · rintro ⟨w22, w23, w24, w25, w26⟩ ⟨⟨l1, l2, l3, l4⟩, h1, h2⟩
    have h1 : w22 = _ := h1
    have h2 : AbEq (w23, w24, w25) _ := h2
    try dsimp only [u5]
    refine Sf.bind (freeR hn h_x1_shelf h_x1_rowSize h_x1_tapeSize l1 l2 l3 b4 b5 b6 b7 l4 b9 h_x1_from h_x1_far h_x1_way h_x1_steps h_x1_queue) ?_
    rintro ⟨v27, g28, g29, g30⟩ e27
    have e27 : v27 = FrA (w23, w24, w25) g5 g7 g6 := e27
    refine Sf.ok ?_
    show w22 + x0_years * v27 = _
    have hA : AbEq (g2, g3, g4) (g2, x0_line, x0_changes) := ⟨rfl, fun l hl c hc => s2 l (Nat.lt_of_lt_of_le hl hL) c hc, s3⟩
    have q := TotA_congr (W := x0_works) (yr := x0_years) (s := p1) hA b1 s4 (fun g hg c hc => s6 g (Nat.lt_of_lt_of_le hg hG) c hc) (fun k hk c hc => s8 k (by omega) c hc) hf9
    rw [← q, h1, e27, FrA_congr h2 (fun _ _ => rfl) (fun _ _ _ _ => rfl)]
    unfold TotA
    rw [Int32.add_comm]
end
section
/-! total: alike -/
theorem totalR {n : Nat} {x0_shelf : (Nat → Int32)} {x0_rowSort : (Nat → Int32)} {x0_rowSize : (Nat → Int32)} {x0_rows : (Nat → Nat → Int64)} {x0_moved : (Nat → Int64)} {x0_shown : (Nat → Int32)} {x0_tape : (Nat → Int32)} {x0_tapeSize : Int32} {x0_refused : (Nat → Int32)} {x0_lines : Int32} {x0_line : (Nat → Nat → Int32)} {x0_changes : (Nat → Int32)} {x0_coins : (Nat → Int32)} {x0_goods : Int32} {x0_good : (Nat → Nat → Int32)} {x0_works : Int32} {x0_work : (Nat → Nat → Int32)} {x0_years : Int32} {x0_gone : Int32} {x0_spent : Int32} {x0_at : Int32} {x0_token : Int32} {x0_from : Int32} {x0_figures : Int64} {x0_fault : Int32} {x0_numbers : (Nat → Int32)} {x0_statements : Int32} {x0_left : (Nat → Int32)} {x0_far : (Nat → Int32)} {x0_tons : Int32} {x0_way : (Nat → Int32)} {x0_steps : Int32} {x0_met : Int64} {x0_queue : (Nat → Int32)} {x0_totals : (Nat → Int32)} {x1_shelf : (Nat → Int32)} {x1_rowSort : (Nat → Int32)} {x1_rowSize : (Nat → Int32)} {x1_rows : (Nat → Nat → Int64)} {x1_moved : (Nat → Int64)} {x1_shown : (Nat → Int32)} {x1_tape : (Nat → Int32)} {x1_tapeSize : Int32} {x1_refused : (Nat → Int32)} {x1_lines : Int32} {x1_line : (Nat → Nat → Int32)} {x1_changes : (Nat → Int32)} {x1_coins : (Nat → Int32)} {x1_goods : Int32} {x1_good : (Nat → Nat → Int32)} {x1_works : Int32} {x1_work : (Nat → Nat → Int32)} {x1_years : Int32} {x1_gone : Int32} {x1_spent : Int32} {x1_at : Int32} {x1_token : Int32} {x1_from : Int32} {x1_figures : Int64} {x1_fault : Int32} {x1_numbers : (Nat → Int32)} {x1_statements : Int32} {x1_left : (Nat → Int32)} {x1_far : (Nat → Int32)} {x1_tons : Int32} {x1_way : (Nat → Int32)} {x1_steps : Int32} {x1_met : Int64} {x1_queue : (Nat → Int32)} {x1_totals : (Nat → Int32)} {p1 : Int32} (hn : 1000000000000 ≤ n) (h_x0_shelf : (AI 0 2 x0_shelf)) (h_x0_rowSize : (AI 0 40 x0_rowSize)) (h_x0_tapeSize : (0 ≤ x0_tapeSize ∧ x0_tapeSize ≤ 250)) (h_x0_lines : (0 ≤ x0_lines ∧ x0_lines ≤ 20)) (h_x0_line : (LnM x0_line)) (h_x0_changes : (AI 0 99 x0_changes)) (h_x0_coins : (AI 0 9 x0_coins)) (h_x0_goods : (0 ≤ x0_goods ∧ x0_goods ≤ 8)) (h_x0_good : (GdM x0_good)) (h_x0_works : (0 ≤ x0_works ∧ x0_works ≤ 7)) (h_x0_work : (WkM x0_work)) (h_x0_years : (1 ≤ x0_years ∧ x0_years ≤ 30)) (h_x0_from : (0 ≤ x0_from ∧ x0_from ≤ 250)) (h_x0_far : (AI 0 1000000000 x0_far)) (h_x0_way : (AI 0 22 x0_way)) (h_x0_steps : (0 ≤ x0_steps ∧ x0_steps ≤ 37)) (h_x0_queue : (AI 0 35 x0_queue)) (h_x1_shelf : (AI 0 2 x1_shelf)) (h_x1_rowSize : (AI 0 40 x1_rowSize)) (h_x1_tapeSize : (0 ≤ x1_tapeSize ∧ x1_tapeSize ≤ 250)) (h_x1_lines : (0 ≤ x1_lines ∧ x1_lines ≤ 20)) (h_x1_line : (LnM x1_line)) (h_x1_changes : (AI 0 99 x1_changes)) (h_x1_coins : (AI 0 9 x1_coins)) (h_x1_goods : (0 ≤ x1_goods ∧ x1_goods ≤ 8)) (h_x1_good : (GdM x1_good)) (h_x1_works : (0 ≤ x1_works ∧ x1_works ≤ 7)) (h_x1_work : (WkM x1_work)) (h_x1_years : (1 ≤ x1_years ∧ x1_years ≤ 30)) (h_x1_from : (0 ≤ x1_from ∧ x1_from ≤ 250)) (h_x1_far : (AI 0 1000000000 x1_far)) (h_x1_way : (AI 0 22 x1_way)) (h_x1_steps : (0 ≤ x1_steps ∧ x1_steps ≤ 37)) (h_x1_queue : (AI 0 35 x1_queue)) (hf : ∀ k, k < x0_works.toNatClampNeg → Wf1 x0_work x0_lines k) : Sf (fX7_total n (x0_shelf, x0_rowSort, x0_rowSize, x0_rows, x0_moved, x0_shown, x0_tape, x0_tapeSize, x0_refused, x0_lines, x0_line, x0_changes, x0_coins, x0_goods, x0_good, x0_works, x0_work, x0_years, x0_gone, x0_spent, x0_at, x0_token, x0_from, x0_figures, x0_fault, x0_numbers, x0_statements, x0_left, x0_far, x0_tons, x0_way, x0_steps, x0_met, x0_queue, x0_totals) (x1_shelf, x1_rowSort, x1_rowSize, x1_rows, x1_moved, x1_shown, x1_tape, x1_tapeSize, x1_refused, x1_lines, x1_line, x1_changes, x1_coins, x1_goods, x1_good, x1_works, x1_work, x1_years, x1_gone, x1_spent, x1_at, x1_token, x1_from, x1_figures, x1_fault, x1_numbers, x1_statements, x1_left, x1_far, x1_tons, x1_way, x1_steps, x1_met, x1_queue, x1_totals) p1) (fun r => AP (0 ≤ p1 ∧ p1 ≤ ((1 : Int32) <<< (x0_works &&& 31)) - 1) r.1 (r.1 = TotA (x0_lines, x0_line, x0_changes) x0_coins x0_good x0_goods x0_work x0_works x0_years p1) True) := by
  unfold fX7_total
  dsimp only [u35]
  refine Sf.bind (s_inq p1 0 (((1 : Int32) <<< (x0_works &&& 31)) - 1) (by decide) rfl) (fun v1 h1 => Sf.ite (fun hz => ?_) (fun hz => ?_))
  · refine Sf.bind (sX7_refuse h_x0_shelf h_x0_rowSize h_x0_tapeSize h_x0_lines h_x0_line h_x0_changes h_x0_coins h_x0_goods h_x0_good h_x0_works h_x0_work h_x0_years h_x0_from h_x0_far h_x0_way h_x0_steps h_x0_queue (by decide)) ?_
    rintro ⟨v, g⟩ e
    exact Sf.ok (Or.inr ⟨gd0 h1 hz, e, trivial⟩)
  · refine Sf.bind (totalOfR hn h_x0_shelf h_x0_rowSize h_x0_tapeSize h_x0_lines h_x0_line h_x0_changes h_x0_coins h_x0_goods h_x0_good h_x0_works h_x0_work h_x0_years h_x0_from h_x0_far h_x0_way h_x0_steps h_x0_queue h_x1_shelf h_x1_rowSize h_x1_tapeSize h_x1_lines h_x1_line h_x1_changes h_x1_coins h_x1_goods h_x1_good h_x1_works h_x1_work h_x1_years h_x1_from h_x1_far h_x1_way h_x1_steps h_x1_queue hf) ?_
    rintro ⟨v6, g8, g9, g10, g11, g12, g13, g14, g15, g16, g17, g18, g19, g20, g21⟩ e
    exact Sf.ok (Or.inl ⟨gd1 h1 hz, e⟩)
theorem dTotal {n : Nat} {x0_refused : (Nat → Int32)} {x0_isKept : Int32} {x0_gone : Int32} {x0_spent : Int32} {x1_gained : Nat → Int32} {x2_lineCount : Int32} {x2_goodsCount : Int32} {x2_workCount : Int32} {x2_years : Int32} {x2_lines : (Nat → Int32)} {x2_goods : (Nat → Int32)} {x2_works : (Nat → Int32)} {x2_change : (Nat → Int32)} {x2_coin : (Nat → Int32)} {x2_knownFree : (Nat → Int32)} {x2_isKnown : Int32} {x3_lineCount : Int32} {x3_goodsCount : Int32} {x3_workCount : Int32} {x3_years : Int32} {x3_lines : (Nat → Int32)} {x3_goods : (Nat → Int32)} {x3_works : (Nat → Int32)} {x3_change : (Nat → Int32)} {x3_coin : (Nat → Int32)} {x3_knownFree : (Nat → Int32)} {x3_isKnown : Int32} {x4_left : (Nat → Int32)} {x4_earned : (Nat → Int32)} {x4_turnCost : Int32} {x4_turnWayless : Int32} {x5_edgeA : (Nat → Int32)} {x5_edgeB : (Nat → Int32)} {x5_edgeCost : (Nat → Int32)} {x5_edgeLine : (Nat → Int32)} {x5_change : (Nat → Int32)} {x5_away : (Nat → Int32)} {x5_steps : (Nat → Int32)} {x5_nodes : (Nat → Int32)} {x5_stepCount : Int32} {x5_open : (Nat → Int32)} {x5_openCount : Int32} {x5_seen : Int64} {x5_edgeCount : Int32} {x5_aim : Int32} {m_shelf : (Nat → Int32)} {m_rowSort : (Nat → Int32)} {m_rowSize : (Nat → Int32)} {m_rows : (Nat → Nat → Int64)} {m_moved : (Nat → Int64)} {m_shown : (Nat → Int32)} {m_tape : (Nat → Int32)} {m_tapeSize : Int32} {m_refused : (Nat → Int32)} {m_lines : Int32} {m_line : (Nat → Nat → Int32)} {m_changes : (Nat → Int32)} {m_coins : (Nat → Int32)} {m_goods : Int32} {m_good : (Nat → Nat → Int32)} {m_works : Int32} {m_work : (Nat → Nat → Int32)} {m_years : Int32} {m_gone : Int32} {m_spent : Int32} {m_at : Int32} {m_token : Int32} {m_from : Int32} {m_figures : Int64} {m_fault : Int32} {m_numbers : (Nat → Int32)} {m_statements : Int32} {m_left : (Nat → Int32)} {m_far : (Nat → Int32)} {m_tons : Int32} {m_way : (Nat → Int32)} {m_steps : Int32} {m_met : Int64} {m_queue : (Nat → Int32)} {m_totals : (Nat → Int32)} {t_shelf : (Nat → Int32)} {t_rowSort : (Nat → Int32)} {t_rowSize : (Nat → Int32)} {t_rows : (Nat → Nat → Int64)} {t_moved : (Nat → Int64)} {t_shown : (Nat → Int32)} {t_tape : (Nat → Int32)} {t_tapeSize : Int32} {t_refused : (Nat → Int32)} {t_lines : Int32} {t_line : (Nat → Nat → Int32)} {t_changes : (Nat → Int32)} {t_coins : (Nat → Int32)} {t_goods : Int32} {t_good : (Nat → Nat → Int32)} {t_works : Int32} {t_work : (Nat → Nat → Int32)} {t_years : Int32} {t_gone : Int32} {t_spent : Int32} {t_at : Int32} {t_token : Int32} {t_from : Int32} {t_figures : Int64} {t_fault : Int32} {t_numbers : (Nat → Int32)} {t_statements : Int32} {t_left : (Nat → Int32)} {t_far : (Nat → Int32)} {t_tons : Int32} {t_way : (Nat → Int32)} {t_steps : Int32} {t_met : Int64} {t_queue : (Nat → Int32)} {t_totals : (Nat → Int32)} {p1 er fr : Int32} {A6 : (Nat → Int32) × (Int32 × Int32 × Int32 × Int32 × (Nat → Int32) × (Nat → Int32) × (Nat → Int32) × (Nat → Int32) × (Nat → Int32) × Int32) × (Int32 × (Nat → Int32) × (Nat → Int32) × (Nat → Int32) × Int32) × ((Nat → Int32) × (Nat → Int32) × (Nat → Int32) × (Nat → Int32) × (Nat → Int32) × (Nat → Int32) × Int32 × Int32)} {B6 : (Nat → Int32) × (Int32 × (Nat → Nat → Int32) × (Nat → Int32) × (Nat → Int32) × Int32 × (Nat → Nat → Int32) × Int32 × (Nat → Nat → Int32) × Int32 × Int32 × Int32 × (Nat → Int32) × (Nat → Int32) × Int32)} (hn : 1000000000000 ≤ n) (h_x2_lineCount : (0 ≤ x2_lineCount ∧ x2_lineCount ≤ 20)) (h_x2_goodsCount : (0 ≤ x2_goodsCount ∧ x2_goodsCount ≤ 8)) (h_x2_workCount : (0 ≤ x2_workCount ∧ x2_workCount ≤ 7)) (h_x2_years : (1 ≤ x2_years ∧ x2_years ≤ 30)) (h_x2_lines : (LnOk x2_lines)) (h_x2_goods : (GdOk x2_goods)) (h_x2_works : (WkOk x2_works)) (h_x2_change : (AI 0 99 x2_change)) (h_x2_coin : (AI 0 9 x2_coin)) (h_x3_lineCount : (0 ≤ x3_lineCount ∧ x3_lineCount ≤ 20)) (h_x3_goodsCount : (0 ≤ x3_goodsCount ∧ x3_goodsCount ≤ 8)) (h_x3_workCount : (0 ≤ x3_workCount ∧ x3_workCount ≤ 7)) (h_x3_years : (1 ≤ x3_years ∧ x3_years ≤ 30)) (h_x3_lines : (LnOk x3_lines)) (h_x3_goods : (GdOk x3_goods)) (h_x3_works : (WkOk x3_works)) (h_x3_change : (AI 0 99 x3_change)) (h_x3_coin : (AI 0 9 x3_coin)) (h_x5_edgeA : (AI 0 35 x5_edgeA)) (h_x5_edgeB : (AI 0 35 x5_edgeB)) (h_x5_edgeLine : (AI 0 19 x5_edgeLine)) (h_x5_steps : (AI 0 22 x5_steps)) (h_x5_nodes : (AI 0 35 x5_nodes)) (h_x5_stepCount : (0 ≤ x5_stepCount ∧ x5_stepCount ≤ 36)) (h_x5_open : (AI 0 35 x5_open)) (h_x5_openCount : (0 ≤ x5_openCount ∧ x5_openCount ≤ 36)) (h_x5_edgeCount : (0 ≤ x5_edgeCount ∧ x5_edgeCount ≤ 60)) (h_m_shelf : (AI 0 2 m_shelf)) (h_m_rowSize : (AI 0 40 m_rowSize)) (h_m_tapeSize : (0 ≤ m_tapeSize ∧ m_tapeSize ≤ 250)) (h_m_lines : (0 ≤ m_lines ∧ m_lines ≤ 20)) (h_m_line : (LnM m_line)) (h_m_changes : (AI 0 99 m_changes)) (h_m_coins : (AI 0 9 m_coins)) (h_m_goods : (0 ≤ m_goods ∧ m_goods ≤ 8)) (h_m_good : (GdM m_good)) (h_m_works : (0 ≤ m_works ∧ m_works ≤ 7)) (h_m_work : (WkM m_work)) (h_m_years : (1 ≤ m_years ∧ m_years ≤ 30)) (h_m_from : (0 ≤ m_from ∧ m_from ≤ 250)) (h_m_far : (AI 0 1000000000 m_far)) (h_m_way : (AI 0 22 m_way)) (h_m_steps : (0 ≤ m_steps ∧ m_steps ≤ 37)) (h_m_queue : (AI 0 35 m_queue)) (h_t_shelf : (AI 0 2 t_shelf)) (h_t_rowSize : (AI 0 40 t_rowSize)) (h_t_tapeSize : (0 ≤ t_tapeSize ∧ t_tapeSize ≤ 250)) (h_t_lines : (0 ≤ t_lines ∧ t_lines ≤ 20)) (h_t_line : (LnM t_line)) (h_t_changes : (AI 0 99 t_changes)) (h_t_coins : (AI 0 9 t_coins)) (h_t_goods : (0 ≤ t_goods ∧ t_goods ≤ 8)) (h_t_good : (GdM t_good)) (h_t_works : (0 ≤ t_works ∧ t_works ≤ 7)) (h_t_work : (WkM t_work)) (h_t_years : (1 ≤ t_years ∧ t_years ≤ 30)) (h_t_from : (0 ≤ t_from ∧ t_from ≤ 250)) (h_t_far : (AI 0 1000000000 t_far)) (h_t_way : (AI 0 22 t_way)) (h_t_steps : (0 ≤ t_steps ∧ t_steps ≤ 37)) (h_t_queue : (AI 0 35 t_queue)) (hA : (LaD x3_lineCount x3_goodsCount x3_workCount x3_years x3_lines x3_goods x3_works x3_change x3_coin m_lines m_line m_changes m_coins m_goods m_good m_works m_work m_years)) (hk : Kn (FrS x3_lineCount (ro 7 x3_lines) x3_change x3_coin (ro 3 x3_goods) x3_goodsCount (ro 5 x3_works) x3_workCount) x3_knownFree x3_isKnown) (eqA : fX6_total n (x0_refused, x0_isKept, x0_gone, x0_spent) x1_gained (x2_lineCount, x2_goodsCount, x2_workCount, x2_years, x2_lines, x2_goods, x2_works, x2_change, x2_coin, x2_knownFree, x2_isKnown) (x3_lineCount, x3_goodsCount, x3_workCount, x3_years, x3_lines, x3_goods, x3_works, x3_change, x3_coin, x3_knownFree, x3_isKnown) (x4_left, x4_earned, x4_turnCost, x4_turnWayless) (x5_edgeA, x5_edgeB, x5_edgeCost, x5_edgeLine, x5_change, x5_away, x5_steps, x5_nodes, x5_stepCount, x5_open, x5_openCount, x5_seen, x5_edgeCount, x5_aim) p1 = some (er, A6)) (eqB : fX7_total n (m_shelf, m_rowSort, m_rowSize, m_rows, m_moved, m_shown, m_tape, m_tapeSize, m_refused, m_lines, m_line, m_changes, m_coins, m_goods, m_good, m_works, m_work, m_years, m_gone, m_spent, m_at, m_token, m_from, m_figures, m_fault, m_numbers, m_statements, m_left, m_far, m_tons, m_way, m_steps, m_met, m_queue, m_totals) (t_shelf, t_rowSort, t_rowSize, t_rows, t_moved, t_shown, t_tape, t_tapeSize, t_refused, t_lines, t_line, t_changes, t_coins, t_goods, t_good, t_works, t_work, t_years, t_gone, t_spent, t_at, t_token, t_from, t_figures, t_fault, t_numbers, t_statements, t_left, t_far, t_tons, t_way, t_steps, t_met, t_queue, t_totals) p1 = some (fr, B6)) : er = fr := by
  have a := ((kTotal hn h_x2_lineCount h_x2_goodsCount h_x2_workCount h_x2_years h_x2_lines h_x2_goods h_x2_works h_x2_change h_x2_coin h_x3_lineCount h_x3_goodsCount h_x3_workCount h_x3_years h_x3_lines h_x3_goods h_x3_works h_x3_change h_x3_coin h_x5_edgeA h_x5_edgeB h_x5_edgeLine h_x5_steps h_x5_nodes h_x5_stepCount h_x5_open h_x5_openCount h_x5_edgeCount hA.2.2.2.2.2.2 hk).at eqA).1
  obtain ⟨⟨z1, z2, z3, z4⟩, z5, z6, z7, z8, z9, z10⟩ := id hA
  have hS := hA.s
  subst z1 z2 z3 z4
  have hW : WfS x3_workCount.toNatClampNeg ((x3_lineCount, ro 7 x3_lines, x3_change), ro 5 x3_works) := ⟨h_x3_lineCount, z10⟩
  have hW2 := hW.congr hS
  have b := (totalR hn h_m_shelf h_m_rowSize h_m_tapeSize h_x3_lineCount h_m_line h_m_changes h_m_coins h_x3_goodsCount h_m_good h_x3_workCount h_m_work h_x3_years h_m_from h_m_far h_m_way h_m_steps h_m_queue h_t_shelf h_t_rowSize h_t_tapeSize h_t_lines h_t_line h_t_changes h_t_coins h_t_goods h_t_good h_t_works h_t_work h_t_years h_t_from h_t_far h_t_way h_t_steps h_t_queue hW2.2).at eqB
  rcases AP_eq a b with ⟨a1, b1⟩ | ⟨e, _, _⟩
  · exact (a1.trans (TotA_congr hS.1 h_x3_lineCount z9 z6 z7 z10)).trans b1.symm
  · exact e
end
section
/-! cheapest -/
theorem costBetweenC {n : Nat} {x0_left : (Nat → Int32)} {x0_earned : (Nat → Int32)} {x0_turnCost : Int32} {x0_turnWayless : Int32} {x1_edgeA : (Nat → Int32)} {x1_edgeB : (Nat → Int32)} {x1_edgeCost : (Nat → Int32)} {x1_edgeLine : (Nat → Int32)} {x1_change : (Nat → Int32)} {x1_away : (Nat → Int32)} {x1_steps : (Nat → Int32)} {x1_nodes : (Nat → Int32)} {x1_stepCount : Int32} {x1_open : (Nat → Int32)} {x1_openCount : Int32} {x1_seen : Int64} {x1_edgeCount : Int32} {x1_aim : Int32} {x2_lineCount : Int32} {x2_goodsCount : Int32} {x2_workCount : Int32} {x2_years : Int32} {x2_lines : (Nat → Int32)} {x2_goods : (Nat → Int32)} {x2_works : (Nat → Int32)} {x2_change : (Nat → Int32)} {x2_coin : (Nat → Int32)} {x2_knownFree : (Nat → Int32)} {x2_isKnown : Int32} {p2 p3 : Int32} (hn : 1000000000000 ≤ n) (h_x1_edgeA : (AI 0 35 x1_edgeA)) (h_x1_edgeB : (AI 0 35 x1_edgeB)) (h_x1_edgeLine : (AI 0 19 x1_edgeLine)) (h_x1_steps : (AI 0 22 x1_steps)) (h_x1_nodes : (AI 0 35 x1_nodes)) (h_x1_stepCount : (0 ≤ x1_stepCount ∧ x1_stepCount ≤ 36)) (h_x1_open : (AI 0 35 x1_open)) (h_x1_openCount : (0 ≤ x1_openCount ∧ x1_openCount ≤ 36)) (h_x1_edgeCount : (0 ≤ x1_edgeCount ∧ x1_edgeCount ≤ 60)) (h_x2_lineCount : (0 ≤ x2_lineCount ∧ x2_lineCount ≤ 20)) (h_x2_goodsCount : (0 ≤ x2_goodsCount ∧ x2_goodsCount ≤ 8)) (h_x2_workCount : (0 ≤ x2_workCount ∧ x2_workCount ≤ 7)) (h_x2_years : (1 ≤ x2_years ∧ x2_years ≤ 30)) (h_x2_lines : (LnOk x2_lines)) (h_x2_goods : (GdOk x2_goods)) (h_x2_works : (WkOk x2_works)) (h_x2_change : (AI 0 99 x2_change)) (h_x2_coin : (AI 0 9 x2_coin)) (hp2 : 0 ≤ p2 ∧ p2 ≤ 11) (hp3 : 0 ≤ p3 ∧ p3 ≤ 11) {Tq : Nat → Nat → Int32} (hT : Tz (EdL x2_lineCount.toNatClampNeg (ro 7 x2_lines) x2_change x2_coin) Tq) : Sf (fX4_costBetween n (x0_left, x0_earned, x0_turnCost, x0_turnWayless) (x1_edgeA, x1_edgeB, x1_edgeCost, x1_edgeLine, x1_change, x1_away, x1_steps, x1_nodes, x1_stepCount, x1_open, x1_openCount, x1_seen, x1_edgeCount, x1_aim) (x2_lineCount, x2_goodsCount, x2_workCount, x2_years, x2_lines, x2_goods, x2_works, x2_change, x2_coin, x2_knownFree, x2_isKnown) p2 p3) (fun r => ∃ m, Ls 1000000 (Tq p3.toNatClampNeg) p2.toNatClampNeg m ∧ r.1 = if 1000000 ≤ m then (-1) else m) := by
  unfold fX4_costBetween
  dsimp only [u4, u14, u11]
  refine Sf.bind (thereS hn h_x2_lineCount) (fun v1 hb => ?_)
  refine Sf.bind (prepS hn h_x2_lines h_x2_coin h_x2_lineCount h_x1_edgeA h_x1_edgeB) ?_
  rintro ⟨g2, g3, g4, g5, g6, g7, g8⟩ ⟨q1, q2, q3, q4, q5, q6, q7⟩
  have q1 : g8 = (-1) := q1
  have q2 : AI 0 35 g2 := q2
  have q3 : AI 0 35 g3 := q3
  have q4 : 0 ≤ g7 ∧ g7 ≤ 60 := q4
  have q5 : ∀ e, e < g7.toNatClampNeg → 0 ≤ g4 e ∧ g4 e ≤ 999 := q5
  have q6 : ∀ k, k < 12 → g6 k = x2_change k := q6
  have q7 : EgOk x2_lines x2_coin v1 (fun l _ => l < x2_lineCount.toNatClampNeg) g2 g3 g4 g7.toNatClampNeg := q7
  have hL20 := nlt (M := 20) (N := 20) rfl h_x2_lineCount
  have hE : EdC g7.toNatClampNeg g2 g3 g4 g6 = EdL x2_lineCount.toNatClampNeg (ro 7 x2_lines) x2_change x2_coin := by
    funext u v c
    exact propext (EdC_Ed q7 (fun l hl => by rw [ro_eq (by decide)]; exact hb l hl) hL20 (fun l _ c hc => ro_eq (by omega)) (fun w _ => rfl) (fun p hp => (q6 p hp).symm) (fun l _ => by decide) u v c)
  have hC12 : C12 g6 := fun p hp => by rw [q6 p hp]; exact h_x2_change p
  try dsimp only [u7]
  refine Sf.bind (aimS hn q2 q3 q4 q5 hC12 hp3 (T := Tq p3.toNatClampNeg) (by rw [hE]; exact hT _ (p_of hp3)) (fun e => by rw [q1] at e; rw [← e] at hp3; exact absurd hp3.1 (by decide))) ?_
  rintro ⟨g12, g13⟩ ⟨r1, r2⟩
  have r1 : ∀ v, v < 36 → g12 v = Tq p3.toNatClampNeg v := r1
  try dsimp only [u2]
  refine Sf.bind (costS hn hp2) ?_
  rintro v15 ⟨m, hm, e⟩
  exact Sf.ok ⟨m, Ls_congr (p_of hp2) r1 hm, e⟩
end
section
/-! cheapest: alike -/
def VPl (p1 p2 : Int32) : Prop := (0 ≤ p1 ∧ p1 ≤ 11) ∧ (0 ≤ p2 ∧ p2 ≤ 11)
def ChV (Tq : Nat → Nat → Int32) (p1 p2 a : Int32) : Prop := ∃ m, Ls 1000000 (Tq p2.toNatClampNeg) p1.toNatClampNeg m ∧ a = if 1000000 ≤ m then (-5) else m
theorem ChV_eq {Tq : Nat → Nat → Int32} {p1 p2 a a' : Int32} (h : ChV Tq p1 p2 a) (h' : ChV Tq p1 p2 a') : a = a' := by
  obtain ⟨m, h1, h2⟩ := h
  obtain ⟨m', h3, h4⟩ := h'
  rw [h2, h4, Ls_uniq h1 h3]
theorem Ls_pos {T : Nat → Int32} {p : Nat} {m : Int32} (hT : A6 T) (hp : p < 12) (h : Ls 1000000 T p m) : 0 ≤ m := by
  rcases h.2.2 with e | ⟨w, hw, e⟩
  · rw [e]; decide
  · rw [e]; exact (hT _ (by omega)).1
theorem cheapestC {n : Nat} {x0_refused : (Nat → Int32)} {x0_isKept : Int32} {x0_gone : Int32} {x0_spent : Int32} {x1_lineCount : Int32} {x1_goodsCount : Int32} {x1_workCount : Int32} {x1_years : Int32} {x1_lines : (Nat → Int32)} {x1_goods : (Nat → Int32)} {x1_works : (Nat → Int32)} {x1_change : (Nat → Int32)} {x1_coin : (Nat → Int32)} {x1_knownFree : (Nat → Int32)} {x1_isKnown : Int32} {x2_left : (Nat → Int32)} {x2_earned : (Nat → Int32)} {x2_turnCost : Int32} {x2_turnWayless : Int32} {x3_edgeA : (Nat → Int32)} {x3_edgeB : (Nat → Int32)} {x3_edgeCost : (Nat → Int32)} {x3_edgeLine : (Nat → Int32)} {x3_change : (Nat → Int32)} {x3_away : (Nat → Int32)} {x3_steps : (Nat → Int32)} {x3_nodes : (Nat → Int32)} {x3_stepCount : Int32} {x3_open : (Nat → Int32)} {x3_openCount : Int32} {x3_seen : Int64} {x3_edgeCount : Int32} {x3_aim : Int32} {p1 p2 : Int32} (hn : 1000000000000 ≤ n) (h_x1_lineCount : (0 ≤ x1_lineCount ∧ x1_lineCount ≤ 20)) (h_x1_goodsCount : (0 ≤ x1_goodsCount ∧ x1_goodsCount ≤ 8)) (h_x1_workCount : (0 ≤ x1_workCount ∧ x1_workCount ≤ 7)) (h_x1_years : (1 ≤ x1_years ∧ x1_years ≤ 30)) (h_x1_lines : (LnOk x1_lines)) (h_x1_goods : (GdOk x1_goods)) (h_x1_works : (WkOk x1_works)) (h_x1_change : (AI 0 99 x1_change)) (h_x1_coin : (AI 0 9 x1_coin)) (h_x3_edgeA : (AI 0 35 x3_edgeA)) (h_x3_edgeB : (AI 0 35 x3_edgeB)) (h_x3_edgeLine : (AI 0 19 x3_edgeLine)) (h_x3_steps : (AI 0 22 x3_steps)) (h_x3_nodes : (AI 0 35 x3_nodes)) (h_x3_stepCount : (0 ≤ x3_stepCount ∧ x3_stepCount ≤ 36)) (h_x3_open : (AI 0 35 x3_open)) (h_x3_openCount : (0 ≤ x3_openCount ∧ x3_openCount ≤ 36)) (h_x3_edgeCount : (0 ≤ x3_edgeCount ∧ x3_edgeCount ≤ 60)) {Tq : Nat → Nat → Int32} (hT : Tz (EdL x1_lineCount.toNatClampNeg (ro 7 x1_lines) x1_change x1_coin) Tq) : Sf (fX6_cheapest n (x0_refused, x0_isKept, x0_gone, x0_spent) (x1_lineCount, x1_goodsCount, x1_workCount, x1_years, x1_lines, x1_goods, x1_works, x1_change, x1_coin, x1_knownFree, x1_isKnown) (x2_left, x2_earned, x2_turnCost, x2_turnWayless) (x3_edgeA, x3_edgeB, x3_edgeCost, x3_edgeLine, x3_change, x3_away, x3_steps, x3_nodes, x3_stepCount, x3_open, x3_openCount, x3_seen, x3_edgeCount, x3_aim) p1 p2) (fun r => AP (VPl p1 p2) r.1 (ChV Tq p1 p2 r.1) True) := by
  unfold fX6_cheapest
  dsimp only [u4, u14, u11]
  refine Sf.bind sX6_isPlace (fun v1 h1 => Sf.ite (fun hz => ?_) (fun hz => ?_))
  · refine Sf.bind refC ?_
    rintro ⟨v, g⟩ e
    exact Sf.ok (Or.inr ⟨fun V => gd0 h1 hz V.1, e, trivial⟩)
  have c1 := gd1 h1 hz
  refine Sf.bind sX6_isPlace (fun v6 h6 => Sf.ite (fun hz => ?_) (fun hz => ?_))
  · refine Sf.bind refC ?_
    rintro ⟨v, g⟩ e
    exact Sf.ok (Or.inr ⟨fun V => gd0 h6 hz V.2, e, trivial⟩)
  have c2 := gd1 h6 hz
  have hTF := hT _ (p_of c2)
  refine Sf.ite (fun he => ?_) (fun he => ?_)
  · refine Sf.ok (Or.inl ⟨⟨c1, c2⟩, ?_⟩)
    obtain ⟨m, hm⟩ : ∃ m, Ls 1000000 (Tq p2.toNatClampNeg) p1.toNatClampNeg m := ⟨_, Ls_m3 hTF.1 (p_of c1)⟩
    have h0 : Tq p2.toNatClampNeg (3 * p1.toNatClampNeg + 0) = 0 := hTF.2.1 _ (by rw [he]; omega)
    have hle := hm.1 0 (by decide)
    rw [h0] at hle
    have hge := Ls_pos hTF.1 (p_of c1) hm
    have e0 := Int32.le_antisymm hle hge
    refine ⟨_, hm, ?_⟩
    rw [e0]
    rfl
  · refine Sf.bind (costBetweenC hn h_x3_edgeA h_x3_edgeB h_x3_edgeLine h_x3_steps h_x3_nodes h_x3_stepCount h_x3_open h_x3_openCount h_x3_edgeCount h_x1_lineCount h_x1_goodsCount h_x1_workCount h_x1_years h_x1_lines h_x1_goods h_x1_works h_x1_change h_x1_coin c1 c2 hT) ?_
    rintro ⟨v8, g10, g11, g12, g13, g14, g15, g16, g17⟩ ⟨m, hm, e8⟩
    have e8 : v8 = _ := e8
    have hge := Ls_pos hTF.1 (p_of c1) hm
    try dsimp only [u2, u8]
    by_cases hf : 1000000 ≤ m
    · rw [if_pos hf] at e8
      rw [if_pos e8]
      refine Sf.bind refC ?_
      rintro ⟨v, g⟩ e
      exact Sf.ok (Or.inl ⟨⟨c1, c2⟩, m, hm, by rw [if_pos hf]; exact e⟩)
    · rw [if_neg hf] at e8
      rw [if_neg (by rw [e8]; intro h; rw [h] at hge; exact absurd hge (by decide))]
      exact Sf.ok (Or.inl ⟨⟨c1, c2⟩, m, hm, by rw [if_neg hf]; exact e8⟩)
theorem cheapestR {n : Nat} {x0_shelf : (Nat → Int32)} {x0_rowSort : (Nat → Int32)} {x0_rowSize : (Nat → Int32)} {x0_rows : (Nat → Nat → Int64)} {x0_moved : (Nat → Int64)} {x0_shown : (Nat → Int32)} {x0_tape : (Nat → Int32)} {x0_tapeSize : Int32} {x0_refused : (Nat → Int32)} {x0_lines : Int32} {x0_line : (Nat → Nat → Int32)} {x0_changes : (Nat → Int32)} {x0_coins : (Nat → Int32)} {x0_goods : Int32} {x0_good : (Nat → Nat → Int32)} {x0_works : Int32} {x0_work : (Nat → Nat → Int32)} {x0_years : Int32} {x0_gone : Int32} {x0_spent : Int32} {x0_at : Int32} {x0_token : Int32} {x0_from : Int32} {x0_figures : Int64} {x0_fault : Int32} {x0_numbers : (Nat → Int32)} {x0_statements : Int32} {x0_left : (Nat → Int32)} {x0_far : (Nat → Int32)} {x0_tons : Int32} {x0_way : (Nat → Int32)} {x0_steps : Int32} {x0_met : Int64} {x0_queue : (Nat → Int32)} {x0_totals : (Nat → Int32)} {p1 p2 : Int32} (hn : 1000000000000 ≤ n) (h_x0_shelf : (AI 0 2 x0_shelf)) (h_x0_rowSize : (AI 0 40 x0_rowSize)) (h_x0_tapeSize : (0 ≤ x0_tapeSize ∧ x0_tapeSize ≤ 250)) (h_x0_lines : (0 ≤ x0_lines ∧ x0_lines ≤ 20)) (h_x0_line : (LnM x0_line)) (h_x0_changes : (AI 0 99 x0_changes)) (h_x0_coins : (AI 0 9 x0_coins)) (h_x0_goods : (0 ≤ x0_goods ∧ x0_goods ≤ 8)) (h_x0_good : (GdM x0_good)) (h_x0_works : (0 ≤ x0_works ∧ x0_works ≤ 7)) (h_x0_work : (WkM x0_work)) (h_x0_years : (1 ≤ x0_years ∧ x0_years ≤ 30)) (h_x0_from : (0 ≤ x0_from ∧ x0_from ≤ 250)) (h_x0_far : (AI 0 1000000000 x0_far)) (h_x0_way : (AI 0 22 x0_way)) (h_x0_steps : (0 ≤ x0_steps ∧ x0_steps ≤ 37)) (h_x0_queue : (AI 0 35 x0_queue)) {Tq : Nat → Nat → Int32} (hT : Tz (EdL x0_lines.toNatClampNeg x0_line x0_changes x0_coins) Tq) : Sf (fX7_cheapest n (x0_shelf, x0_rowSort, x0_rowSize, x0_rows, x0_moved, x0_shown, x0_tape, x0_tapeSize, x0_refused, x0_lines, x0_line, x0_changes, x0_coins, x0_goods, x0_good, x0_works, x0_work, x0_years, x0_gone, x0_spent, x0_at, x0_token, x0_from, x0_figures, x0_fault, x0_numbers, x0_statements, x0_left, x0_far, x0_tons, x0_way, x0_steps, x0_met, x0_queue, x0_totals) p1 p2) (fun r => AP (VPl p1 p2) r.1 (ChV Tq p1 p2 r.1) True) := by
  unfold fX7_cheapest
  dsimp only [u35]
  refine Sf.bind sX7_isPlace (fun v1 h1 => Sf.ite (fun hz => ?_) (fun hz => ?_))
  · refine Sf.bind (sX7_refuse h_x0_shelf h_x0_rowSize h_x0_tapeSize h_x0_lines h_x0_line h_x0_changes h_x0_coins h_x0_goods h_x0_good h_x0_works h_x0_work h_x0_years h_x0_from h_x0_far h_x0_way h_x0_steps h_x0_queue (by decide)) ?_
    rintro ⟨v, g⟩ e
    exact Sf.ok (Or.inr ⟨fun V => gd0 h1 hz V.1, e, trivial⟩)
  have c1 := gd1 h1 hz
  refine Sf.bind sX7_isPlace (fun v6 h6 => Sf.ite (fun hz => ?_) (fun hz => ?_))
  · refine Sf.bind (sX7_refuse h_x0_shelf h_x0_rowSize h_x0_tapeSize h_x0_lines h_x0_line h_x0_changes h_x0_coins h_x0_goods h_x0_good h_x0_works h_x0_work h_x0_years h_x0_from h_x0_far h_x0_way h_x0_steps h_x0_queue (by decide)) ?_
    rintro ⟨v, g⟩ e
    exact Sf.ok (Or.inr ⟨fun V => gd0 h6 hz V.2, e, trivial⟩)
  have c2 := gd1 h6 hz
  have hTF := hT _ (p_of c2)
  refine Sf.bind (refillS hn h_x0_lines) (fun g8 e8 => ?_)
  have hleft : ∀ l, l < x0_lines.toNatClampNeg → ¬ g8 l < 0 := by
    intro l hl
    rw [e8 l hl]
    exact Int32.not_lt.mpr (h_x0_line l 4).1
  refine Sf.bind (farT hn h_x0_shelf h_x0_rowSize h_x0_tapeSize h_x0_lines h_x0_line h_x0_changes h_x0_coins h_x0_goods h_x0_good h_x0_works h_x0_work h_x0_years h_x0_from h_x0_far h_x0_way h_x0_steps h_x0_queue c2 hleft) ?_
  rintro ⟨g10, g11⟩ ⟨hA, hF, hlt⟩
  have hA : AI 0 1000000000 g10 := hA
  have hlt : ∀ v, v < 36 → g10 v < 1000000000 → g10 v < 1000000 := hlt
  try dsimp only [u2]
  refine Sf.bind (leastS hn c1) (fun v13 h13 => ?_)
  have hm := Ls_m3 hTF.1 (p_of c1)
  have hm2 := Ls_congr (p_of c1) (fun v hv => (TF_uniq hF hTF v hv).symm) hm
  have key := Ls_eq (fun w hw => hlt _ (by have := p_of c1; omega)) hm2 h13
  refine Sf.ite (fun hc => ?_) (fun hc => ?_)
  · refine Sf.bind (leastS hn c1) (fun v15 h15 => ?_)
    have e15 := Ls_uniq h15 h13
    refine Sf.ok (Or.inl ⟨⟨c1, c2⟩, _, hm, ?_⟩)
    show v15 = _
    rcases key with ⟨_, k2⟩ | ⟨k1, _, k3⟩
    · exact absurd hc (Int32.not_lt.mpr k2)
    · rw [if_neg (Int32.not_le.mpr k1), k3, e15]
  · refine Sf.bind (sX7_refuse h_x0_shelf h_x0_rowSize h_x0_tapeSize h_x0_lines h_x0_line h_x0_changes h_x0_coins h_x0_goods h_x0_good h_x0_works h_x0_work h_x0_years h_x0_from hA h_x0_way h_x0_steps h_x0_queue (by decide)) ?_
    rintro ⟨v, g⟩ e
    refine Sf.ok (Or.inl ⟨⟨c1, c2⟩, _, hm, ?_⟩)
    show v = _
    rcases key with ⟨k1, _⟩ | ⟨_, k2, _⟩
    · rw [if_pos k1]; exact e
    · exact absurd k2 hc
theorem dCheapest {n : Nat} {x0_refused : (Nat → Int32)} {x0_isKept : Int32} {x0_gone : Int32} {x0_spent : Int32} {x1_lineCount : Int32} {x1_goodsCount : Int32} {x1_workCount : Int32} {x1_years : Int32} {x1_lines : (Nat → Int32)} {x1_goods : (Nat → Int32)} {x1_works : (Nat → Int32)} {x1_change : (Nat → Int32)} {x1_coin : (Nat → Int32)} {x1_knownFree : (Nat → Int32)} {x1_isKnown : Int32} {x2_left : (Nat → Int32)} {x2_earned : (Nat → Int32)} {x2_turnCost : Int32} {x2_turnWayless : Int32} {x3_edgeA : (Nat → Int32)} {x3_edgeB : (Nat → Int32)} {x3_edgeCost : (Nat → Int32)} {x3_edgeLine : (Nat → Int32)} {x3_change : (Nat → Int32)} {x3_away : (Nat → Int32)} {x3_steps : (Nat → Int32)} {x3_nodes : (Nat → Int32)} {x3_stepCount : Int32} {x3_open : (Nat → Int32)} {x3_openCount : Int32} {x3_seen : Int64} {x3_edgeCount : Int32} {x3_aim : Int32} {m_shelf : (Nat → Int32)} {m_rowSort : (Nat → Int32)} {m_rowSize : (Nat → Int32)} {m_rows : (Nat → Nat → Int64)} {m_moved : (Nat → Int64)} {m_shown : (Nat → Int32)} {m_tape : (Nat → Int32)} {m_tapeSize : Int32} {m_refused : (Nat → Int32)} {m_lines : Int32} {m_line : (Nat → Nat → Int32)} {m_changes : (Nat → Int32)} {m_coins : (Nat → Int32)} {m_goods : Int32} {m_good : (Nat → Nat → Int32)} {m_works : Int32} {m_work : (Nat → Nat → Int32)} {m_years : Int32} {m_gone : Int32} {m_spent : Int32} {m_at : Int32} {m_token : Int32} {m_from : Int32} {m_figures : Int64} {m_fault : Int32} {m_numbers : (Nat → Int32)} {m_statements : Int32} {m_left : (Nat → Int32)} {m_far : (Nat → Int32)} {m_tons : Int32} {m_way : (Nat → Int32)} {m_steps : Int32} {m_met : Int64} {m_queue : (Nat → Int32)} {m_totals : (Nat → Int32)} {p1 p2 er fr : Int32} {A6 : (Nat → Int32) × ((Nat → Int32) × (Nat → Int32) × (Nat → Int32) × (Nat → Int32) × (Nat → Int32) × (Nat → Int32) × Int32 × Int32)} {B6 : (Nat → Int32) × (Nat → Int32) × (Nat → Int32) × Int32} (hn : 1000000000000 ≤ n) (h_x1_lineCount : (0 ≤ x1_lineCount ∧ x1_lineCount ≤ 20)) (h_x1_goodsCount : (0 ≤ x1_goodsCount ∧ x1_goodsCount ≤ 8)) (h_x1_workCount : (0 ≤ x1_workCount ∧ x1_workCount ≤ 7)) (h_x1_years : (1 ≤ x1_years ∧ x1_years ≤ 30)) (h_x1_lines : (LnOk x1_lines)) (h_x1_goods : (GdOk x1_goods)) (h_x1_works : (WkOk x1_works)) (h_x1_change : (AI 0 99 x1_change)) (h_x1_coin : (AI 0 9 x1_coin)) (h_x3_edgeA : (AI 0 35 x3_edgeA)) (h_x3_edgeB : (AI 0 35 x3_edgeB)) (h_x3_edgeLine : (AI 0 19 x3_edgeLine)) (h_x3_steps : (AI 0 22 x3_steps)) (h_x3_nodes : (AI 0 35 x3_nodes)) (h_x3_stepCount : (0 ≤ x3_stepCount ∧ x3_stepCount ≤ 36)) (h_x3_open : (AI 0 35 x3_open)) (h_x3_openCount : (0 ≤ x3_openCount ∧ x3_openCount ≤ 36)) (h_x3_edgeCount : (0 ≤ x3_edgeCount ∧ x3_edgeCount ≤ 60)) (h_m_shelf : (AI 0 2 m_shelf)) (h_m_rowSize : (AI 0 40 m_rowSize)) (h_m_tapeSize : (0 ≤ m_tapeSize ∧ m_tapeSize ≤ 250)) (h_m_lines : (0 ≤ m_lines ∧ m_lines ≤ 20)) (h_m_line : (LnM m_line)) (h_m_changes : (AI 0 99 m_changes)) (h_m_coins : (AI 0 9 m_coins)) (h_m_goods : (0 ≤ m_goods ∧ m_goods ≤ 8)) (h_m_good : (GdM m_good)) (h_m_works : (0 ≤ m_works ∧ m_works ≤ 7)) (h_m_work : (WkM m_work)) (h_m_years : (1 ≤ m_years ∧ m_years ≤ 30)) (h_m_from : (0 ≤ m_from ∧ m_from ≤ 250)) (h_m_far : (AI 0 1000000000 m_far)) (h_m_way : (AI 0 22 m_way)) (h_m_steps : (0 ≤ m_steps ∧ m_steps ≤ 37)) (h_m_queue : (AI 0 35 m_queue)) (hA : (LaD x1_lineCount x1_goodsCount x1_workCount x1_years x1_lines x1_goods x1_works x1_change x1_coin m_lines m_line m_changes m_coins m_goods m_good m_works m_work m_years)) (eqA : fX6_cheapest n (x0_refused, x0_isKept, x0_gone, x0_spent) (x1_lineCount, x1_goodsCount, x1_workCount, x1_years, x1_lines, x1_goods, x1_works, x1_change, x1_coin, x1_knownFree, x1_isKnown) (x2_left, x2_earned, x2_turnCost, x2_turnWayless) (x3_edgeA, x3_edgeB, x3_edgeCost, x3_edgeLine, x3_change, x3_away, x3_steps, x3_nodes, x3_stepCount, x3_open, x3_openCount, x3_seen, x3_edgeCount, x3_aim) p1 p2 = some (er, A6)) (eqB : fX7_cheapest n (m_shelf, m_rowSort, m_rowSize, m_rows, m_moved, m_shown, m_tape, m_tapeSize, m_refused, m_lines, m_line, m_changes, m_coins, m_goods, m_good, m_works, m_work, m_years, m_gone, m_spent, m_at, m_token, m_from, m_figures, m_fault, m_numbers, m_statements, m_left, m_far, m_tons, m_way, m_steps, m_met, m_queue, m_totals) p1 p2 = some (fr, B6)) : er = fr := by
  obtain ⟨Tq, hT⟩ := Tz_ex h_m_lines h_m_line h_m_changes h_m_coins
  obtain ⟨⟨z1, z2, z3, z4⟩, z5, z6, z7, z8, z9, z10⟩ := hA
  have hE : EdL x1_lineCount.toNatClampNeg (ro 7 x1_lines) x1_change x1_coin = EdL m_lines.toNatClampNeg m_line m_changes m_coins := by
    rw [← z1]
    exact EdL_congr z5 z8 z9
  have hT2 : Tz (EdL x1_lineCount.toNatClampNeg (ro 7 x1_lines) x1_change x1_coin) Tq := by rw [hE]; exact hT
  have a := (cheapestC hn h_x1_lineCount h_x1_goodsCount h_x1_workCount h_x1_years h_x1_lines h_x1_goods h_x1_works h_x1_change h_x1_coin h_x3_edgeA h_x3_edgeB h_x3_edgeLine h_x3_steps h_x3_nodes h_x3_stepCount h_x3_open h_x3_openCount h_x3_edgeCount hT2).at eqA
  have b := (cheapestR hn h_m_shelf h_m_rowSize h_m_tapeSize h_m_lines h_m_line h_m_changes h_m_coins h_m_goods h_m_good h_m_works h_m_work h_m_years h_m_from h_m_far h_m_way h_m_steps h_m_queue hT).at eqB
  rcases AP_eq a b with ⟨a1, b1⟩ | ⟨e, _, _⟩
  · exact ChV_eq a1 b1
  · exact e
end
section
/-! bounds of FREE; hangs: alike -/
theorem cst_rng {D : Nat → Nat → Int → Prop} {T : Nat → Int32} {q p : Nat} (h : TF D (fun u => u / 3 = q) T) (hD : ∀ u v c, D u v c → u < 36 ∧ v < 36 ∧ c ≤ 999) (hq : q < 12) (hp : p < 12) : 0 ≤ (cst T p).toInt ∧ (cst T p).toInt ≤ 35964 := by
  obtain ⟨_, _, _, d⟩ := m3_le (T (3 * p + 0)) (T (3 * p + 1)) (T (3 * p + 2))
  have z0 : (0 : Int32).toInt = 0 := by decide
  have z9 : (999 : Int32).toInt = 999 := by decide
  have zm : (1000000 : Int32).toInt = 1000000 := by decide
  obtain ⟨t1, t2, t3, t4⟩ := h
  have one : ∀ v, v < 36 → T v < 1000000 → 0 ≤ (T v).toInt ∧ (T v).toInt ≤ 35964 := by
    intro v hv hl
    have l := Int32.lt_iff_toInt_lt.mp hl
    rw [zm] at l
    have n := Int32.le_iff_toInt_le.mp (t1 v hv).1
    rw [z0] at n
    obtain ⟨k, hk⟩ := t4 v hv l
    exact ⟨n, far_bound t3 hD t2 (g0 := 3 * q) (by omega) (show 3 * q / 3 = q by omega) hk⟩
  unfold cst
  by_cases hl : m3 (T (3 * p + 0)) (T (3 * p + 1)) (T (3 * p + 2)) < 1000000
  · rw [if_pos hl]
    rcases d with d | d | d
    · rw [d] at hl ⊢; exact one _ (by omega) hl
    · rw [d] at hl ⊢; exact one _ (by omega) hl
    · rw [d] at hl ⊢; exact one _ (by omega) hl
  · rw [if_neg hl, z9]; omega
theorem sm_rng {f : Nat → Int32} {B : Int} (hB : 0 ≤ B) : ∀ K : Nat, (K : Int) * B ≤ 2000000000 → (∀ k, k < K → 0 ≤ (f k).toInt ∧ (f k).toInt ≤ B) → 0 ≤ (sm f K).toInt ∧ (sm f K).toInt ≤ (K : Int) * B
  | 0, _, _ => by
    have z0 : (0 : Int32).toInt = 0 := by decide
    show 0 ≤ (0 : Int32).toInt ∧ (0 : Int32).toInt ≤ ((0 : Nat) : Int) * B
    rw [z0]
    simp
  | K + 1, h, hf => by
    have e : ((K + 1 : Nat) : Int) * B = (K : Int) * B + B := by rw [Int.natCast_add, Int.add_mul]; simp
    rw [e] at h
    have ih := sm_rng hB K (by omega) (fun k hk => hf k (by omega))
    have q := hf K (by omega)
    have a : (sm f K + f K).toInt = (sm f K).toInt + (f K).toInt := i32_add (by omega) (by omega)
    show 0 ≤ (sm f K + f K).toInt ∧ (sm f K + f K).toInt ≤ ((K + 1 : Nat) : Int) * B
    rw [a, e]
    omega
theorem FreeF_rng {D : Nat → Nat → Int → Prop} {Tq : Nat → Nat → Int32} {good : Nat → Nat → Int32} {G : Nat} (h : Tz D Tq) (hD : ∀ u v c, D u v c → u < 36 ∧ v < 36 ∧ c ≤ 999) (hg : GdM good) (hG : G ≤ 8) : 0 ≤ (FreeF Tq good G).toInt ∧ (FreeF Tq good G).toInt ≤ 28483488 := by
  have one : ∀ g, g < G → 0 ≤ (tm Tq good g).toInt ∧ (tm Tq good g).toInt ≤ 3560436 := by
    intro g _
    have b2 := i32_b (hg g 2)
    have c := cst_rng (h _ (p_of (hg g 1))) hD (p_of (hg g 1)) (p_of (hg g 0))
    have z0 : (0 : Int32).toInt = 0 := by decide
    have e : (gdB 2).toInt = 99 := by decide
    rw [z0, e] at b2
    obtain ⟨e1, e2, e3⟩ := mul_rng b2 c (by decide) (by decide)
    unfold tm
    rw [e1]
    exact ⟨e2, by omega⟩
  have q := sm_rng (f := tm Tq good) (B := 3560436) (by decide) G (by omega) one
  show 0 ≤ (sm (tm Tq good) G).toInt ∧ (sm (tm Tq good) G).toInt ≤ 28483488
  omega
theorem Free_rng {L G : Int32} {line : Nat → Nat → Int32} {changes coins : Nat → Int32} {good : Nat → Nat → Int32} (hL : 0 ≤ L ∧ L ≤ 20) (hl : LnM line) (hch : AI 0 99 changes) (hco : AI 0 9 coins) (hg : GdM good) (hG : 0 ≤ G ∧ G ≤ 8) : 0 ≤ (Free L line changes coins good G).toInt ∧ (Free L line changes coins good G).toInt ≤ 28483488 := by
  obtain ⟨Tq, hT⟩ := Tz_ex hL hl hch hco
  rw [← Free_eq hT hg]
  exact FreeF_rng hT (Ed.d (left := fun _ => 0) (tons := 0) hl hco hch) hg (nlt (M := 8) (N := 8) rfl hG)
/-- FREE without a line -/
noncomputable def FrL (A : Ab) (coins : Nat → Int32) (good : Nat → Nat → Int32) (G : Int32) (l : Nat) : Int32 := Free A.1 (va_up A.2.1 l (va_up (A.2.1 l) 6 1)) A.2.2 coins good G
theorem wash_eq {line line' : Nat → Nat → Int32} {L l : Nat} (h : ∀ k, k < L → ∀ c, c < 7 → line k c = line' k c) : ∀ k, k < L → ∀ c, c < 7 → va_up line l (va_up (line l) 6 1) k c = va_up line' l (va_up (line' l) 6 1) k c := by
  intro k hk c hc
  by_cases e : k = l
  · subst e
    rw [va_eq, va_eq]
    by_cases h6 : c = 6
    · rw [h6, va_eq, va_eq]
    · rw [va_ne _ _ h6, va_ne _ _ h6]
      exact h k hk c hc
  · rw [va_ne _ _ e, va_ne _ _ e]
    exact h k hk c hc
theorem FrL_congr {A B : Ab} {coins coins' : Nat → Int32} {good good' : Nat → Nat → Int32} {G : Int32} (h : AbEq A B) (hco : ∀ w, w < 3 → coins w = coins' w) (hg : ∀ g, g < G.toNatClampNeg → ∀ c, c < 3 → good g c = good' g c) (l : Nat) : FrL A coins good G l = FrL B coins' good' G l := by
  obtain ⟨L, line, ch⟩ := A
  obtain ⟨L', line', ch'⟩ := B
  obtain ⟨e1, e2, e3⟩ := h
  have e1 : L = L' := e1
  subst e1
  exact Free_congr (wash_eq e2) e3 hco hg
/-- the line of the greatest one, the first of several -/
def hgW (c : Nat → Int32) (line : Nat → Nat → Int32) : Nat → Int32 × Int32
  | 0 => (-1, -1)
  | k + 1 => if line k 6 = 0 ∧ ¬ c k ≤ (hgW c line k).2 then (Int32.ofNat k, c k) else hgW c line k
theorem hgW_congr {c c' : Nat → Int32} {line line' : Nat → Nat → Int32} : ∀ K : Nat, (∀ k, k < K → c k = c' k) → (∀ k, k < K → line k 6 = line' k 6) → hgW c line K = hgW c' line' K
  | 0, _, _ => rfl
  | K + 1, h, h' => by
    show (if line K 6 = 0 ∧ ¬ c K ≤ (hgW c line K).2 then (Int32.ofNat K, c K) else hgW c line K) = (if line' K 6 = 0 ∧ ¬ c' K ≤ (hgW c' line' K).2 then (Int32.ofNat K, c' K) else hgW c' line' K)
    rw [hgW_congr K (fun k hk => h k (by omega)) (fun k hk => h' k (by omega)), h K (by omega), h' K (by omega)]
theorem dearestC {n : Nat} {x0_left : (Nat → Int32)} {x0_earned : (Nat → Int32)} {x0_turnCost : Int32} {x0_turnWayless : Int32} {x1_edgeA : (Nat → Int32)} {x1_edgeB : (Nat → Int32)} {x1_edgeCost : (Nat → Int32)} {x1_edgeLine : (Nat → Int32)} {x1_change : (Nat → Int32)} {x1_away : (Nat → Int32)} {x1_steps : (Nat → Int32)} {x1_nodes : (Nat → Int32)} {x1_stepCount : Int32} {x1_open : (Nat → Int32)} {x1_openCount : Int32} {x1_seen : Int64} {x1_edgeCount : Int32} {x1_aim : Int32} {x2_lineCount : Int32} {x2_goodsCount : Int32} {x2_workCount : Int32} {x2_years : Int32} {x2_lines : (Nat → Int32)} {x2_goods : (Nat → Int32)} {x2_works : (Nat → Int32)} {x2_change : (Nat → Int32)} {x2_coin : (Nat → Int32)} {x2_knownFree : (Nat → Int32)} {x2_isKnown : Int32} (hn : 1000000000000 ≤ n) (h_x1_edgeA : (AI 0 35 x1_edgeA)) (h_x1_edgeB : (AI 0 35 x1_edgeB)) (h_x1_edgeLine : (AI 0 19 x1_edgeLine)) (h_x1_steps : (AI 0 22 x1_steps)) (h_x1_nodes : (AI 0 35 x1_nodes)) (h_x1_stepCount : (0 ≤ x1_stepCount ∧ x1_stepCount ≤ 36)) (h_x1_open : (AI 0 35 x1_open)) (h_x1_openCount : (0 ≤ x1_openCount ∧ x1_openCount ≤ 36)) (h_x1_edgeCount : (0 ≤ x1_edgeCount ∧ x1_edgeCount ≤ 60)) (h_x2_lineCount : (0 ≤ x2_lineCount ∧ x2_lineCount ≤ 20)) (h_x2_goodsCount : (0 ≤ x2_goodsCount ∧ x2_goodsCount ≤ 8)) (h_x2_workCount : (0 ≤ x2_workCount ∧ x2_workCount ≤ 7)) (h_x2_years : (1 ≤ x2_years ∧ x2_years ≤ 30)) (h_x2_lines : (LnOk x2_lines)) (h_x2_goods : (GdOk x2_goods)) (h_x2_works : (WkOk x2_works)) (h_x2_change : (AI 0 99 x2_change)) (h_x2_coin : (AI 0 9 x2_coin)) : Sf (fX4_dearestLoss n (x0_left, x0_earned, x0_turnCost, x0_turnWayless) (x1_edgeA, x1_edgeB, x1_edgeCost, x1_edgeLine, x1_change, x1_away, x1_steps, x1_nodes, x1_stepCount, x1_open, x1_openCount, x1_seen, x1_edgeCount, x1_aim) (x2_lineCount, x2_goodsCount, x2_workCount, x2_years, x2_lines, x2_goods, x2_works, x2_change, x2_coin, x2_knownFree, x2_isKnown)) (fun r => r.1 = (hgW (FrL (x2_lineCount, ro 7 x2_lines, x2_change) x2_coin (ro 3 x2_goods) x2_goodsCount) (ro 7 x2_lines) x2_lineCount.toNatClampNeg).1) := by
  have hlm : LnM (ro 7 x2_lines) := ro_GI lnB0 h_x2_lines
  have hgm : GdM (ro 3 x2_goods) := ro_GI gdB0 h_x2_goods
  have hL20 := nlt (M := 20) (N := 20) rfl h_x2_lineCount
  generalize hC : FrL (x2_lineCount, ro 7 x2_lines, x2_change) x2_coin (ro 3 x2_goods) x2_goodsCount = C
  unfold fX4_dearestLoss
  dsimp only [u4, u14, u11]
  refine Sf.bind (thereS hn h_x2_lineCount) (fun v1 hv1 => ?_)
  refine Sf.bind (P := fun r : Int32 × (Nat → Int32) × (Nat → Int32) × (Nat → Int32) × (Nat → Int32) × (Nat → Int32) × (Nat → Int32) × Int32 × Int32 => r.1 = (hgW C (ro 7 x2_lines) x2_lineCount.toNatClampNeg).1) ?_ ?_
  · refine Sf.loop11 (fun (z4 z5 z6 : Int32) (z7 z8 z9 z10 z11 z12 : Nat → Int32) (z13 z14 : Int32) => (0 ≤ z6 ∧ z6 ≤ x2_lineCount) ∧ (z4, z5) = hgW C (ro 7 x2_lines) z6.toNatClampNeg ∧ AI 0 35 z7 ∧ AI 0 35 z8 ∧ AI 0 19 z10 ∧ (0 ≤ z13 ∧ z13 ≤ 60)) (fun z4 z5 z6 z7 z8 z9 z10 z11 z12 z13 z14 => muUp z6) (fun z4 z5 z6 z7 z8 z9 z10 z11 z12 z13 z14 h => ?_) (show (0 ≤ (0 : Int32) ∧ (0 : Int32) ≤ x2_lineCount) ∧ ((-1 : Int32), (-1 : Int32)) = hgW C (ro 7 x2_lines) (0 : Int32).toNatClampNeg ∧ AI 0 35 x1_edgeA ∧ AI 0 35 x1_edgeB ∧ AI 0 19 x1_edgeLine ∧ (0 ≤ x1_edgeCount ∧ x1_edgeCount ≤ 60) from ⟨⟨by decide, h_x2_lineCount.1⟩, rfl, h_x1_edgeA, h_x1_edgeB, h_x1_edgeLine, h_x1_edgeCount⟩) (muUp_n hn)
    obtain ⟨i0, i1, j1, j2, j3, j4⟩ := h
    unfold fX4_dearestLoss_s13
    refine Sf.ite (fun hc => ?_) (fun hc => ?_)
    · have e : z6 = x2_lineCount := Int32.le_antisymm i0.2 hc
      rw [e] at i1
      refine Sf.inr ?_
      show z4 = _
      rw [← i1]
    obtain ⟨p0, p1, p3⟩ := up1 i0.1 (Int32.le_trans h_x2_lineCount.2 (by decide)) hc
    have hz1 : z6 + 1 ≤ x2_lineCount := by clear i1 hv1 hlm hgm hC; grind
    have hz30 : 0 ≤ z6 ∧ z6 ≤ 30 := ⟨i0.1, by clear i1 hv1 hlm hgm hC; grind⟩
    have ez : Int32.ofNat z6.toNatClampNeg = z6 := Int32.ofNat_toNatClampNeg z6 i0.1
    have hzn : z6.toNatClampNeg < x2_lineCount.toNatClampNeg := by
      have a := i32_cl i0.1
      have b := i32_cl h_x2_lineCount.1
      have c := Int32.lt_iff_toInt_lt.mp p3
      omega
    have e6 : ro 7 x2_lines z6.toNatClampNeg 6 = x2_lines (7 * z6.toNatClampNeg + 6) := ro_eq (by decide)
    have nx : hgW C (ro 7 x2_lines) (z6 + 1).toNatClampNeg = if ro 7 x2_lines z6.toNatClampNeg 6 = 0 ∧ ¬ C z6.toNatClampNeg ≤ z5 then (z6, C z6.toNatClampNeg) else (z4, z5) := by
      rw [p1]
      show (if ro 7 x2_lines z6.toNatClampNeg 6 = 0 ∧ ¬ C z6.toNatClampNeg ≤ (hgW C (ro 7 x2_lines) z6.toNatClampNeg).2 then (Int32.ofNat z6.toNatClampNeg, C z6.toNatClampNeg) else hgW C (ro 7 x2_lines) z6.toNatClampNeg) = _
      rw [← i1, ez]
    refine Sf.ite (fun hb => ?_) (fun hb => ?_)
    · have hb := (bit_at hz30).mp hb
      have hw : ¬ ro 7 x2_lines z6.toNatClampNeg 6 = 0 := by
        intro hh
        rw [e6] at hh
        have q := (hv1 z6.toNatClampNeg (by omega)).mpr ⟨hzn, hh⟩
        rw [hb] at q
        cases q
      rw [if_neg (fun hh => hw hh.1)] at nx
      exact Sf.inl (show (0 ≤ z6 + 1 ∧ z6 + 1 ≤ x2_lineCount) ∧ (z4, z5) = hgW C (ro 7 x2_lines) (z6 + 1).toNatClampNeg ∧ AI 0 35 z7 ∧ AI 0 35 z8 ∧ AI 0 19 z10 ∧ (0 ≤ z13 ∧ z13 ≤ 60) from ⟨⟨p0, hz1⟩, nx.symm, j1, j2, j3, j4⟩) (muUp_lt hc)
    · have hb : tq v1 z6.toNatClampNeg = true := by
        cases hq : tq v1 z6.toNatClampNeg with
        | true => rfl
        | false => exact absurd ((bit_at hz30).mpr hq) hb
      have hw : ro 7 x2_lines z6.toNatClampNeg 6 = 0 := e6.trans ((hv1 z6.toNatClampNeg (by omega)).mp hb).2
      have key : ∀ l, l < 31 → tq ((1 : Int32) <<< (z6 &&& 31)) l = decide (l = z6.toNatClampNeg) := by
        intro l hl
        have q := tq_shl (k := z6.toNatClampNeg) (by omega) l hl
        rw [ez] at q
        exact q
      have ha1 : ∀ l, l < x2_lineCount.toNatClampNeg → ∀ c, c < 6 → va_up (ro 7 x2_lines) z6.toNatClampNeg (va_up (ro 7 x2_lines z6.toNatClampNeg) 6 1) l c = x2_lines (7 * l + c) := by
        intro l _ c hc6
        by_cases e : l = z6.toNatClampNeg
        · rw [e, va_eq, va_ne _ _ (by omega), ro_eq (by omega)]
        · rw [va_ne _ _ e, ro_eq (by omega)]
      have ha2 : ∀ l, l < 20 → (tq (v1 &&& (((1 : Int32) <<< (z6 &&& 31)) ^^^ (-1))) l = true ↔ (l < x2_lineCount.toNatClampNeg ∧ va_up (ro 7 x2_lines) z6.toNatClampNeg (va_up (ro 7 x2_lines z6.toNatClampNeg) 6 1) l 6 = 0)) := by
        intro l hl
        rw [tq_and, tq_not _ (by omega), key l (by omega)]
        by_cases e : l = z6.toNatClampNeg
        · rw [e, va_eq, va_eq, decide_eq_true rfl, Bool.not_true, Bool.and_false]
          constructor
          · intro h
            cases h
          · intro h
            exact absurd h.2 (by decide)
        · rw [va_ne _ _ e, ro_eq (by decide), decide_eq_false e, Bool.not_false, Bool.and_true]
          exact hv1 l hl
      obtain ⟨Tq, hT⟩ := Tz_ex (line := va_up (ro 7 x2_lines) z6.toNatClampNeg (va_up (ro 7 x2_lines z6.toNatClampNeg) 6 1)) h_x2_lineCount (GI.up hlm (RI.up (hlm _) (by decide))) h_x2_change h_x2_coin
      refine Sf.bind (Sf.and (sX4_freeBy hn j1 j2 j3 h_x1_steps h_x1_nodes h_x1_stepCount h_x1_open h_x1_openCount j4 h_x2_lineCount h_x2_goodsCount h_x2_workCount h_x2_years h_x2_lines h_x2_goods h_x2_works h_x2_change h_x2_coin) (freeByT hn j1 j2 j3 h_x1_steps h_x1_nodes h_x1_stepCount h_x1_open h_x1_openCount j4 h_x2_lineCount h_x2_goodsCount h_x2_workCount h_x2_years h_x2_lines h_x2_goods h_x2_works h_x2_change h_x2_coin (good := ro 3 x2_goods) (changes := x2_change) (coins := x2_coin) ⟨ha1, fun g _ c hc => ro_eq hc, fun p _ => rfl, fun w _ => rfl⟩ ha2 hT)) ?_
      rintro ⟨v25, g27, g28, g29, g30, g31, g32, g33, g34⟩ ⟨⟨b1, b2, b3, b4⟩, e25⟩
      have e25 : v25 = C z6.toNatClampNeg := by rw [← hC]; exact e25.trans (Free_eq hT hgm)
      rw [← e25] at nx
      try dsimp only [u8]
      refine Sf.ite (fun hle => ?_) (fun hle => ?_)
      · rw [if_neg (fun hh => hh.2 hle)] at nx
        exact Sf.inl (show (0 ≤ z6 + 1 ∧ z6 + 1 ≤ x2_lineCount) ∧ (z4, z5) = hgW C (ro 7 x2_lines) (z6 + 1).toNatClampNeg ∧ AI 0 35 g27 ∧ AI 0 35 g28 ∧ AI 0 19 g30 ∧ (0 ≤ g33 ∧ g33 ≤ 60) from ⟨⟨p0, hz1⟩, nx.symm, b1, b2, b3, b4⟩) (muUp_lt hc)
      · rw [if_pos ⟨hw, hle⟩] at nx
        exact Sf.inl (show (0 ≤ z6 + 1 ∧ z6 + 1 ≤ x2_lineCount) ∧ (z6, v25) = hgW C (ro 7 x2_lines) (z6 + 1).toNatClampNeg ∧ AI 0 35 g27 ∧ AI 0 35 g28 ∧ AI 0 19 g30 ∧ (0 ≤ g33 ∧ g33 ≤ 60) from ⟨⟨p0, hz1⟩, nx.symm, b1, b2, b3, b4⟩) (muUp_lt hc)
  · rintro ⟨w16, w17, w18, w19, w20, w21, w22, w23, w24⟩ h
    exact Sf.ok h
theorem hangsC {n : Nat} {x0_refused : (Nat → Int32)} {x0_isKept : Int32} {x0_gone : Int32} {x0_spent : Int32} {x1_lineCount : Int32} {x1_goodsCount : Int32} {x1_workCount : Int32} {x1_years : Int32} {x1_lines : (Nat → Int32)} {x1_goods : (Nat → Int32)} {x1_works : (Nat → Int32)} {x1_change : (Nat → Int32)} {x1_coin : (Nat → Int32)} {x1_knownFree : (Nat → Int32)} {x1_isKnown : Int32} {x2_left : (Nat → Int32)} {x2_earned : (Nat → Int32)} {x2_turnCost : Int32} {x2_turnWayless : Int32} {x3_edgeA : (Nat → Int32)} {x3_edgeB : (Nat → Int32)} {x3_edgeCost : (Nat → Int32)} {x3_edgeLine : (Nat → Int32)} {x3_change : (Nat → Int32)} {x3_away : (Nat → Int32)} {x3_steps : (Nat → Int32)} {x3_nodes : (Nat → Int32)} {x3_stepCount : Int32} {x3_open : (Nat → Int32)} {x3_openCount : Int32} {x3_seen : Int64} {x3_edgeCount : Int32} {x3_aim : Int32} (hn : 1000000000000 ≤ n) (h_x1_lineCount : (0 ≤ x1_lineCount ∧ x1_lineCount ≤ 20)) (h_x1_goodsCount : (0 ≤ x1_goodsCount ∧ x1_goodsCount ≤ 8)) (h_x1_workCount : (0 ≤ x1_workCount ∧ x1_workCount ≤ 7)) (h_x1_years : (1 ≤ x1_years ∧ x1_years ≤ 30)) (h_x1_lines : (LnOk x1_lines)) (h_x1_goods : (GdOk x1_goods)) (h_x1_works : (WkOk x1_works)) (h_x1_change : (AI 0 99 x1_change)) (h_x1_coin : (AI 0 9 x1_coin)) (h_x3_edgeA : (AI 0 35 x3_edgeA)) (h_x3_edgeB : (AI 0 35 x3_edgeB)) (h_x3_edgeLine : (AI 0 19 x3_edgeLine)) (h_x3_steps : (AI 0 22 x3_steps)) (h_x3_nodes : (AI 0 35 x3_nodes)) (h_x3_stepCount : (0 ≤ x3_stepCount ∧ x3_stepCount ≤ 36)) (h_x3_open : (AI 0 35 x3_open)) (h_x3_openCount : (0 ≤ x3_openCount ∧ x3_openCount ≤ 36)) (h_x3_edgeCount : (0 ≤ x3_edgeCount ∧ x3_edgeCount ≤ 60)) {d : Int32} (hd : d = (hgW (FrL (x1_lineCount, ro 7 x1_lines, x1_change) x1_coin (ro 3 x1_goods) x1_goodsCount) (ro 7 x1_lines) x1_lineCount.toNatClampNeg).1) : Sf (fX6_hangs n (x0_refused, x0_isKept, x0_gone, x0_spent) (x1_lineCount, x1_goodsCount, x1_workCount, x1_years, x1_lines, x1_goods, x1_works, x1_change, x1_coin, x1_knownFree, x1_isKnown) (x2_left, x2_earned, x2_turnCost, x2_turnWayless) (x3_edgeA, x3_edgeB, x3_edgeCost, x3_edgeLine, x3_change, x3_away, x3_steps, x3_nodes, x3_stepCount, x3_open, x3_openCount, x3_seen, x3_edgeCount, x3_aim)) (fun r => r.1 = if d = (-1) then (-5) else d) := by
  unfold fX6_hangs
  dsimp only [u4, u14, u11]
  refine Sf.bind (dearestC hn h_x3_edgeA h_x3_edgeB h_x3_edgeLine h_x3_steps h_x3_nodes h_x3_stepCount h_x3_open h_x3_openCount h_x3_edgeCount h_x1_lineCount h_x1_goodsCount h_x1_workCount h_x1_years h_x1_lines h_x1_goods h_x1_works h_x1_change h_x1_coin) ?_
  rintro ⟨v1, g3, g4, g5, g6, g7, g8, g9, g10⟩ e1
  have e1 : v1 = d := e1.trans hd.symm
  subst e1
  try dsimp only [u8]
  refine Sf.ite (fun hc => ?_) (fun hc => ?_)
  · refine Sf.bind refC ?_
    rintro ⟨v, g⟩ e
    have e : v = (-5) := e
    exact Sf.ok (show v = _ by rw [if_pos hc]; exact e)
  · exact Sf.ok (show v1 = _ by rw [if_neg hc])
theorem hangsV {n : Nat} {x0_shelf : (Nat → Int32)} {x0_rowSort : (Nat → Int32)} {x0_rowSize : (Nat → Int32)} {x0_rows : (Nat → Nat → Int64)} {x0_moved : (Nat → Int64)} {x0_shown : (Nat → Int32)} {x0_tape : (Nat → Int32)} {x0_tapeSize : Int32} {x0_refused : (Nat → Int32)} {x0_lines : Int32} {x0_line : (Nat → Nat → Int32)} {x0_changes : (Nat → Int32)} {x0_coins : (Nat → Int32)} {x0_goods : Int32} {x0_good : (Nat → Nat → Int32)} {x0_works : Int32} {x0_work : (Nat → Nat → Int32)} {x0_years : Int32} {x0_gone : Int32} {x0_spent : Int32} {x0_at : Int32} {x0_token : Int32} {x0_from : Int32} {x0_figures : Int64} {x0_fault : Int32} {x0_numbers : (Nat → Int32)} {x0_statements : Int32} {x0_left : (Nat → Int32)} {x0_far : (Nat → Int32)} {x0_tons : Int32} {x0_way : (Nat → Int32)} {x0_steps : Int32} {x0_met : Int64} {x0_queue : (Nat → Int32)} {x0_totals : (Nat → Int32)} (hn : 1000000000000 ≤ n) (h_x0_shelf : (AI 0 2 x0_shelf)) (h_x0_rowSize : (AI 0 40 x0_rowSize)) (h_x0_tapeSize : (0 ≤ x0_tapeSize ∧ x0_tapeSize ≤ 250)) (h_x0_lines : (0 ≤ x0_lines ∧ x0_lines ≤ 20)) (h_x0_line : (LnM x0_line)) (h_x0_changes : (AI 0 99 x0_changes)) (h_x0_coins : (AI 0 9 x0_coins)) (h_x0_goods : (0 ≤ x0_goods ∧ x0_goods ≤ 8)) (h_x0_good : (GdM x0_good)) (h_x0_works : (0 ≤ x0_works ∧ x0_works ≤ 7)) (h_x0_work : (WkM x0_work)) (h_x0_years : (1 ≤ x0_years ∧ x0_years ≤ 30)) (h_x0_from : (0 ≤ x0_from ∧ x0_from ≤ 250)) (h_x0_far : (AI 0 1000000000 x0_far)) (h_x0_way : (AI 0 22 x0_way)) (h_x0_steps : (0 ≤ x0_steps ∧ x0_steps ≤ 37)) (h_x0_queue : (AI 0 35 x0_queue)) {d : Int32} (hd : d = (hgW (FrL (x0_lines, x0_line, x0_changes) x0_coins x0_good x0_goods) x0_line x0_lines.toNatClampNeg).1) : Sf (fX7_hangs n (x0_shelf, x0_rowSort, x0_rowSize, x0_rows, x0_moved, x0_shown, x0_tape, x0_tapeSize, x0_refused, x0_lines, x0_line, x0_changes, x0_coins, x0_goods, x0_good, x0_works, x0_work, x0_years, x0_gone, x0_spent, x0_at, x0_token, x0_from, x0_figures, x0_fault, x0_numbers, x0_statements, x0_left, x0_far, x0_tons, x0_way, x0_steps, x0_met, x0_queue, x0_totals)) (fun r => r.1 = if d = (-1) then (-5) else d) := by
  have hL20 := nlt (M := 20) (N := 20) rfl h_x0_lines
  have z0 : (0 : Int32).toInt = 0 := by decide
  have zm : (-1 : Int32).toInt = -1 := by decide
  have hCp : ∀ l, ¬ FrL (x0_lines, x0_line, x0_changes) x0_coins x0_good x0_goods l ≤ (-1) := by
    intro l hle
    have q := (Free_rng (line := va_up x0_line l (va_up (x0_line l) 6 1)) h_x0_lines (GI.up h_x0_line (RI.up (h_x0_line _) (by decide))) h_x0_changes h_x0_coins h_x0_good h_x0_goods).1
    have r := Int32.le_iff_toInt_le.mp hle
    rw [zm] at r
    have s : (FrL (x0_lines, x0_line, x0_changes) x0_coins x0_good x0_goods l).toInt = (Free x0_lines (va_up x0_line l (va_up (x0_line l) 6 1)) x0_changes x0_coins x0_good x0_goods).toInt := rfl
    omega
  have hCf : ∀ l, FrL (x0_lines, x0_line, x0_changes) x0_coins x0_good x0_goods l = Free x0_lines (va_up x0_line l (va_up (x0_line l) 6 1)) x0_changes x0_coins x0_good x0_goods := fun _ => rfl
  generalize FrL (x0_lines, x0_line, x0_changes) x0_coins x0_good x0_goods = C at hd hCp hCf
  unfold fX7_hangs
  dsimp only [u35]
  refine Sf.bind (P := fun r : Int32 × (Nat → Nat → Int32) × (Nat → Int32) × (Nat → Int32) × Int32 => r.1 = d ∧ r.2.1 = x0_line ∧ AI 0 1000000000 r.2.2.2.1) ?_ ?_
  · refine Sf.loop7 (fun (z2 z3 z4 : Int32) (z5 : Nat → Nat → Int32) (z6 z7 : Nat → Int32) (z8 : Int32) => (0 ≤ z4 ∧ z4 ≤ x0_lines) ∧ z5 = x0_line ∧ AI 0 1000000000 z7 ∧ z2 = (hgW C x0_line z4.toNatClampNeg).1 ∧ (¬ z2 = (-1) → z3 = (hgW C x0_line z4.toNatClampNeg).2) ∧ (z2 = (-1) → (hgW C x0_line z4.toNatClampNeg).2 = (-1))) (fun z2 z3 z4 z5 z6 z7 z8 => muUp z4) (fun z2 z3 z4 z5 z6 z7 z8 h => ?_) (show (0 ≤ (0 : Int32) ∧ (0 : Int32) ≤ x0_lines) ∧ x0_line = x0_line ∧ AI 0 1000000000 x0_far ∧ (-1 : Int32) = (hgW C x0_line (0 : Int32).toNatClampNeg).1 ∧ (¬ (-1 : Int32) = (-1) → (0 : Int32) = (hgW C x0_line (0 : Int32).toNatClampNeg).2) ∧ ((-1 : Int32) = (-1) → (hgW C x0_line (0 : Int32).toNatClampNeg).2 = (-1)) from ⟨⟨by decide, h_x0_lines.1⟩, rfl, h_x0_far, rfl, fun h => absurd rfl h, fun _ => rfl⟩) (muUp_n hn)
    obtain ⟨i0, i1, i2, k1, k2, k3⟩ := h
    rw [i1]
    unfold fX7_hangs_s6
    refine Sf.ite (fun hc => ?_) (fun hc => ?_)
    · have e : z4 = x0_lines := Int32.le_antisymm i0.2 hc
      rw [e] at k1
      exact Sf.inr (show z2 = d ∧ x0_line = x0_line ∧ AI 0 1000000000 z7 from ⟨k1.trans hd.symm, rfl, i2⟩)
    obtain ⟨p0, p1, p3⟩ := up1 i0.1 (Int32.le_trans h_x0_lines.2 (by decide)) hc
    have hz1 : z4 + 1 ≤ x0_lines := by clear i1 i2 k1 k2 k3 hCp hCf hd; grind
    have ez : Int32.ofNat z4.toNatClampNeg = z4 := Int32.ofNat_toNatClampNeg z4 i0.1
    have hi : 0 ≤ z4 ∧ z4 < 20 := ⟨i0.1, Int32.lt_of_lt_of_le p3 h_x0_lines.2⟩
    have nx : hgW C x0_line (z4 + 1).toNatClampNeg = if x0_line z4.toNatClampNeg 6 = 0 ∧ ¬ C z4.toNatClampNeg ≤ (hgW C x0_line z4.toNatClampNeg).2 then (z4, C z4.toNatClampNeg) else hgW C x0_line z4.toNatClampNeg := by
      rw [p1]
      show (if x0_line z4.toNatClampNeg 6 = 0 ∧ ¬ C z4.toNatClampNeg ≤ (hgW C x0_line z4.toNatClampNeg).2 then (Int32.ofNat z4.toNatClampNeg, C z4.toNatClampNeg) else hgW C x0_line z4.toNatClampNeg) = _
      rw [ez]
    have same : ∀ (g6 g7 : Nat → Int32) (g8 : Int32), AI 0 1000000000 g7 → hgW C x0_line (z4 + 1).toNatClampNeg = hgW C x0_line z4.toNatClampNeg → (0 ≤ z4 + 1 ∧ z4 + 1 ≤ x0_lines) ∧ x0_line = x0_line ∧ AI 0 1000000000 g7 ∧ z2 = (hgW C x0_line (z4 + 1).toNatClampNeg).1 ∧ (¬ z2 = (-1) → z3 = (hgW C x0_line (z4 + 1).toNatClampNeg).2) ∧ (z2 = (-1) → (hgW C x0_line (z4 + 1).toNatClampNeg).2 = (-1)) := by
      intro g6 g7 g8 h7 e
      rw [e]
      exact ⟨⟨p0, hz1⟩, rfl, h7, k1, k2, k3⟩
    refine Sf.ckb 20 rfl hi (fun q18 e18 _ => ?_)
    refine Sf.rdl 6 rfl rfl (fun v19 e19 => ?_)
    rw [e18] at e19
    refine Sf.ite (fun hv => ?_) (fun hv => ?_)
    · rw [e19] at hv
      refine Sf.ckb 20 rfl hi (fun q20 e20 _ => ?_)
      refine Sf.wrb 7 rfl (by decide) (fun f21 e21 => ?_)
      have e21 : f21 = va_up (x0_line q20) 6 1 := e21
      have hl2 : LnM (va_up x0_line q20 f21) := by
        rw [e21]
        exact GI.up h_x0_line (RI.up (h_x0_line q20) (by decide))
      refine Sf.bind (Sf.and (sX7_free hn h_x0_shelf h_x0_rowSize h_x0_tapeSize h_x0_lines hl2 h_x0_changes h_x0_coins h_x0_goods h_x0_good h_x0_works h_x0_work h_x0_years h_x0_from i2 h_x0_way h_x0_steps h_x0_queue) (freeR hn h_x0_shelf h_x0_rowSize h_x0_tapeSize h_x0_lines hl2 h_x0_changes h_x0_coins h_x0_goods h_x0_good h_x0_works h_x0_work h_x0_years h_x0_from i2 h_x0_way h_x0_steps h_x0_queue)) ?_
      rintro ⟨v22, g23, g24, g25⟩ ⟨h24, e22⟩
      have h24 : AI 0 1000000000 g24 := h24
      have e22 : v22 = C z4.toNatClampNeg := by
        rw [hCf, ← e20, ← e21]
        exact e22
      try dsimp only [u4]
      refine Sf.ckb 20 rfl hi (fun q27 e27 _ => ?_)
      refine Sf.wrb 7 rfl (by decide) (fun f28 e28 => ?_)
      have eqq : q27 = q20 := by rw [e27, e20]
      rw [eqq, va_eq] at e28
      have e28 : f28 = va_up f21 6 0 := e28
      have back : va_up (va_up x0_line q20 f21) q27 f28 = x0_line := by
        rw [eqq, va_up_up, e28, e21, va_up_up]
        funext l
        by_cases h : l = q20
        · rw [h, va_eq]
          funext c
          by_cases h6 : c = 6
          · rw [h6, va_eq, ← hv, e20]
          · rw [va_ne _ _ h6]
        · rw [va_ne _ _ h]
      have hnew : ¬ C z4.toNatClampNeg ≤ (hgW C x0_line z4.toNatClampNeg).2 → (0 ≤ z4 + 1 ∧ z4 + 1 ≤ x0_lines) ∧ x0_line = x0_line ∧ AI 0 1000000000 g24 ∧ z4 = (hgW C x0_line (z4 + 1).toNatClampNeg).1 ∧ (¬ z4 = (-1) → v22 = (hgW C x0_line (z4 + 1).toNatClampNeg).2) ∧ (z4 = (-1) → (hgW C x0_line (z4 + 1).toNatClampNeg).2 = (-1)) := by
        intro hgt
        rw [nx, if_pos ⟨hv, hgt⟩]
        refine ⟨⟨p0, hz1⟩, rfl, h24, rfl, fun _ => e22, fun h => ?_⟩
        have q := i0.1
        rw [h] at q
        exact absurd q (by decide)
      unfold fX7_hangs_j63
      rw [back]
      refine Sf.ite (fun hz2 => ?_) (fun hz2 => Sf.ite (fun hle => ?_) (fun hle => ?_))
      · exact Sf.inl (hnew (by rw [k3 hz2]; exact hCp _)) (muUp_lt hc)
      · rw [k2 hz2, e22] at hle
        exact Sf.inl (same g23 g24 g25 h24 (by rw [nx, if_neg (fun hh => hh.2 hle)])) (muUp_lt hc)
      · rw [k2 hz2, e22] at hle
        exact Sf.inl (hnew hle) (muUp_lt hc)
    · rw [e19] at hv
      exact Sf.inl (same z6 z7 z8 i2 (by rw [nx, if_neg (fun hh => hv hh.1)])) (muUp_lt hc)
  · rintro ⟨w10, w11, w12, w13, w14⟩ ⟨h1, h2, h3⟩
    have h1 : w10 = d := h1
    have h2 : w11 = x0_line := h2
    have h3 : AI 0 1000000000 w13 := h3
    try dsimp only [u5]
    rw [h2, h1]
    refine Sf.ite (fun hc => ?_) (fun hc => ?_)
    · refine Sf.bind (sX7_refuse h_x0_shelf h_x0_rowSize h_x0_tapeSize h_x0_lines h_x0_line h_x0_changes h_x0_coins h_x0_goods h_x0_good h_x0_works h_x0_work h_x0_years h_x0_from h3 h_x0_way h_x0_steps h_x0_queue (by decide)) ?_
      rintro ⟨v, g⟩ e
      have e : v = (-5) := e
      exact Sf.ok (show v = _ by rw [if_pos hc]; exact e)
    · exact Sf.ok (show d = _ by rw [if_neg hc])
theorem dHangs {n : Nat} {x0_refused : (Nat → Int32)} {x0_isKept : Int32} {x0_gone : Int32} {x0_spent : Int32} {x1_lineCount : Int32} {x1_goodsCount : Int32} {x1_workCount : Int32} {x1_years : Int32} {x1_lines : (Nat → Int32)} {x1_goods : (Nat → Int32)} {x1_works : (Nat → Int32)} {x1_change : (Nat → Int32)} {x1_coin : (Nat → Int32)} {x1_knownFree : (Nat → Int32)} {x1_isKnown : Int32} {x2_left : (Nat → Int32)} {x2_earned : (Nat → Int32)} {x2_turnCost : Int32} {x2_turnWayless : Int32} {x3_edgeA : (Nat → Int32)} {x3_edgeB : (Nat → Int32)} {x3_edgeCost : (Nat → Int32)} {x3_edgeLine : (Nat → Int32)} {x3_change : (Nat → Int32)} {x3_away : (Nat → Int32)} {x3_steps : (Nat → Int32)} {x3_nodes : (Nat → Int32)} {x3_stepCount : Int32} {x3_open : (Nat → Int32)} {x3_openCount : Int32} {x3_seen : Int64} {x3_edgeCount : Int32} {x3_aim : Int32} {m_shelf : (Nat → Int32)} {m_rowSort : (Nat → Int32)} {m_rowSize : (Nat → Int32)} {m_rows : (Nat → Nat → Int64)} {m_moved : (Nat → Int64)} {m_shown : (Nat → Int32)} {m_tape : (Nat → Int32)} {m_tapeSize : Int32} {m_refused : (Nat → Int32)} {m_lines : Int32} {m_line : (Nat → Nat → Int32)} {m_changes : (Nat → Int32)} {m_coins : (Nat → Int32)} {m_goods : Int32} {m_good : (Nat → Nat → Int32)} {m_works : Int32} {m_work : (Nat → Nat → Int32)} {m_years : Int32} {m_gone : Int32} {m_spent : Int32} {m_at : Int32} {m_token : Int32} {m_from : Int32} {m_figures : Int64} {m_fault : Int32} {m_numbers : (Nat → Int32)} {m_statements : Int32} {m_left : (Nat → Int32)} {m_far : (Nat → Int32)} {m_tons : Int32} {m_way : (Nat → Int32)} {m_steps : Int32} {m_met : Int64} {m_queue : (Nat → Int32)} {m_totals : (Nat → Int32)} {er fr : Int32} {A6 : (Nat → Int32) × ((Nat → Int32) × (Nat → Int32) × (Nat → Int32) × (Nat → Int32) × (Nat → Int32) × (Nat → Int32) × Int32 × Int32)} {B6 : (Nat → Int32) × (Nat → Nat → Int32) × (Nat → Int32) × (Nat → Int32) × Int32} (hn : 1000000000000 ≤ n) (h_x1_lineCount : (0 ≤ x1_lineCount ∧ x1_lineCount ≤ 20)) (h_x1_goodsCount : (0 ≤ x1_goodsCount ∧ x1_goodsCount ≤ 8)) (h_x1_workCount : (0 ≤ x1_workCount ∧ x1_workCount ≤ 7)) (h_x1_years : (1 ≤ x1_years ∧ x1_years ≤ 30)) (h_x1_lines : (LnOk x1_lines)) (h_x1_goods : (GdOk x1_goods)) (h_x1_works : (WkOk x1_works)) (h_x1_change : (AI 0 99 x1_change)) (h_x1_coin : (AI 0 9 x1_coin)) (h_x3_edgeA : (AI 0 35 x3_edgeA)) (h_x3_edgeB : (AI 0 35 x3_edgeB)) (h_x3_edgeLine : (AI 0 19 x3_edgeLine)) (h_x3_steps : (AI 0 22 x3_steps)) (h_x3_nodes : (AI 0 35 x3_nodes)) (h_x3_stepCount : (0 ≤ x3_stepCount ∧ x3_stepCount ≤ 36)) (h_x3_open : (AI 0 35 x3_open)) (h_x3_openCount : (0 ≤ x3_openCount ∧ x3_openCount ≤ 36)) (h_x3_edgeCount : (0 ≤ x3_edgeCount ∧ x3_edgeCount ≤ 60)) (h_m_shelf : (AI 0 2 m_shelf)) (h_m_rowSize : (AI 0 40 m_rowSize)) (h_m_tapeSize : (0 ≤ m_tapeSize ∧ m_tapeSize ≤ 250)) (h_m_lines : (0 ≤ m_lines ∧ m_lines ≤ 20)) (h_m_line : (LnM m_line)) (h_m_changes : (AI 0 99 m_changes)) (h_m_coins : (AI 0 9 m_coins)) (h_m_goods : (0 ≤ m_goods ∧ m_goods ≤ 8)) (h_m_good : (GdM m_good)) (h_m_works : (0 ≤ m_works ∧ m_works ≤ 7)) (h_m_work : (WkM m_work)) (h_m_years : (1 ≤ m_years ∧ m_years ≤ 30)) (h_m_from : (0 ≤ m_from ∧ m_from ≤ 250)) (h_m_far : (AI 0 1000000000 m_far)) (h_m_way : (AI 0 22 m_way)) (h_m_steps : (0 ≤ m_steps ∧ m_steps ≤ 37)) (h_m_queue : (AI 0 35 m_queue)) (hA : (LaD x1_lineCount x1_goodsCount x1_workCount x1_years x1_lines x1_goods x1_works x1_change x1_coin m_lines m_line m_changes m_coins m_goods m_good m_works m_work m_years)) (eqA : fX6_hangs n (x0_refused, x0_isKept, x0_gone, x0_spent) (x1_lineCount, x1_goodsCount, x1_workCount, x1_years, x1_lines, x1_goods, x1_works, x1_change, x1_coin, x1_knownFree, x1_isKnown) (x2_left, x2_earned, x2_turnCost, x2_turnWayless) (x3_edgeA, x3_edgeB, x3_edgeCost, x3_edgeLine, x3_change, x3_away, x3_steps, x3_nodes, x3_stepCount, x3_open, x3_openCount, x3_seen, x3_edgeCount, x3_aim) = some (er, A6)) (eqB : fX7_hangs n (m_shelf, m_rowSort, m_rowSize, m_rows, m_moved, m_shown, m_tape, m_tapeSize, m_refused, m_lines, m_line, m_changes, m_coins, m_goods, m_good, m_works, m_work, m_years, m_gone, m_spent, m_at, m_token, m_from, m_figures, m_fault, m_numbers, m_statements, m_left, m_far, m_tons, m_way, m_steps, m_met, m_queue, m_totals) = some (fr, B6)) : er = fr := by
  have a := (hangsC hn h_x1_lineCount h_x1_goodsCount h_x1_workCount h_x1_years h_x1_lines h_x1_goods h_x1_works h_x1_change h_x1_coin h_x3_edgeA h_x3_edgeB h_x3_edgeLine h_x3_steps h_x3_nodes h_x3_stepCount h_x3_open h_x3_openCount h_x3_edgeCount rfl).at eqA
  have b := (hangsV hn h_m_shelf h_m_rowSize h_m_tapeSize h_m_lines h_m_line h_m_changes h_m_coins h_m_goods h_m_good h_m_works h_m_work h_m_years h_m_from h_m_far h_m_way h_m_steps h_m_queue rfl).at eqB
  obtain ⟨⟨z1, z2, z3, z4⟩, z5, z6, z7, z8, z9, z10⟩ := id hA
  have hS := hA.s
  subst z1 z2 z3 z4
  have e : hgW (FrL (x1_lineCount, ro 7 x1_lines, x1_change) x1_coin (ro 3 x1_goods) x1_goodsCount) (ro 7 x1_lines) x1_lineCount.toNatClampNeg = hgW (FrL (x1_lineCount, m_line, m_changes) m_coins m_good x1_goodsCount) m_line x1_lineCount.toNatClampNeg := hgW_congr _ (fun k _ => FrL_congr hS.1 z9 z6 k) (fun k hk => z5 k hk 6 (by decide))
  have a : er = _ := a
  have b : fr = _ := b
  rw [a, b, e]
end
section
/-! edge: alike -/
def EdV (P : Int32 → Prop) (a : Int32) : Prop := (a = -1 ∧ ∀ y : Int32, 1 ≤ y ∧ y ≤ 30 → ¬ P y) ∨ ((1 ≤ a ∧ a ≤ 30) ∧ P a ∧ ∀ y : Int32, 1 ≤ y ∧ y < a → ¬ P y)
theorem EdV_eq {P P' : Int32 → Prop} {a a' : Int32} (hP : ∀ y : Int32, 1 ≤ y ∧ y ≤ 30 → (P y ↔ P' y)) (h : EdV P a) (h' : EdV P' a') : a = a' := by
  rcases h with ⟨e, n⟩ | ⟨r, p, n⟩ <;> rcases h' with ⟨e', n'⟩ | ⟨r', p', n'⟩
  · rw [e, e']
  · exact absurd ((hP _ r').mpr p') (n _ r')
  · exact absurd ((hP _ r).mp p) (n' _ r)
  · refine Int32.le_antisymm (Int32.not_lt.mp fun hl => ?_) (Int32.not_lt.mp fun hl => ?_)
    · exact n _ ⟨r'.1, hl⟩ ((hP _ r').mpr p')
    · exact n' _ ⟨r.1, hl⟩ ((hP _ r).mp p)
def A3 (V D : Prop) (a : Int32) (S : Prop) : Prop := (V ∧ ¬ D ∧ S) ∨ (¬ V ∧ a = -2) ∨ (V ∧ D ∧ a = -5)
theorem A3_eq {V V' D D' S S' : Prop} {a a' : Int32} (hV : V ↔ V') (hD : V → (D ↔ D')) (h : A3 V D a S) (h' : A3 V' D' a' S') : (V ∧ ¬ D ∧ S ∧ S') ∨ a = a' := by
  rcases h with ⟨v, d, s⟩ | ⟨v, e⟩ | ⟨v, d, e⟩ <;> rcases h' with ⟨v', d', s'⟩ | ⟨v', e'⟩ | ⟨v', d', e'⟩
  · exact Or.inl ⟨v, d, s, s'⟩
  · exact absurd (hV.mp v) v'
  · exact absurd ((hD v).mpr d') d
  · exact absurd (hV.mpr v') v
  · exact Or.inr (e.trans e'.symm)
  · exact absurd (hV.mpr v') v
  · exact absurd ((hD v).mp d) d'
  · exact absurd (hV.mp v) v'
  · exact Or.inr (e.trans e'.symm)
theorem upE {z y : Int32} (h1 : 1 ≤ z) (h : ¬ 30 < z) (hy : 1 ≤ y ∧ y < z + 1) : y < z ∨ y = z := by
  have e30 : (30 : Int32).toInt = 30 := by decide
  have e1 : (1 : Int32).toInt = 1 := by decide
  have a := Int32.le_iff_toInt_le.mp h1
  have b := Int32.le_iff_toInt_le.mp (Int32.not_lt.mp h)
  have c := Int32.lt_iff_toInt_lt.mp hy.2
  rw [i32_add (by omega) (by omega)] at c
  by_cases e : y = z
  · exact Or.inr e
  · refine Or.inl (Int32.lt_iff_toInt_lt.mpr ?_)
    have d : y.toInt ≠ z.toInt := fun h => e (Int32.toInt_inj.mp h)
    omega
theorem edgeC {n : Nat} {x0_refused : (Nat → Int32)} {x0_isKept : Int32} {x0_gone : Int32} {x0_spent : Int32} {x1_gained : Nat → Int32} {x2_lineCount : Int32} {x2_goodsCount : Int32} {x2_workCount : Int32} {x2_years : Int32} {x2_lines : (Nat → Int32)} {x2_goods : (Nat → Int32)} {x2_works : (Nat → Int32)} {x2_change : (Nat → Int32)} {x2_coin : (Nat → Int32)} {x2_knownFree : (Nat → Int32)} {x2_isKnown : Int32} {x3_lineCount : Int32} {x3_goodsCount : Int32} {x3_workCount : Int32} {x3_years : Int32} {x3_lines : (Nat → Int32)} {x3_goods : (Nat → Int32)} {x3_works : (Nat → Int32)} {x3_change : (Nat → Int32)} {x3_coin : (Nat → Int32)} {x3_knownFree : (Nat → Int32)} {x3_isKnown : Int32} {x4_left : (Nat → Int32)} {x4_earned : (Nat → Int32)} {x4_turnCost : Int32} {x4_turnWayless : Int32} {x5_edgeA : (Nat → Int32)} {x5_edgeB : (Nat → Int32)} {x5_edgeCost : (Nat → Int32)} {x5_edgeLine : (Nat → Int32)} {x5_change : (Nat → Int32)} {x5_away : (Nat → Int32)} {x5_steps : (Nat → Int32)} {x5_nodes : (Nat → Int32)} {x5_stepCount : Int32} {x5_open : (Nat → Int32)} {x5_openCount : Int32} {x5_seen : Int64} {x5_edgeCount : Int32} {x5_aim : Int32} {p1 : Int32} (hn : 1000000000000 ≤ n) (h_x2_lineCount : (0 ≤ x2_lineCount ∧ x2_lineCount ≤ 20)) (h_x2_goodsCount : (0 ≤ x2_goodsCount ∧ x2_goodsCount ≤ 8)) (h_x2_workCount : (0 ≤ x2_workCount ∧ x2_workCount ≤ 7)) (h_x2_years : (1 ≤ x2_years ∧ x2_years ≤ 30)) (h_x2_lines : (LnOk x2_lines)) (h_x2_goods : (GdOk x2_goods)) (h_x2_works : (WkOk x2_works)) (h_x2_change : (AI 0 99 x2_change)) (h_x2_coin : (AI 0 9 x2_coin)) (h_x3_lineCount : (0 ≤ x3_lineCount ∧ x3_lineCount ≤ 20)) (h_x3_goodsCount : (0 ≤ x3_goodsCount ∧ x3_goodsCount ≤ 8)) (h_x3_workCount : (0 ≤ x3_workCount ∧ x3_workCount ≤ 7)) (h_x3_years : (1 ≤ x3_years ∧ x3_years ≤ 30)) (h_x3_lines : (LnOk x3_lines)) (h_x3_goods : (GdOk x3_goods)) (h_x3_works : (WkOk x3_works)) (h_x3_change : (AI 0 99 x3_change)) (h_x3_coin : (AI 0 9 x3_coin)) (h_x5_edgeA : (AI 0 35 x5_edgeA)) (h_x5_edgeB : (AI 0 35 x5_edgeB)) (h_x5_edgeLine : (AI 0 19 x5_edgeLine)) (h_x5_steps : (AI 0 22 x5_steps)) (h_x5_nodes : (AI 0 35 x5_nodes)) (h_x5_stepCount : (0 ≤ x5_stepCount ∧ x5_stepCount ≤ 36)) (h_x5_open : (AI 0 35 x5_open)) (h_x5_openCount : (0 ≤ x5_openCount ∧ x5_openCount ≤ 36)) (h_x5_edgeCount : (0 ≤ x5_edgeCount ∧ x5_edgeCount ≤ 60)) (hf : ∀ k, k < x3_workCount.toNatClampNeg → Wf1 (ro 5 x3_works) x3_lineCount k) (hk : Kn (FrS x3_lineCount (ro 7 x3_lines) x3_change x3_coin (ro 3 x3_goods) x3_goodsCount (ro 5 x3_works) x3_workCount) x3_knownFree x3_isKnown) : Sf (fX6_edge n (x0_refused, x0_isKept, x0_gone, x0_spent) x1_gained (x2_lineCount, x2_goodsCount, x2_workCount, x2_years, x2_lines, x2_goods, x2_works, x2_change, x2_coin, x2_knownFree, x2_isKnown) (x3_lineCount, x3_goodsCount, x3_workCount, x3_years, x3_lines, x3_goods, x3_works, x3_change, x3_coin, x3_knownFree, x3_isKnown) (x4_left, x4_earned, x4_turnCost, x4_turnWayless) (x5_edgeA, x5_edgeB, x5_edgeCost, x5_edgeLine, x5_change, x5_away, x5_steps, x5_nodes, x5_stepCount, x5_open, x5_openCount, x5_seen, x5_edgeCount, x5_aim) p1) (fun r => A3 (0 ≤ p1 ∧ p1.toNatClampNeg < x3_workCount.toNatClampNeg) (¬ ro 5 x3_works p1.toNatClampNeg 4 = 0) r.1 (EdV (fun y => ¬ WoA (x3_lineCount, ro 7 x3_lines, x3_change) x3_coin (ro 3 x3_goods) x3_goodsCount (ro 5 x3_works) y p1.toNatClampNeg ≤ 0) r.1)) := by
  unfold fX6_edge
  dsimp only [u4, u14, u11]
  refine Sf.bind (noChC h_x3_lineCount h_x3_goodsCount h_x3_workCount h_x3_years h_x3_lines h_x3_goods h_x3_works h_x3_change h_x3_coin) (fun v1 h1 => ?_)
  refine Sf.ite (fun hz => ?_) (fun hz => ?_)
  · have hd : (0 ≤ p1 ∧ p1.toNatClampNeg < x3_workCount.toNatClampNeg) ∧ ro 5 x3_works p1.toNatClampNeg 4 = 0 := by
      rcases h1 with ⟨e, h, d⟩ | ⟨e, h⟩ | ⟨e, h, d⟩
      · exact ⟨h, d⟩
      · rw [e] at hz; exact absurd hz (by decide)
      · rw [e] at hz; exact absurd hz (by decide)
    obtain ⟨hpl, hp6⟩ := okK_lt h_x3_workCount hd.1
    generalize hP : (fun y => ¬ WoA (x3_lineCount, ro 7 x3_lines, x3_change) x3_coin (ro 3 x3_goods) x3_goodsCount (ro 5 x3_works) y p1.toNatClampNeg ≤ 0) = P
    have hP' : ∀ y, P y ↔ ¬ WoA (x3_lineCount, ro 7 x3_lines, x3_change) x3_coin (ro 3 x3_goods) x3_goodsCount (ro 5 x3_works) y p1.toNatClampNeg ≤ 0 := fun y => by rw [← hP]
    refine Sf.bindS (P := fun r => (1 ≤ r.1 ∧ r.1 ≤ 30) ∧ P r.1 ∧ ∀ y : Int32, 1 ≤ y ∧ y < r.1 → ¬ P y) (P' := fun r => ∀ y : Int32, 1 ≤ y ∧ y ≤ 30 → ¬ P y) ?_ ?_ ?_
    · refine Sf.loop24 (fun z4 z5 z6 z7 z8 z9 z10 z11 z12 z13 z14 z15 z16 z17 z18 z19 z20 z21 z22 z23 z24 z25 z26 z27 => 1 ≤ z4 ∧ (∀ y : Int32, 1 ≤ y ∧ y < z4 → ¬ P y) ∧ StB z20 z21 z23 z26 z5 z6 z7 z8 z9 z10 z11 z12 z13 ∧ FwQ (FrS x3_lineCount (ro 7 x3_lines) x3_change x3_coin (ro 3 x3_goods) x3_goodsCount (ro 5 x3_works) x3_workCount) x3_lineCount x3_lines x3_change (z15, z16, z17, z18, z19)) (fun z4 z5 z6 z7 z8 z9 z10 z11 z12 z13 z14 z15 z16 z17 z18 z19 z20 z21 z22 z23 z24 z25 z26 z27 => muUp z4) (fun z4 z5 z6 z7 z8 z9 z10 z11 z12 z13 z14 z15 z16 z17 z18 z19 z20 z21 z22 z23 z24 z25 z26 z27 h => ?_) ?_ (muUp_n hn)
      · obtain ⟨i0, i1, ⟨⟨j1, j2, j3, j4⟩, m1, m2, m3, m4, m5, m6, m7, m8, m9⟩, q1, q2, q3, q4⟩ := h
        have q1 : z15 = x3_lineCount := q1
        have q2 : z16 = x3_lines := q2
        have q3 : z17 = x3_change := q3
        have q4 : Kn _ z18 z19 := q4
        unfold fX6_edge_s18
        refine Sf.ite (fun hc => Sf.inr ?_) (fun hc => ?_)
        · show ∀ y : Int32, 1 ≤ y ∧ y ≤ 30 → ¬ P y
          exact fun y hy => i1 y ⟨hy.1, Int32.lt_of_le_of_lt hy.2 hc⟩
        rw [q1, q2, q3]
        have p0 : 1 ≤ z4 + 1 := by clear q4 hk hf h1 hd i1 hP'; grind
        refine Sf.bind (Sf.and (sX0_worthIn hn j1 j2 j3 h_x5_steps h_x5_nodes h_x5_stepCount h_x5_open h_x5_openCount j4 m1 m2 m3 m4 m5 m6 m7 m8 m9 h_x3_lineCount h_x3_goodsCount h_x3_workCount h_x3_years h_x3_lines h_x3_goods h_x3_works h_x3_change h_x3_coin hp6) (worthInC hn j1 j2 j3 h_x5_steps h_x5_nodes h_x5_stepCount h_x5_open h_x5_openCount j4 m1 m2 m3 m4 m5 m6 m7 m8 m9 h_x3_lineCount h_x3_goodsCount h_x3_workCount h_x3_years h_x3_lines h_x3_goods h_x3_works h_x3_change h_x3_coin hf q4 hpl hd.2)) ?_
        rintro ⟨v76, ⟨g78, g79, g80, g81, g82, g83, g84, g85⟩, ⟨g87, g88, g89, g90, g91, g92, g93, g94, g95, g96⟩, ⟨g98, g99, g100, g101, g102⟩⟩ ⟨⟨b1, b2, b3, b4, b5, b6, b7, b8, b9, b10, b11, b12, b13, b14, b15, b16⟩, e55, r1, r2, r3, r4⟩
        have e55 : v76 = _ := e55
        try dsimp only [u8, u10, u5]
        refine Sf.ite (fun hle => ?_) (fun hle => ?_)
        · refine Sf.inl ⟨p0, fun y hy => ?_, ⟨⟨b1, b2, b3, b4⟩, b5, b6, b7, b8, b9, b10, b11, b12, b13⟩, r1, r2, r3, r4⟩ (muUp_lt' (B := 31) (by clear q4 hk hf h1 hd r4 e55 i1 hP'; grind))
          rcases upE i0 hc hy with h | h
          · exact i1 y ⟨hy.1, h⟩
          · rw [h, hP', ← e55]
            exact fun hno => hno hle
        · refine Sf.inr ?_
          show (1 ≤ z4 ∧ z4 ≤ 30) ∧ P z4 ∧ ∀ y : Int32, 1 ≤ y ∧ y < z4 → ¬ P y
          exact ⟨⟨i0, Int32.not_lt.mp hc⟩, by rw [hP', ← e55]; exact hle, i1⟩
      · exact ⟨(show (1 : Int32) ≤ 1 by decide), fun y hy => absurd hy.2 (Int32.not_lt.mpr hy.1), ⟨⟨h_x5_edgeA, h_x5_edgeB, h_x5_edgeLine, h_x5_edgeCount⟩, h_x2_lineCount, h_x2_goodsCount, h_x2_workCount, h_x2_years, h_x2_lines, h_x2_goods, h_x2_works, h_x2_change, h_x2_coin⟩, rfl, rfl, rfl, hk⟩
    · rintro ⟨w29, w30, w31, w32, w33, w34, w35, w36, w37, w38, w39, w40, w41, w42, w43, w44, w45, w46, w47, w48, w49, w50, w51, w52⟩ h
      exact Sf.ok (Or.inl ⟨hd.1, fun hno => hno hd.2, Or.inr h⟩)
    · rintro ⟨w30, w31, w32, w33, w34, w35, w36, w37, w38, w39, w40, w41, w42, w43, w44, w45, w46, w47, w48, w49, w50, w51, w52⟩ h
      exact Sf.ok (Or.inl ⟨hd.1, fun hno => hno hd.2, Or.inl ⟨rfl, h⟩⟩)
  · refine Sf.bind refC ?_
    rintro ⟨v, g⟩ e
    have e : v = v1 := e
    refine Sf.ok (Or.inr ?_)
    rcases h1 with ⟨e1, h, d⟩ | ⟨e1, h⟩ | ⟨e1, h, d⟩
    · exact absurd e1 hz
    · exact Or.inl ⟨h, e.trans e1⟩
    · exact Or.inr ⟨h, d, e.trans e1⟩
theorem edgeR {n : Nat} {x0_shelf : (Nat → Int32)} {x0_rowSort : (Nat → Int32)} {x0_rowSize : (Nat → Int32)} {x0_rows : (Nat → Nat → Int64)} {x0_moved : (Nat → Int64)} {x0_shown : (Nat → Int32)} {x0_tape : (Nat → Int32)} {x0_tapeSize : Int32} {x0_refused : (Nat → Int32)} {x0_lines : Int32} {x0_line : (Nat → Nat → Int32)} {x0_changes : (Nat → Int32)} {x0_coins : (Nat → Int32)} {x0_goods : Int32} {x0_good : (Nat → Nat → Int32)} {x0_works : Int32} {x0_work : (Nat → Nat → Int32)} {x0_years : Int32} {x0_gone : Int32} {x0_spent : Int32} {x0_at : Int32} {x0_token : Int32} {x0_from : Int32} {x0_figures : Int64} {x0_fault : Int32} {x0_numbers : (Nat → Int32)} {x0_statements : Int32} {x0_left : (Nat → Int32)} {x0_far : (Nat → Int32)} {x0_tons : Int32} {x0_way : (Nat → Int32)} {x0_steps : Int32} {x0_met : Int64} {x0_queue : (Nat → Int32)} {x0_totals : (Nat → Int32)} {x1_shelf : (Nat → Int32)} {x1_rowSort : (Nat → Int32)} {x1_rowSize : (Nat → Int32)} {x1_rows : (Nat → Nat → Int64)} {x1_moved : (Nat → Int64)} {x1_shown : (Nat → Int32)} {x1_tape : (Nat → Int32)} {x1_tapeSize : Int32} {x1_refused : (Nat → Int32)} {x1_lines : Int32} {x1_line : (Nat → Nat → Int32)} {x1_changes : (Nat → Int32)} {x1_coins : (Nat → Int32)} {x1_goods : Int32} {x1_good : (Nat → Nat → Int32)} {x1_works : Int32} {x1_work : (Nat → Nat → Int32)} {x1_years : Int32} {x1_gone : Int32} {x1_spent : Int32} {x1_at : Int32} {x1_token : Int32} {x1_from : Int32} {x1_figures : Int64} {x1_fault : Int32} {x1_numbers : (Nat → Int32)} {x1_statements : Int32} {x1_left : (Nat → Int32)} {x1_far : (Nat → Int32)} {x1_tons : Int32} {x1_way : (Nat → Int32)} {x1_steps : Int32} {x1_met : Int64} {x1_queue : (Nat → Int32)} {x1_totals : (Nat → Int32)} {p1 : Int32} (hn : 1000000000000 ≤ n) (h_x0_shelf : (AI 0 2 x0_shelf)) (h_x0_rowSize : (AI 0 40 x0_rowSize)) (h_x0_tapeSize : (0 ≤ x0_tapeSize ∧ x0_tapeSize ≤ 250)) (h_x0_lines : (0 ≤ x0_lines ∧ x0_lines ≤ 20)) (h_x0_line : (LnM x0_line)) (h_x0_changes : (AI 0 99 x0_changes)) (h_x0_coins : (AI 0 9 x0_coins)) (h_x0_goods : (0 ≤ x0_goods ∧ x0_goods ≤ 8)) (h_x0_good : (GdM x0_good)) (h_x0_works : (0 ≤ x0_works ∧ x0_works ≤ 7)) (h_x0_work : (WkM x0_work)) (h_x0_years : (1 ≤ x0_years ∧ x0_years ≤ 30)) (h_x0_from : (0 ≤ x0_from ∧ x0_from ≤ 250)) (h_x0_far : (AI 0 1000000000 x0_far)) (h_x0_way : (AI 0 22 x0_way)) (h_x0_steps : (0 ≤ x0_steps ∧ x0_steps ≤ 37)) (h_x0_queue : (AI 0 35 x0_queue)) (h_x1_shelf : (AI 0 2 x1_shelf)) (h_x1_rowSize : (AI 0 40 x1_rowSize)) (h_x1_tapeSize : (0 ≤ x1_tapeSize ∧ x1_tapeSize ≤ 250)) (h_x1_lines : (0 ≤ x1_lines ∧ x1_lines ≤ 20)) (h_x1_line : (LnM x1_line)) (h_x1_changes : (AI 0 99 x1_changes)) (h_x1_coins : (AI 0 9 x1_coins)) (h_x1_goods : (0 ≤ x1_goods ∧ x1_goods ≤ 8)) (h_x1_good : (GdM x1_good)) (h_x1_works : (0 ≤ x1_works ∧ x1_works ≤ 7)) (h_x1_work : (WkM x1_work)) (h_x1_years : (1 ≤ x1_years ∧ x1_years ≤ 30)) (h_x1_from : (0 ≤ x1_from ∧ x1_from ≤ 250)) (h_x1_far : (AI 0 1000000000 x1_far)) (h_x1_way : (AI 0 22 x1_way)) (h_x1_steps : (0 ≤ x1_steps ∧ x1_steps ≤ 37)) (h_x1_queue : (AI 0 35 x1_queue)) (hf : ∀ k, k < x0_works.toNatClampNeg → Wf1 x0_work x0_lines k) : Sf (fX7_edge n (x0_shelf, x0_rowSort, x0_rowSize, x0_rows, x0_moved, x0_shown, x0_tape, x0_tapeSize, x0_refused, x0_lines, x0_line, x0_changes, x0_coins, x0_goods, x0_good, x0_works, x0_work, x0_years, x0_gone, x0_spent, x0_at, x0_token, x0_from, x0_figures, x0_fault, x0_numbers, x0_statements, x0_left, x0_far, x0_tons, x0_way, x0_steps, x0_met, x0_queue, x0_totals) (x1_shelf, x1_rowSort, x1_rowSize, x1_rows, x1_moved, x1_shown, x1_tape, x1_tapeSize, x1_refused, x1_lines, x1_line, x1_changes, x1_coins, x1_goods, x1_good, x1_works, x1_work, x1_years, x1_gone, x1_spent, x1_at, x1_token, x1_from, x1_figures, x1_fault, x1_numbers, x1_statements, x1_left, x1_far, x1_tons, x1_way, x1_steps, x1_met, x1_queue, x1_totals) p1) (fun r => A3 (0 ≤ p1 ∧ p1.toNatClampNeg < x0_works.toNatClampNeg) (¬ x0_work p1.toNatClampNeg 4 = 0) r.1 (EdV (fun y => ¬ y * (FrA (x0_lines, x0_line, x0_changes) x0_coins x0_good x0_goods - FrA (doA x0_work p1.toNatClampNeg (x0_lines, x0_line, x0_changes)) x0_coins x0_good x0_goods) ≤ x0_work p1.toNatClampNeg 3) r.1)) := by
  unfold fX7_edge
  dsimp only [u35]
  have isw : Sf (fX7_isWork (x0_shelf, x0_rowSort, x0_rowSize, x0_rows, x0_moved, x0_shown, x0_tape, x0_tapeSize, x0_refused, x0_lines, x0_line, x0_changes, x0_coins, x0_goods, x0_good, x0_works, x0_work, x0_years, x0_gone, x0_spent, x0_at, x0_token, x0_from, x0_figures, x0_fault, x0_numbers, x0_statements, x0_left, x0_far, x0_tons, x0_way, x0_steps, x0_met, x0_queue, x0_totals) p1) (fun r => (r = 1 ∧ 0 ≤ p1 ∧ p1 < x0_works) ∨ (r = 0 ∧ ¬ (0 ≤ p1 ∧ p1 < x0_works))) := sX7_isWork h_x0_shelf h_x0_rowSize h_x0_tapeSize h_x0_lines h_x0_line h_x0_changes h_x0_coins h_x0_goods h_x0_good h_x0_works h_x0_work h_x0_years h_x0_from h_x0_far h_x0_way h_x0_steps h_x0_queue
  refine Sf.bind isw (fun v1 h1 => Sf.ite (fun hz => ?_) (fun hz => ?_))
  · refine Sf.bind (sX7_refuse h_x0_shelf h_x0_rowSize h_x0_tapeSize h_x0_lines h_x0_line h_x0_changes h_x0_coins h_x0_goods h_x0_good h_x0_works h_x0_work h_x0_years h_x0_from h_x0_far h_x0_way h_x0_steps h_x0_queue (by decide)) ?_
    rintro ⟨v, g⟩ e
    refine Sf.ok (Or.inr (Or.inl ⟨fun h => ?_, e⟩))
    rcases h1 with h1 | h1
    · rw [h1.1] at hz; exact absurd hz (by decide)
    · refine h1.2 ⟨h.1, Int32.lt_iff_toInt_lt.mpr ?_⟩
      have a := i32_cl h.1
      have b := i32_cl h_x0_works.1
      have c := h.2
      omega
  have c1 : 0 ≤ p1 ∧ p1 < x0_works := by
    rcases h1 with h1 | h1
    · exact h1.2
    · exact absurd h1.1 hz
  have hp7 : 0 ≤ p1 ∧ p1 < 7 := ⟨c1.1, Int32.lt_of_lt_of_le c1.2 h_x0_works.2⟩
  have hp6 : 0 ≤ p1 ∧ p1 ≤ 6 := ⟨c1.1, by have q := hp7.2; clear isw h1 hf; grind⟩
  have hV : 0 ≤ p1 ∧ p1.toNatClampNeg < x0_works.toNatClampNeg := by
    refine ⟨c1.1, ?_⟩
    have a := i32_cl c1.1
    have b := i32_cl h_x0_works.1
    have c := Int32.lt_iff_toInt_lt.mp c1.2
    omega
  refine Sf.ckb 7 rfl hp7 (fun q3 e3 _ => ?_)
  refine Sf.rdl 4 rfl rfl (fun v4 e4 => ?_)
  rw [e3] at e4
  have hw4 := h_x0_work.1 p1.toNatClampNeg 4
  have hw4 : 0 ≤ x0_work p1.toNatClampNeg 4 ∧ x0_work p1.toNatClampNeg 4 ≤ 1 := hw4
  refine Sf.ite (fun hd => ?_) (fun hd => ?_)
  · refine Sf.bind (sX7_refuse h_x0_shelf h_x0_rowSize h_x0_tapeSize h_x0_lines h_x0_line h_x0_changes h_x0_coins h_x0_goods h_x0_good h_x0_works h_x0_work h_x0_years h_x0_from h_x0_far h_x0_way h_x0_steps h_x0_queue (by decide)) ?_
    rintro ⟨v, g⟩ e
    refine Sf.ok (Or.inr (Or.inr ⟨hV, fun h => ?_, e⟩))
    rw [← e4, hd] at h
    exact absurd h (by decide)
  have hd0 : x0_work p1.toNatClampNeg 4 = 0 := by
    rw [e4] at hd
    clear isw h1 hf
    grind
  refine Sf.bind (savesR hn h_x0_shelf h_x0_rowSize h_x0_tapeSize h_x0_lines h_x0_line h_x0_changes h_x0_coins h_x0_goods h_x0_good h_x0_works h_x0_work h_x0_years h_x0_from h_x0_far h_x0_way h_x0_steps h_x0_queue h_x1_shelf h_x1_rowSize h_x1_tapeSize h_x1_lines h_x1_line h_x1_changes h_x1_coins h_x1_goods h_x1_good h_x1_works h_x1_work h_x1_years h_x1_from h_x1_far h_x1_way h_x1_steps h_x1_queue hp6 (hf _ hV.2)) ?_
  rintro ⟨v5, g7, g8, g9, g10, g11, g12, g13, g14, g15, g16, g17, g18, g19, g20⟩ e5
  have e5 : v5 = _ := e5
  rw [← e5]
  try dsimp only [u14]
  refine Sf.bindS (P := fun r : Int32 => (1 ≤ r ∧ r ≤ 30) ∧ (¬ r * v5 ≤ x0_work p1.toNatClampNeg 3) ∧ ∀ y : Int32, 1 ≤ y ∧ y < r → ¬ ¬ y * v5 ≤ x0_work p1.toNatClampNeg 3) (P' := fun _ => ∀ y : Int32, 1 ≤ y ∧ y ≤ 30 → ¬ ¬ y * v5 ≤ x0_work p1.toNatClampNeg 3) ?_ ?_ ?_
  · refine Sf.loop (fun z => 1 ≤ z ∧ ∀ y : Int32, 1 ≤ y ∧ y < z → ¬ ¬ y * v5 ≤ x0_work p1.toNatClampNeg 3) muUp (fun z h => ?_) n 1 ⟨by decide, fun y hy => absurd hy.2 (Int32.not_lt.mpr hy.1)⟩ (muUp_n hn)
    obtain ⟨i0, i1⟩ := h
    unfold fX7_edge_s42
    refine Sf.ite (fun hc => Sf.inr ?_) (fun hc => ?_)
    · show ∀ y : Int32, 1 ≤ y ∧ y ≤ 30 → ¬ ¬ y * v5 ≤ x0_work p1.toNatClampNeg 3
      exact fun y hy => i1 y ⟨hy.1, Int32.lt_of_le_of_lt hy.2 hc⟩
    refine Sf.ckb 7 rfl hp7 (fun q26 e26 _ => ?_)
    refine Sf.rdl 3 rfl rfl (fun v27 e27 => ?_)
    rw [e26] at e27
    refine Sf.ite (fun hle => ?_) (fun hle => ?_)
    · refine Sf.inl ⟨?_, fun y hy => ?_⟩ (muUp_lt' (B := 31) ?_)
      · clear isw h1 hf i1 e5; grind
      · rcases upE i0 hc hy with h | h
        · exact i1 y ⟨hy.1, h⟩
        · rw [h, ← e27]
          exact fun hno => hno hle
      · clear isw h1 hf i1 e5; grind
    · refine Sf.inr ?_
      show (1 ≤ z ∧ z ≤ 30) ∧ (¬ z * v5 ≤ x0_work p1.toNatClampNeg 3) ∧ ∀ y : Int32, 1 ≤ y ∧ y < z → ¬ ¬ y * v5 ≤ x0_work p1.toNatClampNeg 3
      exact ⟨⟨i0, Int32.not_lt.mp hc⟩, by rw [← e27]; exact hle, i1⟩
  · intro w h
    exact Sf.ok (Or.inl ⟨hV, fun hno => hno hd0, Or.inr h⟩)
  · intro w h
    exact Sf.ok (Or.inl ⟨hV, fun hno => hno hd0, Or.inl ⟨rfl, h⟩⟩)
theorem edge_iff {y S c : Int32} (hy : 1 ≤ y ∧ y ≤ 30) (hS : -28483488 ≤ S.toInt ∧ S.toInt ≤ 28483488) (hc : 0 ≤ c ∧ c ≤ 9999) : (¬ y * S - c ≤ 0) ↔ ¬ y * S ≤ c := by
  have z0 : (0 : Int32).toInt = 0 := by decide
  have z1 : (1 : Int32).toInt = 1 := by decide
  have z30 : (30 : Int32).toInt = 30 := by decide
  have z9 : (9999 : Int32).toInt = 9999 := by decide
  have a := i32_b hy
  have b := i32_b hc
  rw [z1, z30] at a
  rw [z0, z9] at b
  have u : y.toInt * S.toInt ≤ 30 * 28483488 := by
    by_cases h : 0 ≤ S.toInt
    · exact Int.mul_le_mul a.2 hS.2 h (by decide)
    · have : y.toInt * S.toInt ≤ 0 := Int.mul_nonpos_of_nonneg_of_nonpos (by omega) (by omega)
      omega
  have l : -(30 * 28483488) ≤ y.toInt * S.toInt := by
    by_cases h : 0 ≤ S.toInt
    · have : 0 ≤ y.toInt * S.toInt := Int.mul_nonneg (by omega) h
      omega
    · have q : y.toInt * (-S.toInt) ≤ 30 * 28483488 := Int.mul_le_mul a.2 (by omega) (by omega) (by decide)
      rw [Int.mul_neg] at q
      omega
  have e : (y * S).toInt = y.toInt * S.toInt := i32_mul (by omega) (by omega)
  have e2 : (y * S - c).toInt = y.toInt * S.toInt - c.toInt := by
    rw [Int32.toInt_sub, e]
    exact bm (by omega) (by omega)
  rw [Int32.le_iff_toInt_le, Int32.le_iff_toInt_le, e, e2, z0]
  omega
theorem dEdge {n : Nat} {x0_refused : (Nat → Int32)} {x0_isKept : Int32} {x0_gone : Int32} {x0_spent : Int32} {x1_gained : Nat → Int32} {x2_lineCount : Int32} {x2_goodsCount : Int32} {x2_workCount : Int32} {x2_years : Int32} {x2_lines : (Nat → Int32)} {x2_goods : (Nat → Int32)} {x2_works : (Nat → Int32)} {x2_change : (Nat → Int32)} {x2_coin : (Nat → Int32)} {x2_knownFree : (Nat → Int32)} {x2_isKnown : Int32} {x3_lineCount : Int32} {x3_goodsCount : Int32} {x3_workCount : Int32} {x3_years : Int32} {x3_lines : (Nat → Int32)} {x3_goods : (Nat → Int32)} {x3_works : (Nat → Int32)} {x3_change : (Nat → Int32)} {x3_coin : (Nat → Int32)} {x3_knownFree : (Nat → Int32)} {x3_isKnown : Int32} {x4_left : (Nat → Int32)} {x4_earned : (Nat → Int32)} {x4_turnCost : Int32} {x4_turnWayless : Int32} {x5_edgeA : (Nat → Int32)} {x5_edgeB : (Nat → Int32)} {x5_edgeCost : (Nat → Int32)} {x5_edgeLine : (Nat → Int32)} {x5_change : (Nat → Int32)} {x5_away : (Nat → Int32)} {x5_steps : (Nat → Int32)} {x5_nodes : (Nat → Int32)} {x5_stepCount : Int32} {x5_open : (Nat → Int32)} {x5_openCount : Int32} {x5_seen : Int64} {x5_edgeCount : Int32} {x5_aim : Int32} {m_shelf : (Nat → Int32)} {m_rowSort : (Nat → Int32)} {m_rowSize : (Nat → Int32)} {m_rows : (Nat → Nat → Int64)} {m_moved : (Nat → Int64)} {m_shown : (Nat → Int32)} {m_tape : (Nat → Int32)} {m_tapeSize : Int32} {m_refused : (Nat → Int32)} {m_lines : Int32} {m_line : (Nat → Nat → Int32)} {m_changes : (Nat → Int32)} {m_coins : (Nat → Int32)} {m_goods : Int32} {m_good : (Nat → Nat → Int32)} {m_works : Int32} {m_work : (Nat → Nat → Int32)} {m_years : Int32} {m_gone : Int32} {m_spent : Int32} {m_at : Int32} {m_token : Int32} {m_from : Int32} {m_figures : Int64} {m_fault : Int32} {m_numbers : (Nat → Int32)} {m_statements : Int32} {m_left : (Nat → Int32)} {m_far : (Nat → Int32)} {m_tons : Int32} {m_way : (Nat → Int32)} {m_steps : Int32} {m_met : Int64} {m_queue : (Nat → Int32)} {m_totals : (Nat → Int32)} {t_shelf : (Nat → Int32)} {t_rowSort : (Nat → Int32)} {t_rowSize : (Nat → Int32)} {t_rows : (Nat → Nat → Int64)} {t_moved : (Nat → Int64)} {t_shown : (Nat → Int32)} {t_tape : (Nat → Int32)} {t_tapeSize : Int32} {t_refused : (Nat → Int32)} {t_lines : Int32} {t_line : (Nat → Nat → Int32)} {t_changes : (Nat → Int32)} {t_coins : (Nat → Int32)} {t_goods : Int32} {t_good : (Nat → Nat → Int32)} {t_works : Int32} {t_work : (Nat → Nat → Int32)} {t_years : Int32} {t_gone : Int32} {t_spent : Int32} {t_at : Int32} {t_token : Int32} {t_from : Int32} {t_figures : Int64} {t_fault : Int32} {t_numbers : (Nat → Int32)} {t_statements : Int32} {t_left : (Nat → Int32)} {t_far : (Nat → Int32)} {t_tons : Int32} {t_way : (Nat → Int32)} {t_steps : Int32} {t_met : Int64} {t_queue : (Nat → Int32)} {t_totals : (Nat → Int32)} {p1 er fr : Int32} {A6 : (Nat → Int32) × (Int32 × Int32 × Int32 × Int32 × (Nat → Int32) × (Nat → Int32) × (Nat → Int32) × (Nat → Int32) × (Nat → Int32) × Int32) × (Int32 × (Nat → Int32) × (Nat → Int32) × (Nat → Int32) × Int32) × ((Nat → Int32) × (Nat → Int32) × (Nat → Int32) × (Nat → Int32) × (Nat → Int32) × (Nat → Int32) × Int32 × Int32)} {B6 : (Nat → Int32) × (Int32 × (Nat → Nat → Int32) × (Nat → Int32) × (Nat → Int32) × Int32 × (Nat → Nat → Int32) × Int32 × (Nat → Nat → Int32) × Int32 × Int32 × Int32 × (Nat → Int32) × (Nat → Int32) × Int32)} (hn : 1000000000000 ≤ n) (h_x2_lineCount : (0 ≤ x2_lineCount ∧ x2_lineCount ≤ 20)) (h_x2_goodsCount : (0 ≤ x2_goodsCount ∧ x2_goodsCount ≤ 8)) (h_x2_workCount : (0 ≤ x2_workCount ∧ x2_workCount ≤ 7)) (h_x2_years : (1 ≤ x2_years ∧ x2_years ≤ 30)) (h_x2_lines : (LnOk x2_lines)) (h_x2_goods : (GdOk x2_goods)) (h_x2_works : (WkOk x2_works)) (h_x2_change : (AI 0 99 x2_change)) (h_x2_coin : (AI 0 9 x2_coin)) (h_x3_lineCount : (0 ≤ x3_lineCount ∧ x3_lineCount ≤ 20)) (h_x3_goodsCount : (0 ≤ x3_goodsCount ∧ x3_goodsCount ≤ 8)) (h_x3_workCount : (0 ≤ x3_workCount ∧ x3_workCount ≤ 7)) (h_x3_years : (1 ≤ x3_years ∧ x3_years ≤ 30)) (h_x3_lines : (LnOk x3_lines)) (h_x3_goods : (GdOk x3_goods)) (h_x3_works : (WkOk x3_works)) (h_x3_change : (AI 0 99 x3_change)) (h_x3_coin : (AI 0 9 x3_coin)) (h_x5_edgeA : (AI 0 35 x5_edgeA)) (h_x5_edgeB : (AI 0 35 x5_edgeB)) (h_x5_edgeLine : (AI 0 19 x5_edgeLine)) (h_x5_steps : (AI 0 22 x5_steps)) (h_x5_nodes : (AI 0 35 x5_nodes)) (h_x5_stepCount : (0 ≤ x5_stepCount ∧ x5_stepCount ≤ 36)) (h_x5_open : (AI 0 35 x5_open)) (h_x5_openCount : (0 ≤ x5_openCount ∧ x5_openCount ≤ 36)) (h_x5_edgeCount : (0 ≤ x5_edgeCount ∧ x5_edgeCount ≤ 60)) (h_m_shelf : (AI 0 2 m_shelf)) (h_m_rowSize : (AI 0 40 m_rowSize)) (h_m_tapeSize : (0 ≤ m_tapeSize ∧ m_tapeSize ≤ 250)) (h_m_lines : (0 ≤ m_lines ∧ m_lines ≤ 20)) (h_m_line : (LnM m_line)) (h_m_changes : (AI 0 99 m_changes)) (h_m_coins : (AI 0 9 m_coins)) (h_m_goods : (0 ≤ m_goods ∧ m_goods ≤ 8)) (h_m_good : (GdM m_good)) (h_m_works : (0 ≤ m_works ∧ m_works ≤ 7)) (h_m_work : (WkM m_work)) (h_m_years : (1 ≤ m_years ∧ m_years ≤ 30)) (h_m_from : (0 ≤ m_from ∧ m_from ≤ 250)) (h_m_far : (AI 0 1000000000 m_far)) (h_m_way : (AI 0 22 m_way)) (h_m_steps : (0 ≤ m_steps ∧ m_steps ≤ 37)) (h_m_queue : (AI 0 35 m_queue)) (h_t_shelf : (AI 0 2 t_shelf)) (h_t_rowSize : (AI 0 40 t_rowSize)) (h_t_tapeSize : (0 ≤ t_tapeSize ∧ t_tapeSize ≤ 250)) (h_t_lines : (0 ≤ t_lines ∧ t_lines ≤ 20)) (h_t_line : (LnM t_line)) (h_t_changes : (AI 0 99 t_changes)) (h_t_coins : (AI 0 9 t_coins)) (h_t_goods : (0 ≤ t_goods ∧ t_goods ≤ 8)) (h_t_good : (GdM t_good)) (h_t_works : (0 ≤ t_works ∧ t_works ≤ 7)) (h_t_work : (WkM t_work)) (h_t_years : (1 ≤ t_years ∧ t_years ≤ 30)) (h_t_from : (0 ≤ t_from ∧ t_from ≤ 250)) (h_t_far : (AI 0 1000000000 t_far)) (h_t_way : (AI 0 22 t_way)) (h_t_steps : (0 ≤ t_steps ∧ t_steps ≤ 37)) (h_t_queue : (AI 0 35 t_queue)) (hA : (LaD x3_lineCount x3_goodsCount x3_workCount x3_years x3_lines x3_goods x3_works x3_change x3_coin m_lines m_line m_changes m_coins m_goods m_good m_works m_work m_years)) (hk : Kn (FrS x3_lineCount (ro 7 x3_lines) x3_change x3_coin (ro 3 x3_goods) x3_goodsCount (ro 5 x3_works) x3_workCount) x3_knownFree x3_isKnown) (eqA : fX6_edge n (x0_refused, x0_isKept, x0_gone, x0_spent) x1_gained (x2_lineCount, x2_goodsCount, x2_workCount, x2_years, x2_lines, x2_goods, x2_works, x2_change, x2_coin, x2_knownFree, x2_isKnown) (x3_lineCount, x3_goodsCount, x3_workCount, x3_years, x3_lines, x3_goods, x3_works, x3_change, x3_coin, x3_knownFree, x3_isKnown) (x4_left, x4_earned, x4_turnCost, x4_turnWayless) (x5_edgeA, x5_edgeB, x5_edgeCost, x5_edgeLine, x5_change, x5_away, x5_steps, x5_nodes, x5_stepCount, x5_open, x5_openCount, x5_seen, x5_edgeCount, x5_aim) p1 = some (er, A6)) (eqB : fX7_edge n (m_shelf, m_rowSort, m_rowSize, m_rows, m_moved, m_shown, m_tape, m_tapeSize, m_refused, m_lines, m_line, m_changes, m_coins, m_goods, m_good, m_works, m_work, m_years, m_gone, m_spent, m_at, m_token, m_from, m_figures, m_fault, m_numbers, m_statements, m_left, m_far, m_tons, m_way, m_steps, m_met, m_queue, m_totals) (t_shelf, t_rowSort, t_rowSize, t_rows, t_moved, t_shown, t_tape, t_tapeSize, t_refused, t_lines, t_line, t_changes, t_coins, t_goods, t_good, t_works, t_work, t_years, t_gone, t_spent, t_at, t_token, t_from, t_figures, t_fault, t_numbers, t_statements, t_left, t_far, t_tons, t_way, t_steps, t_met, t_queue, t_totals) p1 = some (fr, B6)) : er = fr := by
  have a := (edgeC hn h_x2_lineCount h_x2_goodsCount h_x2_workCount h_x2_years h_x2_lines h_x2_goods h_x2_works h_x2_change h_x2_coin h_x3_lineCount h_x3_goodsCount h_x3_workCount h_x3_years h_x3_lines h_x3_goods h_x3_works h_x3_change h_x3_coin h_x5_edgeA h_x5_edgeB h_x5_edgeLine h_x5_steps h_x5_nodes h_x5_stepCount h_x5_open h_x5_openCount h_x5_edgeCount hA.2.2.2.2.2.2 hk).at eqA
  obtain ⟨⟨z1, z2, z3, z4⟩, z5, z6, z7, z8, z9, z10⟩ := id hA
  have hS := hA.s
  subst z1 z2 z3 z4
  have hW : WfS x3_workCount.toNatClampNeg ((x3_lineCount, ro 7 x3_lines, x3_change), ro 5 x3_works) := ⟨h_x3_lineCount, z10⟩
  have hW2 := hW.congr hS
  have b := (edgeR hn h_m_shelf h_m_rowSize h_m_tapeSize h_x3_lineCount h_m_line h_m_changes h_m_coins h_x3_goodsCount h_m_good h_x3_workCount h_m_work h_x3_years h_m_from h_m_far h_m_way h_m_steps h_m_queue h_t_shelf h_t_rowSize h_t_tapeSize h_t_lines h_t_line h_t_changes h_t_coins h_t_goods h_t_good h_t_works h_t_work h_t_years h_t_from h_t_far h_t_way h_t_steps h_t_queue hW2.2).at eqB
  refine (A3_eq Iff.rfl (fun hV => by rw [z7 _ hV.2 4 (by decide)]) a b).elim (fun h => ?_) id
  obtain ⟨hV, hd, a1, b1⟩ := h
  obtain ⟨hpl, hp6⟩ := okK_lt h_x3_workCount hV
  refine EdV_eq (fun y hy => ?_) a1 b1
  have hwf : Wf1 m_work x3_lineCount p1.toNatClampNeg := hW2.2 _ hV.2
  show ¬ WoA (x3_lineCount, ro 7 x3_lines, x3_change) x3_coin (ro 3 x3_goods) x3_goodsCount (ro 5 x3_works) y p1.toNatClampNeg ≤ 0 ↔ _
  rw [WoA_congr (yr := y) hS.1 h_x3_lineCount z9 z6 (z7 _ hV.2) (z10 _ hV.2)]
  have f0 := Free_rng h_x3_lineCount h_m_line h_m_changes h_m_coins h_m_good h_x3_goodsCount
  obtain ⟨⟨g36, g37, g38, g39⟩, _, ⟨d1, d2, d3, d4, _⟩, e36, _⟩ := Sf.and (x := fX7_does (m_shelf, m_rowSort, m_rowSize, m_rows, m_moved, m_shown, m_tape, m_tapeSize, m_refused, x3_lineCount, m_line, m_changes, m_coins, x3_goodsCount, m_good, x3_workCount, m_work, x3_years, m_gone, m_spent, m_at, m_token, m_from, m_figures, m_fault, m_numbers, m_statements, m_left, m_far, m_tons, m_way, m_steps, m_met, m_queue, m_totals) p1) (sX7_does h_m_shelf h_m_rowSize h_m_tapeSize h_x3_lineCount h_m_line h_m_changes h_m_coins h_x3_goodsCount h_m_good h_x3_workCount h_m_work h_x3_years h_m_from h_m_far h_m_way h_m_steps h_m_queue hp6) (doesR h_x3_lineCount h_m_work hp6)
  have d1 : 0 ≤ g36 ∧ g36 ≤ 20 := d1
  have d2 : LnM g37 := d2
  have d3 : AI 0 99 g38 := d3
  have e36 : AbEq (g36, g37, g38) (doA m_work p1.toNatClampNeg (x3_lineCount, m_line, m_changes)) := e36
  have f1 := Free_rng d1 d2 d3 h_m_coins h_m_good h_x3_goodsCount
  have ef : Free g36 g37 g38 m_coins m_good x3_goodsCount = FrA (doA m_work p1.toNatClampNeg (x3_lineCount, m_line, m_changes)) m_coins m_good x3_goodsCount := FrA_congr (A := (g36, g37, g38)) e36 (fun _ _ => rfl) (fun _ _ _ _ => rfl)
  rw [ef] at f1
  have f0 : 0 ≤ (FrA (x3_lineCount, m_line, m_changes) m_coins m_good x3_goodsCount).toInt ∧ (FrA (x3_lineCount, m_line, m_changes) m_coins m_good x3_goodsCount).toInt ≤ 28483488 := f0
  have hc := h_m_work.1 p1.toNatClampNeg 3
  have hc : 0 ≤ m_work p1.toNatClampNeg 3 ∧ m_work p1.toNatClampNeg 3 ≤ 9999 := hc
  unfold WoA
  refine edge_iff hy ?_ hc
  show -28483488 ≤ (FrA (x3_lineCount, m_line, m_changes) m_coins m_good x3_goodsCount - FrA (doA m_work p1.toNatClampNeg (x3_lineCount, m_line, m_changes)) m_coins m_good x3_goodsCount).toInt ∧ (FrA (x3_lineCount, m_line, m_changes) m_coins m_good x3_goodsCount - FrA (doA m_work p1.toNatClampNeg (x3_lineCount, m_line, m_changes)) m_coins m_good x3_goodsCount).toInt ≤ 28483488
  rw [Int32.toInt_sub, bm (by omega) (by omega)]
  omega
end
section
/-! best: alike -/
theorem pw2 {W : Int32} (h : 0 ≤ W ∧ W ≤ 7) : 1 ≤ (1 : Int32) <<< (W &&& 31) ∧ (1 : Int32) <<< (W &&& 31) ≤ 128 := by
  have e : Int32.ofNat W.toNatClampNeg = W := Int32.ofNat_toNatClampNeg W h.1
  have k := nlt (M := 7) (N := 7) rfl h
  have key : ∀ i : Fin 8, 1 ≤ (1 : Int32) <<< (Int32.ofNat i.1 &&& 31) ∧ (1 : Int32) <<< (Int32.ofNat i.1 &&& 31) ≤ 128 := by decide +kernel
  have q : 1 ≤ (1 : Int32) <<< (Int32.ofNat W.toNatClampNeg &&& 31) ∧ (1 : Int32) <<< (Int32.ofNat W.toNatClampNeg &&& 31) ≤ 128 := key ⟨W.toNatClampNeg, by omega⟩
  rw [e] at q
  exact q
theorem tq_ext {a b : Int32} (h : ∀ u, u < 32 → tq a u = tq b u) : a = b := Int32.toBitVec_inj.mp (BitVec.eq_of_getLsbD_eq (fun i hi => h i hi))
theorem i32_nat {s : Int32} (h : 0 ≤ s) : s.toNatClampNeg = s.toBitVec.toNat ∧ s.toBitVec.toNat < 2147483648 := by
  have z := Int32.le_iff_toInt_le.mp h
  have z0 : (0 : Int32).toInt = 0 := by decide
  rw [z0] at z
  have e : s.toInt = s.toBitVec.toInt := rfl
  have c := BitVec.toInt_eq_toNat_cond s.toBitVec
  have l := s.toBitVec.isLt
  have n := i32_cl h
  have p : (2 : Nat) ^ 32 = 4294967296 := by decide
  rw [p] at c l
  by_cases hh : 2 * s.toBitVec.toNat < 4294967296
  · rw [if_pos hh] at c
    omega
  · rw [if_neg hh] at c
    omega
theorem cut_lt {s d : Int32} (h : 0 ≤ s) (hd : ¬ (s &&& d) = 0) : 0 ≤ s &&& (d ^^^ (-1)) ∧ (s &&& (d ^^^ (-1))).toNatClampNeg < s.toNatClampNeg := by
  obtain ⟨n1, n2⟩ := i32_nat h
  have le : (s &&& (d ^^^ (-1))).toBitVec.toNat ≤ s.toBitVec.toNat := by
    rw [Int32.toBitVec_and, BitVec.toNat_and]
    exact Nat.and_le_left
  have nn : 0 ≤ s &&& (d ^^^ (-1)) := by
    have z0 : (0 : Int32).toInt = 0 := by decide
    refine Int32.le_iff_toInt_le.mpr ?_
    rw [z0]
    have e : (s &&& (d ^^^ (-1))).toInt = (s &&& (d ^^^ (-1))).toBitVec.toInt := rfl
    have c := BitVec.toInt_eq_toNat_cond (s &&& (d ^^^ (-1))).toBitVec
    have p : (2 : Nat) ^ 32 = 4294967296 := by decide
    rw [p, if_pos (by omega)] at c
    omega
  obtain ⟨m1, m2⟩ := i32_nat nn
  refine ⟨nn, ?_⟩
  rw [m1, n1]
  refine Nat.lt_of_le_of_ne le (fun he => hd ?_)
  have hs : s &&& (d ^^^ (-1)) = s := Int32.toBitVec_inj.mp (BitVec.eq_of_toNat_eq he)
  refine tq_ext (fun u hu => ?_)
  have q : tq (s &&& (d ^^^ (-1))) u = tq s u := by rw [hs]
  rw [tq_and, tq_not _ hu] at q
  rw [tq_and, tq_zero]
  cases h1 : tq s u <;> cases h2 : tq d u
  · rfl
  · rfl
  · rfl
  · rw [h1, h2] at q
    cases q
theorem doU_bits {work : Nat → Nat → Int32} {s s' : Int32} {A : Ab} : ∀ K : Nat, (∀ k, k < K → work k 4 = 0 → tq s k = tq s' k) → doU work s K A = doU work s' K A
  | 0, _ => rfl
  | K + 1, h => by
    show (if tq s K = true ∧ work K 4 = 0 then doA work K (doU work s K A) else doU work s K A) = (if tq s' K = true ∧ work K 4 = 0 then doA work K (doU work s' K A) else doU work s' K A)
    rw [doU_bits K (fun k hk => h k (by omega))]
    by_cases hd : work K 4 = 0
    · rw [h K (by omega) hd]
    · rw [if_neg (fun hh => hd hh.2), if_neg (fun hh => hd hh.2)]
theorem TotA_bits {A : Ab} {coins : Nat → Int32} {good : Nat → Nat → Int32} {G : Int32} {work : Nat → Nat → Int32} {W yr s s' : Int32} (h : ∀ k, k < W.toNatClampNeg → work k 4 = 0 → tq s k = tq s' k) : TotA A coins good G work W yr s = TotA A coins good G work W yr s' := by
  unfold TotA
  rw [doU_bits _ h, sm_congr (f := cnU work s) (g := cnU work s') _ (fun k hk => ?_)]
  unfold cnU
  by_cases hd : work k 4 = 0
  · rw [h k hk hd]
  · rw [if_neg (fun hh => hd hh.2), if_neg (fun hh => hd hh.2)]
/-- the least of the sets up to k, the first of several -/
def btW (t : Nat → Int32) : Nat → Int32 × Int32
  | 0 => (0, t 0)
  | k + 1 => if ¬ (btW t k).2 ≤ t (k + 1) then (Int32.ofNat (k + 1), t (k + 1)) else btW t k
theorem btW_le (t : Nat → Int32) : ∀ k j : Nat, j ≤ k → (btW t k).2 ≤ t j
  | 0, j, h => by
    have e : j = 0 := by omega
    rw [e]
    exact Int32.le_refl _
  | k + 1, j, h => by
    show (if ¬ (btW t k).2 ≤ t (k + 1) then (Int32.ofNat (k + 1), t (k + 1)) else btW t k).2 ≤ t j
    by_cases hc : (btW t k).2 ≤ t (k + 1)
    · rw [if_neg (fun hh => hh hc)]
      by_cases e : j = k + 1
      · rw [e]; exact hc
      · exact btW_le t k j (by omega)
    · rw [if_pos hc]
      by_cases e : j = k + 1
      · rw [e]; exact Int32.le_refl _
      · exact Int32.le_trans (Int32.le_of_lt (Int32.not_le.mp hc)) (btW_le t k j (by omega))
theorem btW_next {t : Nat → Int32} {z a b : Int32} (h1 : 1 ≤ z) (h128 : z ≤ 128) (e : (a, b) = btW t (z.toNatClampNeg - 1)) : btW t ((z + 1).toNatClampNeg - 1) = if ¬ b ≤ t z.toNatClampNeg then (z, t z.toNatClampNeg) else (a, b) := by
  have h0 : 0 ≤ z := Int32.le_trans (by decide) h1
  have u := up1 h0 (B := 129) (by decide) (Int32.not_le.mpr (Int32.lt_of_le_of_lt h128 (by decide)))
  have o : (1 : Int32).toInt = 1 := by decide
  have p := i32_cl h0
  have q := Int32.le_iff_toInt_le.mp h1
  obtain ⟨m, hm⟩ : ∃ m, z.toNatClampNeg = m + 1 := ⟨z.toNatClampNeg - 1, by omega⟩
  have ez : Int32.ofNat (m + 1) = z := by rw [← hm]; exact Int32.ofNat_toNatClampNeg z h0
  rw [u.2.1, Nat.add_sub_cancel]
  rw [hm, Nat.add_sub_cancel] at e
  rw [hm]
  show (if ¬ (btW t m).2 ≤ t (m + 1) then (Int32.ofNat (m + 1), t (m + 1)) else btW t m) = _
  rw [← e, ez]
theorem bestOfC {n : Nat} {x0_gained : Nat → Int32} {x1_left : (Nat → Int32)} {x1_earned : (Nat → Int32)} {x1_turnCost : Int32} {x1_turnWayless : Int32} {x2_edgeA : (Nat → Int32)} {x2_edgeB : (Nat → Int32)} {x2_edgeCost : (Nat → Int32)} {x2_edgeLine : (Nat → Int32)} {x2_change : (Nat → Int32)} {x2_away : (Nat → Int32)} {x2_steps : (Nat → Int32)} {x2_nodes : (Nat → Int32)} {x2_stepCount : Int32} {x2_open : (Nat → Int32)} {x2_openCount : Int32} {x2_seen : Int64} {x2_edgeCount : Int32} {x2_aim : Int32} {x3_lineCount : Int32} {x3_goodsCount : Int32} {x3_workCount : Int32} {x3_years : Int32} {x3_lines : (Nat → Int32)} {x3_goods : (Nat → Int32)} {x3_works : (Nat → Int32)} {x3_change : (Nat → Int32)} {x3_coin : (Nat → Int32)} {x3_knownFree : (Nat → Int32)} {x3_isKnown : Int32} {x4_lineCount : Int32} {x4_goodsCount : Int32} {x4_workCount : Int32} {x4_years : Int32} {x4_lines : (Nat → Int32)} {x4_goods : (Nat → Int32)} {x4_works : (Nat → Int32)} {x4_change : (Nat → Int32)} {x4_coin : (Nat → Int32)} {x4_knownFree : (Nat → Int32)} {x4_isKnown : Int32} (hn : 1000000000000 ≤ n) (h_x2_edgeA : (AI 0 35 x2_edgeA)) (h_x2_edgeB : (AI 0 35 x2_edgeB)) (h_x2_edgeLine : (AI 0 19 x2_edgeLine)) (h_x2_steps : (AI 0 22 x2_steps)) (h_x2_nodes : (AI 0 35 x2_nodes)) (h_x2_stepCount : (0 ≤ x2_stepCount ∧ x2_stepCount ≤ 36)) (h_x2_open : (AI 0 35 x2_open)) (h_x2_openCount : (0 ≤ x2_openCount ∧ x2_openCount ≤ 36)) (h_x2_edgeCount : (0 ≤ x2_edgeCount ∧ x2_edgeCount ≤ 60)) (h_x3_lineCount : (0 ≤ x3_lineCount ∧ x3_lineCount ≤ 20)) (h_x3_goodsCount : (0 ≤ x3_goodsCount ∧ x3_goodsCount ≤ 8)) (h_x3_workCount : (0 ≤ x3_workCount ∧ x3_workCount ≤ 7)) (h_x3_years : (1 ≤ x3_years ∧ x3_years ≤ 30)) (h_x3_lines : (LnOk x3_lines)) (h_x3_goods : (GdOk x3_goods)) (h_x3_works : (WkOk x3_works)) (h_x3_change : (AI 0 99 x3_change)) (h_x3_coin : (AI 0 9 x3_coin)) (h_x4_lineCount : (0 ≤ x4_lineCount ∧ x4_lineCount ≤ 20)) (h_x4_goodsCount : (0 ≤ x4_goodsCount ∧ x4_goodsCount ≤ 8)) (h_x4_workCount : (0 ≤ x4_workCount ∧ x4_workCount ≤ 7)) (h_x4_years : (1 ≤ x4_years ∧ x4_years ≤ 30)) (h_x4_lines : (LnOk x4_lines)) (h_x4_goods : (GdOk x4_goods)) (h_x4_works : (WkOk x4_works)) (h_x4_change : (AI 0 99 x4_change)) (h_x4_coin : (AI 0 9 x4_coin)) (hf : ∀ k, k < x4_workCount.toNatClampNeg → Wf1 (ro 5 x4_works) x4_lineCount k) (hk : Kn (FrS x4_lineCount (ro 7 x4_lines) x4_change x4_coin (ro 3 x4_goods) x4_goodsCount (ro 5 x4_works) x4_workCount) x4_knownFree x4_isKnown) {t : Nat → Int32} (ht : ∀ z : Int32, 0 ≤ z → TotA (x4_lineCount, ro 7 x4_lines, x4_change) x4_coin (ro 3 x4_goods) x4_goodsCount (ro 5 x4_works) x4_workCount x4_years z = t z.toNatClampNeg) : Sf (fX0_bestOf n x0_gained (x1_left, x1_earned, x1_turnCost, x1_turnWayless) (x2_edgeA, x2_edgeB, x2_edgeCost, x2_edgeLine, x2_change, x2_away, x2_steps, x2_nodes, x2_stepCount, x2_open, x2_openCount, x2_seen, x2_edgeCount, x2_aim) (x3_lineCount, x3_goodsCount, x3_workCount, x3_years, x3_lines, x3_goods, x3_works, x3_change, x3_coin, x3_knownFree, x3_isKnown) (x4_lineCount, x4_goodsCount, x4_workCount, x4_years, x4_lines, x4_goods, x4_works, x4_change, x4_coin, x4_knownFree, x4_isKnown)) (fun r => r.1 = (btW t (((1 : Int32) <<< (x4_workCount &&& 31)).toNatClampNeg - 1)).1 ∧ FwQ (FrS x4_lineCount (ro 7 x4_lines) x4_change x4_coin (ro 3 x4_goods) x4_goodsCount (ro 5 x4_works) x4_workCount) x4_lineCount x4_lines x4_change r.2.2.2) := by
  obtain ⟨w1, w2⟩ := pw2 h_x4_workCount
  unfold fX0_bestOf
  dsimp only [u4, u14, u11]
  refine Sf.bind (Sf.and (sX0_totalOf hn h_x2_edgeA h_x2_edgeB h_x2_edgeLine h_x2_steps h_x2_nodes h_x2_stepCount h_x2_open h_x2_openCount h_x2_edgeCount h_x3_lineCount h_x3_goodsCount h_x3_workCount h_x3_years h_x3_lines h_x3_goods h_x3_works h_x3_change h_x3_coin h_x4_lineCount h_x4_goodsCount h_x4_workCount h_x4_years h_x4_lines h_x4_goods h_x4_works h_x4_change h_x4_coin) (totalOfC (x0_gained := x0_gained) (x1_left := x1_left) (x1_earned := x1_earned) (x1_turnCost := x1_turnCost) (x1_turnWayless := x1_turnWayless) hn h_x2_edgeA h_x2_edgeB h_x2_edgeLine h_x2_steps h_x2_nodes h_x2_stepCount h_x2_open h_x2_openCount h_x2_edgeCount h_x3_lineCount h_x3_goodsCount h_x3_workCount h_x3_years h_x3_lines h_x3_goods h_x3_works h_x3_change h_x3_coin h_x4_lineCount h_x4_goodsCount h_x4_workCount h_x4_years h_x4_lines h_x4_goods h_x4_works h_x4_change h_x4_coin hf hk)) ?_
  rintro ⟨v1, ⟨g3, g4, g5, g6, g7, g8, g9, g10⟩, ⟨g12, g13, g14, g15, g16, g17, g18, g19, g20, g21⟩, ⟨g23, g24, g25, g26, g27⟩⟩ ⟨⟨b1, b2, b3, b4, b5, b6, b7, b8, b9, b10, b11, b12, b13, b14, b15, b16⟩, e1, q1, q2, q3, q4⟩
  have e1 : v1 = t 0 := e1.trans (ht 0 (by decide))
  have q1 : g23 = x4_lineCount := q1
  have q2 : g24 = x4_lines := q2
  have q3 : g25 = x4_change := q3
  have q4 : Kn _ g26 g27 := q4
  try dsimp only [u8, u10, u5]
  rw [q1, q2, q3]
  refine Sf.bind (doneS hn h_x4_works h_x4_workCount) (fun v29 h29 => ?_)
  refine Sf.bind (P := fun r => r.1 = (btW t (((1 : Int32) <<< (x4_workCount &&& 31)).toNatClampNeg - 1)).1 ∧ FwQ (FrS x4_lineCount (ro 7 x4_lines) x4_change x4_coin (ro 3 x4_goods) x4_goodsCount (ro 5 x4_works) x4_workCount) x4_lineCount x4_lines x4_change r.2.2.2.2.2.2.2.2.2.2.2.2.2.2.2.2.2.2.2) ?_ ?_
  · refine Sf.loop26 (fun z32 z33 z34 z35 z36 z37 z38 z39 z40 z41 z42 z43 z44 z45 z46 z47 z48 z49 z50 z51 z52 z53 z54 z55 z56 z57 => (1 ≤ z34 ∧ z34 ≤ (1 : Int32) <<< (x4_workCount &&& 31)) ∧ (z32, z33) = btW t (z34.toNatClampNeg - 1) ∧ StB z35 z36 z38 z41 z43 z44 z45 z46 z47 z48 z49 z50 z51 ∧ FwQ (FrS x4_lineCount (ro 7 x4_lines) x4_change x4_coin (ro 3 x4_goods) x4_goodsCount (ro 5 x4_works) x4_workCount) x4_lineCount x4_lines x4_change (z53, z54, z55, z56, z57)) (fun z32 z33 z34 z35 z36 z37 z38 z39 z40 z41 z42 z43 z44 z45 z46 z47 z48 z49 z50 z51 z52 z53 z54 z55 z56 z57 => muUp z34) (fun z32 z33 z34 z35 z36 z37 z38 z39 z40 z41 z42 z43 z44 z45 z46 z47 z48 z49 z50 z51 z52 z53 z54 z55 z56 z57 h => ?_) ?_ (muUp_n hn)
    · obtain ⟨i0, i1, ⟨⟨j1, j2, j3, j4⟩, m1, m2, m3, m4, m5, m6, m7, m8, m9⟩, q1, q2, q3, q4⟩ := h
      have q1 : z53 = x4_lineCount := q1
      have q2 : z54 = x4_lines := q2
      have q3 : z55 = x4_change := q3
      have q4 : Kn _ z56 z57 := q4
      unfold fX0_bestOf_s18
      refine Sf.ite (fun hc => ?_) (fun hc => ?_)
      · have e : z34 = (1 : Int32) <<< (x4_workCount &&& 31) := Int32.le_antisymm i0.2 hc
        rw [e] at i1
        refine Sf.inr ⟨?_, q1, q2, q3, q4⟩
        show z32 = _
        rw [← i1]
      rw [q1, q2, q3]
      have z0 : 0 ≤ z34 := Int32.le_trans (by decide) i0.1
      have z128 : z34 ≤ 128 := Int32.le_trans i0.2 w2
      obtain ⟨p0, p1, p3⟩ := up1 z0 (Int32.le_trans w2 (by decide)) hc
      have i1' : 1 ≤ z34 + 1 ∧ z34 + 1 ≤ (1 : Int32) <<< (x4_workCount &&& 31) := by
        refine ⟨?_, ?_⟩
        · have a := i0.1
          clear i1 q4 hk hf h29 ht
          grind
        · have o : (1 : Int32).toInt = 1 := by decide
          have a := Int32.lt_iff_toInt_lt.mp p3
          have b := i32_cl z0
          have c := i32_cl p0
          refine Int32.le_iff_toInt_le.mpr ?_
          omega
      have nx := btW_next i0.1 z128 i1
      refine Sf.ite (fun hb => ?_) (fun hb => ?_)
      · refine Sf.bind (Sf.and (sX0_totalOf hn j1 j2 j3 h_x2_steps h_x2_nodes h_x2_stepCount h_x2_open h_x2_openCount j4 m1 m2 m3 m4 m5 m6 m7 m8 m9 h_x4_lineCount h_x4_goodsCount h_x4_workCount h_x4_years h_x4_lines h_x4_goods h_x4_works h_x4_change h_x4_coin) (totalOfC (x0_gained := x0_gained) (x1_left := x1_left) (x1_earned := x1_earned) (x1_turnCost := x1_turnCost) (x1_turnWayless := x1_turnWayless) hn j1 j2 j3 h_x2_steps h_x2_nodes h_x2_stepCount h_x2_open h_x2_openCount j4 m1 m2 m3 m4 m5 m6 m7 m8 m9 h_x4_lineCount h_x4_goodsCount h_x4_workCount h_x4_years h_x4_lines h_x4_goods h_x4_works h_x4_change h_x4_coin hf q4)) ?_
        rintro ⟨v83, ⟨g85, g86, g87, g88, g89, g90, g91, g92⟩, ⟨g94, g95, g96, g97, g98, g99, g100, g101, g102, g103⟩, ⟨g105, g106, g107, g108, g109⟩⟩ ⟨⟨b1, b2, b3, b4, b5, b6, b7, b8, b9, b10, b11, b12, b13, b14, b15, b16⟩, e55, r1, r2, r3, r4⟩
        have e55 : v83 = t z34.toNatClampNeg := e55.trans (ht _ z0)
        rw [← e55] at nx
        try dsimp only [u8, u10, u5]
        refine Sf.ite (fun hle => ?_) (fun hle => ?_)
        · rw [if_neg (fun hh => hh hle)] at nx
          exact Sf.inl ⟨i1', nx.symm, ⟨⟨b1, b2, b3, b4⟩, b5, b6, b7, b8, b9, b10, b11, b12, b13⟩, r1, r2, r3, r4⟩ (muUp_lt hc)
        · rw [if_pos hle] at nx
          exact Sf.inl ⟨i1', nx.symm, ⟨⟨b1, b2, b3, b4⟩, b5, b6, b7, b8, b9, b10, b11, b12, b13⟩, r1, r2, r3, r4⟩ (muUp_lt hc)
      · obtain ⟨c1, c2⟩ := cut_lt z0 hb
        have et : t (z34 &&& (v29 ^^^ (-1))).toNatClampNeg = t z34.toNatClampNeg := by
          rw [← ht _ c1, ← ht _ z0]
          refine TotA_bits (fun k hk' hd => ?_)
          have k7 := nlt (M := 7) (N := 7) rfl h_x4_workCount
          have q := h29 k (by omega)
          rw [tq_and, tq_not _ (by omega)]
          cases hq : tq v29 k with
          | true => exact absurd hd (q.mp hq).2
          | false => rw [Bool.not_false, Bool.and_true]
        have le := btW_le t (z34.toNatClampNeg - 1) _ (show (z34 &&& (v29 ^^^ (-1))).toNatClampNeg ≤ z34.toNatClampNeg - 1 by omega)
        rw [et, ← i1] at le
        rw [if_neg (fun hh => hh le)] at nx
        exact Sf.inl ⟨i1', nx.symm, ⟨⟨j1, j2, j3, j4⟩, m1, m2, m3, m4, m5, m6, m7, m8, m9⟩, rfl, rfl, rfl, q4⟩ (muUp_lt hc)
    · exact ⟨⟨(show (1 : Int32) ≤ 1 by decide), w1⟩, (show ((0 : Int32), v1) = (0, t 0) by rw [e1]), ⟨⟨b1, b2, b3, b4⟩, b5, b6, b7, b8, b9, b10, b11, b12, b13⟩, rfl, rfl, rfl, q4⟩
  · rintro ⟨w29, w30, w31, w32, w33, w34, w35, w36, w37, w38, w39, w40, w41, w42, w43, w44, w45, w46, w47, w48, w49, w50, w51, w52⟩ h
    exact Sf.ok h
theorem bestR {n : Nat} {x0_shelf : (Nat → Int32)} {x0_rowSort : (Nat → Int32)} {x0_rowSize : (Nat → Int32)} {x0_rows : (Nat → Nat → Int64)} {x0_moved : (Nat → Int64)} {x0_shown : (Nat → Int32)} {x0_tape : (Nat → Int32)} {x0_tapeSize : Int32} {x0_refused : (Nat → Int32)} {x0_lines : Int32} {x0_line : (Nat → Nat → Int32)} {x0_changes : (Nat → Int32)} {x0_coins : (Nat → Int32)} {x0_goods : Int32} {x0_good : (Nat → Nat → Int32)} {x0_works : Int32} {x0_work : (Nat → Nat → Int32)} {x0_years : Int32} {x0_gone : Int32} {x0_spent : Int32} {x0_at : Int32} {x0_token : Int32} {x0_from : Int32} {x0_figures : Int64} {x0_fault : Int32} {x0_numbers : (Nat → Int32)} {x0_statements : Int32} {x0_left : (Nat → Int32)} {x0_far : (Nat → Int32)} {x0_tons : Int32} {x0_way : (Nat → Int32)} {x0_steps : Int32} {x0_met : Int64} {x0_queue : (Nat → Int32)} {x0_totals : (Nat → Int32)} {x1_shelf : (Nat → Int32)} {x1_rowSort : (Nat → Int32)} {x1_rowSize : (Nat → Int32)} {x1_rows : (Nat → Nat → Int64)} {x1_moved : (Nat → Int64)} {x1_shown : (Nat → Int32)} {x1_tape : (Nat → Int32)} {x1_tapeSize : Int32} {x1_refused : (Nat → Int32)} {x1_lines : Int32} {x1_line : (Nat → Nat → Int32)} {x1_changes : (Nat → Int32)} {x1_coins : (Nat → Int32)} {x1_goods : Int32} {x1_good : (Nat → Nat → Int32)} {x1_works : Int32} {x1_work : (Nat → Nat → Int32)} {x1_years : Int32} {x1_gone : Int32} {x1_spent : Int32} {x1_at : Int32} {x1_token : Int32} {x1_from : Int32} {x1_figures : Int64} {x1_fault : Int32} {x1_numbers : (Nat → Int32)} {x1_statements : Int32} {x1_left : (Nat → Int32)} {x1_far : (Nat → Int32)} {x1_tons : Int32} {x1_way : (Nat → Int32)} {x1_steps : Int32} {x1_met : Int64} {x1_queue : (Nat → Int32)} {x1_totals : (Nat → Int32)} (hn : 1000000000000 ≤ n) (h_x0_shelf : (AI 0 2 x0_shelf)) (h_x0_rowSize : (AI 0 40 x0_rowSize)) (h_x0_tapeSize : (0 ≤ x0_tapeSize ∧ x0_tapeSize ≤ 250)) (h_x0_lines : (0 ≤ x0_lines ∧ x0_lines ≤ 20)) (h_x0_line : (LnM x0_line)) (h_x0_changes : (AI 0 99 x0_changes)) (h_x0_coins : (AI 0 9 x0_coins)) (h_x0_goods : (0 ≤ x0_goods ∧ x0_goods ≤ 8)) (h_x0_good : (GdM x0_good)) (h_x0_works : (0 ≤ x0_works ∧ x0_works ≤ 7)) (h_x0_work : (WkM x0_work)) (h_x0_years : (1 ≤ x0_years ∧ x0_years ≤ 30)) (h_x0_from : (0 ≤ x0_from ∧ x0_from ≤ 250)) (h_x0_far : (AI 0 1000000000 x0_far)) (h_x0_way : (AI 0 22 x0_way)) (h_x0_steps : (0 ≤ x0_steps ∧ x0_steps ≤ 37)) (h_x0_queue : (AI 0 35 x0_queue)) (h_x1_shelf : (AI 0 2 x1_shelf)) (h_x1_rowSize : (AI 0 40 x1_rowSize)) (h_x1_tapeSize : (0 ≤ x1_tapeSize ∧ x1_tapeSize ≤ 250)) (h_x1_lines : (0 ≤ x1_lines ∧ x1_lines ≤ 20)) (h_x1_line : (LnM x1_line)) (h_x1_changes : (AI 0 99 x1_changes)) (h_x1_coins : (AI 0 9 x1_coins)) (h_x1_goods : (0 ≤ x1_goods ∧ x1_goods ≤ 8)) (h_x1_good : (GdM x1_good)) (h_x1_works : (0 ≤ x1_works ∧ x1_works ≤ 7)) (h_x1_work : (WkM x1_work)) (h_x1_years : (1 ≤ x1_years ∧ x1_years ≤ 30)) (h_x1_from : (0 ≤ x1_from ∧ x1_from ≤ 250)) (h_x1_far : (AI 0 1000000000 x1_far)) (h_x1_way : (AI 0 22 x1_way)) (h_x1_steps : (0 ≤ x1_steps ∧ x1_steps ≤ 37)) (h_x1_queue : (AI 0 35 x1_queue)) (hf : ∀ k, k < x0_works.toNatClampNeg → Wf1 x0_work x0_lines k) {t : Nat → Int32} (ht : ∀ z : Int32, 0 ≤ z → TotA (x0_lines, x0_line, x0_changes) x0_coins x0_good x0_goods x0_work x0_works x0_years z = t z.toNatClampNeg) : Sf (fX7_best n (x0_shelf, x0_rowSort, x0_rowSize, x0_rows, x0_moved, x0_shown, x0_tape, x0_tapeSize, x0_refused, x0_lines, x0_line, x0_changes, x0_coins, x0_goods, x0_good, x0_works, x0_work, x0_years, x0_gone, x0_spent, x0_at, x0_token, x0_from, x0_figures, x0_fault, x0_numbers, x0_statements, x0_left, x0_far, x0_tons, x0_way, x0_steps, x0_met, x0_queue, x0_totals) (x1_shelf, x1_rowSort, x1_rowSize, x1_rows, x1_moved, x1_shown, x1_tape, x1_tapeSize, x1_refused, x1_lines, x1_line, x1_changes, x1_coins, x1_goods, x1_good, x1_works, x1_work, x1_years, x1_gone, x1_spent, x1_at, x1_token, x1_from, x1_figures, x1_fault, x1_numbers, x1_statements, x1_left, x1_far, x1_tons, x1_way, x1_steps, x1_met, x1_queue, x1_totals)) (fun r => r.1 = (btW t (((1 : Int32) <<< (x0_works &&& 31)).toNatClampNeg - 1)).1) := by
  obtain ⟨w1, w2⟩ := pw2 h_x0_works
  unfold fX7_best
  dsimp only [u35]
  refine Sf.bind (Sf.and (sX7_totalOf hn h_x0_shelf h_x0_rowSize h_x0_tapeSize h_x0_lines h_x0_line h_x0_changes h_x0_coins h_x0_goods h_x0_good h_x0_works h_x0_work h_x0_years h_x0_from h_x0_far h_x0_way h_x0_steps h_x0_queue h_x1_shelf h_x1_rowSize h_x1_tapeSize h_x1_lines h_x1_line h_x1_changes h_x1_coins h_x1_goods h_x1_good h_x1_works h_x1_work h_x1_years h_x1_from h_x1_far h_x1_way h_x1_steps h_x1_queue) (totalOfR hn h_x0_shelf h_x0_rowSize h_x0_tapeSize h_x0_lines h_x0_line h_x0_changes h_x0_coins h_x0_goods h_x0_good h_x0_works h_x0_work h_x0_years h_x0_from h_x0_far h_x0_way h_x0_steps h_x0_queue h_x1_shelf h_x1_rowSize h_x1_tapeSize h_x1_lines h_x1_line h_x1_changes h_x1_coins h_x1_goods h_x1_good h_x1_works h_x1_work h_x1_years h_x1_from h_x1_far h_x1_way h_x1_steps h_x1_queue hf)) ?_
  rintro ⟨v1, g3, g4, g5, g6, g7, g8, g9, g10, g11, g12, g13, g14, g15, g16⟩ ⟨⟨b1, b2, b3, b4, b5, b6, b7, b8, b9, b10⟩, e1⟩
  have e1 : v1 = t 0 := e1.trans (ht 0 (by decide))
  try dsimp only [u14]
  refine Sf.bind (P := fun r => r.1 = (btW t (((1 : Int32) <<< (x0_works &&& 31)).toNatClampNeg - 1)).1) ?_ ?_
  · refine Sf.loop17 (fun z19 z20 z21 z22 z23 z24 z25 z26 z27 z28 z29 z30 z31 z32 z33 z34 z35 => (1 ≤ z21 ∧ z21 ≤ (1 : Int32) <<< (x0_works &&& 31)) ∧ (z19, z20) = btW t (z21.toNatClampNeg - 1) ∧ (0 ≤ z22 ∧ z22 ≤ 20) ∧ LnM z23 ∧ AI 0 99 z24 ∧ AI 0 9 z25 ∧ (0 ≤ z26 ∧ z26 ≤ 8) ∧ GdM z27 ∧ (0 ≤ z28 ∧ z28 ≤ 7) ∧ WkM z29 ∧ (1 ≤ z30 ∧ z30 ≤ 30) ∧ AI 0 1000000000 z34) (fun z19 z20 z21 z22 z23 z24 z25 z26 z27 z28 z29 z30 z31 z32 z33 z34 z35 => muUp z21) (fun z19 z20 z21 z22 z23 z24 z25 z26 z27 z28 z29 z30 z31 z32 z33 z34 z35 h => ?_) ?_ (muUp_n hn)
    · obtain ⟨i0, i1, m1, m2, m3, m4, m5, m6, m7, m8, m9, m10⟩ := h
      unfold fX7_best_s10
      refine Sf.ite (fun hc => ?_) (fun hc => ?_)
      · have e : z21 = (1 : Int32) <<< (x0_works &&& 31) := Int32.le_antisymm i0.2 hc
        rw [e] at i1
        refine Sf.inr ?_
        show z19 = _
        rw [← i1]
      have z0 : 0 ≤ z21 := Int32.le_trans (by decide) i0.1
      have z128 : z21 ≤ 128 := Int32.le_trans i0.2 w2
      obtain ⟨p0, p1, p3⟩ := up1 z0 (Int32.le_trans w2 (by decide)) hc
      have i1' : 1 ≤ z21 + 1 ∧ z21 + 1 ≤ (1 : Int32) <<< (x0_works &&& 31) := by
        refine ⟨?_, ?_⟩
        · have a := i0.1
          clear i1 hf ht
          grind
        · have o : (1 : Int32).toInt = 1 := by decide
          have a := Int32.lt_iff_toInt_lt.mp p3
          have b := i32_cl z0
          have c := i32_cl p0
          refine Int32.le_iff_toInt_le.mpr ?_
          omega
      have nx := btW_next i0.1 z128 i1
      refine Sf.bind (Sf.and (sX7_totalOf hn h_x0_shelf h_x0_rowSize h_x0_tapeSize h_x0_lines h_x0_line h_x0_changes h_x0_coins h_x0_goods h_x0_good h_x0_works h_x0_work h_x0_years h_x0_from h_x0_far h_x0_way h_x0_steps h_x0_queue h_x1_shelf h_x1_rowSize h_x1_tapeSize m1 m2 m3 m4 m5 m6 m7 m8 m9 h_x1_from m10 h_x1_way h_x1_steps h_x1_queue) (totalOfR hn h_x0_shelf h_x0_rowSize h_x0_tapeSize h_x0_lines h_x0_line h_x0_changes h_x0_coins h_x0_goods h_x0_good h_x0_works h_x0_work h_x0_years h_x0_from h_x0_far h_x0_way h_x0_steps h_x0_queue h_x1_shelf h_x1_rowSize h_x1_tapeSize m1 m2 m3 m4 m5 m6 m7 m8 m9 h_x1_from m10 h_x1_way h_x1_steps h_x1_queue hf)) ?_
      rintro ⟨v52, g54, g55, g56, g57, g58, g59, g60, g61, g62, g63, g64, g65, g66, g67⟩ ⟨⟨b1, b2, b3, b4, b5, b6, b7, b8, b9, b10⟩, e52⟩
      have e52 : v52 = t z21.toNatClampNeg := e52.trans (ht _ z0)
      rw [← e52] at nx
      try dsimp only [u14]
      refine Sf.ite (fun hle => ?_) (fun hle => ?_)
      · rw [if_neg (fun hh => hh hle)] at nx
        exact Sf.inl ⟨i1', nx.symm, b1, b2, b3, b4, b5, b6, b7, b8, b9, b10⟩ (muUp_lt hc)
      · rw [if_pos hle] at nx
        exact Sf.inl ⟨i1', nx.symm, b1, b2, b3, b4, b5, b6, b7, b8, b9, b10⟩ (muUp_lt hc)
    · exact ⟨⟨(show (1 : Int32) ≤ 1 by decide), w1⟩, (show ((0 : Int32), v1) = (0, t 0) by rw [e1]), b1, b2, b3, b4, b5, b6, b7, b8, b9, b10⟩
  · rintro ⟨w37, w38, w39, w40, w41, w42, w43, w44, w45, w46, w47, w48, w49, w50, w51⟩ h
    exact Sf.ok h
theorem ofn_z {f : Int32 → Int32} {z : Int32} (h : 0 ≤ z) : f z = (fun j => f (Int32.ofNat j)) z.toNatClampNeg := by
  show f z = f (Int32.ofNat z.toNatClampNeg)
  rw [Int32.ofNat_toNatClampNeg z h]
theorem bestC {n : Nat} {x0_refused : (Nat → Int32)} {x0_isKept : Int32} {x0_gone : Int32} {x0_spent : Int32} {x1_gained : Nat → Int32} {x2_lineCount : Int32} {x2_goodsCount : Int32} {x2_workCount : Int32} {x2_years : Int32} {x2_lines : (Nat → Int32)} {x2_goods : (Nat → Int32)} {x2_works : (Nat → Int32)} {x2_change : (Nat → Int32)} {x2_coin : (Nat → Int32)} {x2_knownFree : (Nat → Int32)} {x2_isKnown : Int32} {x3_lineCount : Int32} {x3_goodsCount : Int32} {x3_workCount : Int32} {x3_years : Int32} {x3_lines : (Nat → Int32)} {x3_goods : (Nat → Int32)} {x3_works : (Nat → Int32)} {x3_change : (Nat → Int32)} {x3_coin : (Nat → Int32)} {x3_knownFree : (Nat → Int32)} {x3_isKnown : Int32} {x4_left : (Nat → Int32)} {x4_earned : (Nat → Int32)} {x4_turnCost : Int32} {x4_turnWayless : Int32} {x5_edgeA : (Nat → Int32)} {x5_edgeB : (Nat → Int32)} {x5_edgeCost : (Nat → Int32)} {x5_edgeLine : (Nat → Int32)} {x5_change : (Nat → Int32)} {x5_away : (Nat → Int32)} {x5_steps : (Nat → Int32)} {x5_nodes : (Nat → Int32)} {x5_stepCount : Int32} {x5_open : (Nat → Int32)} {x5_openCount : Int32} {x5_seen : Int64} {x5_edgeCount : Int32} {x5_aim : Int32} (hn : 1000000000000 ≤ n) (h_x2_lineCount : (0 ≤ x2_lineCount ∧ x2_lineCount ≤ 20)) (h_x2_goodsCount : (0 ≤ x2_goodsCount ∧ x2_goodsCount ≤ 8)) (h_x2_workCount : (0 ≤ x2_workCount ∧ x2_workCount ≤ 7)) (h_x2_years : (1 ≤ x2_years ∧ x2_years ≤ 30)) (h_x2_lines : (LnOk x2_lines)) (h_x2_goods : (GdOk x2_goods)) (h_x2_works : (WkOk x2_works)) (h_x2_change : (AI 0 99 x2_change)) (h_x2_coin : (AI 0 9 x2_coin)) (h_x3_lineCount : (0 ≤ x3_lineCount ∧ x3_lineCount ≤ 20)) (h_x3_goodsCount : (0 ≤ x3_goodsCount ∧ x3_goodsCount ≤ 8)) (h_x3_workCount : (0 ≤ x3_workCount ∧ x3_workCount ≤ 7)) (h_x3_years : (1 ≤ x3_years ∧ x3_years ≤ 30)) (h_x3_lines : (LnOk x3_lines)) (h_x3_goods : (GdOk x3_goods)) (h_x3_works : (WkOk x3_works)) (h_x3_change : (AI 0 99 x3_change)) (h_x3_coin : (AI 0 9 x3_coin)) (h_x5_edgeA : (AI 0 35 x5_edgeA)) (h_x5_edgeB : (AI 0 35 x5_edgeB)) (h_x5_edgeLine : (AI 0 19 x5_edgeLine)) (h_x5_steps : (AI 0 22 x5_steps)) (h_x5_nodes : (AI 0 35 x5_nodes)) (h_x5_stepCount : (0 ≤ x5_stepCount ∧ x5_stepCount ≤ 36)) (h_x5_open : (AI 0 35 x5_open)) (h_x5_openCount : (0 ≤ x5_openCount ∧ x5_openCount ≤ 36)) (h_x5_edgeCount : (0 ≤ x5_edgeCount ∧ x5_edgeCount ≤ 60)) (hf : ∀ k, k < x3_workCount.toNatClampNeg → Wf1 (ro 5 x3_works) x3_lineCount k) (hk : Kn (FrS x3_lineCount (ro 7 x3_lines) x3_change x3_coin (ro 3 x3_goods) x3_goodsCount (ro 5 x3_works) x3_workCount) x3_knownFree x3_isKnown) {t : Nat → Int32} (ht : ∀ z : Int32, 0 ≤ z → TotA (x3_lineCount, ro 7 x3_lines, x3_change) x3_coin (ro 3 x3_goods) x3_goodsCount (ro 5 x3_works) x3_workCount x3_years z = t z.toNatClampNeg) : Sf (fX6_best n (x0_refused, x0_isKept, x0_gone, x0_spent) x1_gained (x2_lineCount, x2_goodsCount, x2_workCount, x2_years, x2_lines, x2_goods, x2_works, x2_change, x2_coin, x2_knownFree, x2_isKnown) (x3_lineCount, x3_goodsCount, x3_workCount, x3_years, x3_lines, x3_goods, x3_works, x3_change, x3_coin, x3_knownFree, x3_isKnown) (x4_left, x4_earned, x4_turnCost, x4_turnWayless) (x5_edgeA, x5_edgeB, x5_edgeCost, x5_edgeLine, x5_change, x5_away, x5_steps, x5_nodes, x5_stepCount, x5_open, x5_openCount, x5_seen, x5_edgeCount, x5_aim)) (fun r => r.1 = (btW t (((1 : Int32) <<< (x3_workCount &&& 31)).toNatClampNeg - 1)).1) := by
  unfold fX6_best
  dsimp only [u4, u14, u11]
  refine Sf.bind (bestOfC hn h_x5_edgeA h_x5_edgeB h_x5_edgeLine h_x5_steps h_x5_nodes h_x5_stepCount h_x5_open h_x5_openCount h_x5_edgeCount h_x2_lineCount h_x2_goodsCount h_x2_workCount h_x2_years h_x2_lines h_x2_goods h_x2_works h_x2_change h_x2_coin h_x3_lineCount h_x3_goodsCount h_x3_workCount h_x3_years h_x3_lines h_x3_goods h_x3_works h_x3_change h_x3_coin hf hk ht) ?_
  rintro ⟨v1, ⟨g3, g4, g5, g6, g7, g8, g9, g10⟩, ⟨g12, g13, g14, g15, g16, g17, g18, g19, g20, g21⟩, ⟨g23, g24, g25, g26, g27⟩⟩ ⟨e, q⟩
  exact Sf.ok e
theorem dBest {n : Nat} {x0_refused : (Nat → Int32)} {x0_isKept : Int32} {x0_gone : Int32} {x0_spent : Int32} {x1_gained : Nat → Int32} {x2_lineCount : Int32} {x2_goodsCount : Int32} {x2_workCount : Int32} {x2_years : Int32} {x2_lines : (Nat → Int32)} {x2_goods : (Nat → Int32)} {x2_works : (Nat → Int32)} {x2_change : (Nat → Int32)} {x2_coin : (Nat → Int32)} {x2_knownFree : (Nat → Int32)} {x2_isKnown : Int32} {x3_lineCount : Int32} {x3_goodsCount : Int32} {x3_workCount : Int32} {x3_years : Int32} {x3_lines : (Nat → Int32)} {x3_goods : (Nat → Int32)} {x3_works : (Nat → Int32)} {x3_change : (Nat → Int32)} {x3_coin : (Nat → Int32)} {x3_knownFree : (Nat → Int32)} {x3_isKnown : Int32} {x4_left : (Nat → Int32)} {x4_earned : (Nat → Int32)} {x4_turnCost : Int32} {x4_turnWayless : Int32} {x5_edgeA : (Nat → Int32)} {x5_edgeB : (Nat → Int32)} {x5_edgeCost : (Nat → Int32)} {x5_edgeLine : (Nat → Int32)} {x5_change : (Nat → Int32)} {x5_away : (Nat → Int32)} {x5_steps : (Nat → Int32)} {x5_nodes : (Nat → Int32)} {x5_stepCount : Int32} {x5_open : (Nat → Int32)} {x5_openCount : Int32} {x5_seen : Int64} {x5_edgeCount : Int32} {x5_aim : Int32} {m_shelf : (Nat → Int32)} {m_rowSort : (Nat → Int32)} {m_rowSize : (Nat → Int32)} {m_rows : (Nat → Nat → Int64)} {m_moved : (Nat → Int64)} {m_shown : (Nat → Int32)} {m_tape : (Nat → Int32)} {m_tapeSize : Int32} {m_refused : (Nat → Int32)} {m_lines : Int32} {m_line : (Nat → Nat → Int32)} {m_changes : (Nat → Int32)} {m_coins : (Nat → Int32)} {m_goods : Int32} {m_good : (Nat → Nat → Int32)} {m_works : Int32} {m_work : (Nat → Nat → Int32)} {m_years : Int32} {m_gone : Int32} {m_spent : Int32} {m_at : Int32} {m_token : Int32} {m_from : Int32} {m_figures : Int64} {m_fault : Int32} {m_numbers : (Nat → Int32)} {m_statements : Int32} {m_left : (Nat → Int32)} {m_far : (Nat → Int32)} {m_tons : Int32} {m_way : (Nat → Int32)} {m_steps : Int32} {m_met : Int64} {m_queue : (Nat → Int32)} {m_totals : (Nat → Int32)} {t_shelf : (Nat → Int32)} {t_rowSort : (Nat → Int32)} {t_rowSize : (Nat → Int32)} {t_rows : (Nat → Nat → Int64)} {t_moved : (Nat → Int64)} {t_shown : (Nat → Int32)} {t_tape : (Nat → Int32)} {t_tapeSize : Int32} {t_refused : (Nat → Int32)} {t_lines : Int32} {t_line : (Nat → Nat → Int32)} {t_changes : (Nat → Int32)} {t_coins : (Nat → Int32)} {t_goods : Int32} {t_good : (Nat → Nat → Int32)} {t_works : Int32} {t_work : (Nat → Nat → Int32)} {t_years : Int32} {t_gone : Int32} {t_spent : Int32} {t_at : Int32} {t_token : Int32} {t_from : Int32} {t_figures : Int64} {t_fault : Int32} {t_numbers : (Nat → Int32)} {t_statements : Int32} {t_left : (Nat → Int32)} {t_far : (Nat → Int32)} {t_tons : Int32} {t_way : (Nat → Int32)} {t_steps : Int32} {t_met : Int64} {t_queue : (Nat → Int32)} {t_totals : (Nat → Int32)} {er fr : Int32} {A6 : (Int32 × Int32 × Int32 × Int32 × (Nat → Int32) × (Nat → Int32) × (Nat → Int32) × (Nat → Int32) × (Nat → Int32) × Int32) × (Int32 × (Nat → Int32) × (Nat → Int32) × (Nat → Int32) × Int32) × ((Nat → Int32) × (Nat → Int32) × (Nat → Int32) × (Nat → Int32) × (Nat → Int32) × (Nat → Int32) × Int32 × Int32)} {B6 : (Int32 × (Nat → Nat → Int32) × (Nat → Int32) × (Nat → Int32) × Int32 × (Nat → Nat → Int32) × Int32 × (Nat → Nat → Int32) × Int32 × Int32 × Int32 × (Nat → Int32) × (Nat → Int32) × Int32)} (hn : 1000000000000 ≤ n) (h_x2_lineCount : (0 ≤ x2_lineCount ∧ x2_lineCount ≤ 20)) (h_x2_goodsCount : (0 ≤ x2_goodsCount ∧ x2_goodsCount ≤ 8)) (h_x2_workCount : (0 ≤ x2_workCount ∧ x2_workCount ≤ 7)) (h_x2_years : (1 ≤ x2_years ∧ x2_years ≤ 30)) (h_x2_lines : (LnOk x2_lines)) (h_x2_goods : (GdOk x2_goods)) (h_x2_works : (WkOk x2_works)) (h_x2_change : (AI 0 99 x2_change)) (h_x2_coin : (AI 0 9 x2_coin)) (h_x3_lineCount : (0 ≤ x3_lineCount ∧ x3_lineCount ≤ 20)) (h_x3_goodsCount : (0 ≤ x3_goodsCount ∧ x3_goodsCount ≤ 8)) (h_x3_workCount : (0 ≤ x3_workCount ∧ x3_workCount ≤ 7)) (h_x3_years : (1 ≤ x3_years ∧ x3_years ≤ 30)) (h_x3_lines : (LnOk x3_lines)) (h_x3_goods : (GdOk x3_goods)) (h_x3_works : (WkOk x3_works)) (h_x3_change : (AI 0 99 x3_change)) (h_x3_coin : (AI 0 9 x3_coin)) (h_x5_edgeA : (AI 0 35 x5_edgeA)) (h_x5_edgeB : (AI 0 35 x5_edgeB)) (h_x5_edgeLine : (AI 0 19 x5_edgeLine)) (h_x5_steps : (AI 0 22 x5_steps)) (h_x5_nodes : (AI 0 35 x5_nodes)) (h_x5_stepCount : (0 ≤ x5_stepCount ∧ x5_stepCount ≤ 36)) (h_x5_open : (AI 0 35 x5_open)) (h_x5_openCount : (0 ≤ x5_openCount ∧ x5_openCount ≤ 36)) (h_x5_edgeCount : (0 ≤ x5_edgeCount ∧ x5_edgeCount ≤ 60)) (h_m_shelf : (AI 0 2 m_shelf)) (h_m_rowSize : (AI 0 40 m_rowSize)) (h_m_tapeSize : (0 ≤ m_tapeSize ∧ m_tapeSize ≤ 250)) (h_m_lines : (0 ≤ m_lines ∧ m_lines ≤ 20)) (h_m_line : (LnM m_line)) (h_m_changes : (AI 0 99 m_changes)) (h_m_coins : (AI 0 9 m_coins)) (h_m_goods : (0 ≤ m_goods ∧ m_goods ≤ 8)) (h_m_good : (GdM m_good)) (h_m_works : (0 ≤ m_works ∧ m_works ≤ 7)) (h_m_work : (WkM m_work)) (h_m_years : (1 ≤ m_years ∧ m_years ≤ 30)) (h_m_from : (0 ≤ m_from ∧ m_from ≤ 250)) (h_m_far : (AI 0 1000000000 m_far)) (h_m_way : (AI 0 22 m_way)) (h_m_steps : (0 ≤ m_steps ∧ m_steps ≤ 37)) (h_m_queue : (AI 0 35 m_queue)) (h_t_shelf : (AI 0 2 t_shelf)) (h_t_rowSize : (AI 0 40 t_rowSize)) (h_t_tapeSize : (0 ≤ t_tapeSize ∧ t_tapeSize ≤ 250)) (h_t_lines : (0 ≤ t_lines ∧ t_lines ≤ 20)) (h_t_line : (LnM t_line)) (h_t_changes : (AI 0 99 t_changes)) (h_t_coins : (AI 0 9 t_coins)) (h_t_goods : (0 ≤ t_goods ∧ t_goods ≤ 8)) (h_t_good : (GdM t_good)) (h_t_works : (0 ≤ t_works ∧ t_works ≤ 7)) (h_t_work : (WkM t_work)) (h_t_years : (1 ≤ t_years ∧ t_years ≤ 30)) (h_t_from : (0 ≤ t_from ∧ t_from ≤ 250)) (h_t_far : (AI 0 1000000000 t_far)) (h_t_way : (AI 0 22 t_way)) (h_t_steps : (0 ≤ t_steps ∧ t_steps ≤ 37)) (h_t_queue : (AI 0 35 t_queue)) (hA : (LaD x3_lineCount x3_goodsCount x3_workCount x3_years x3_lines x3_goods x3_works x3_change x3_coin m_lines m_line m_changes m_coins m_goods m_good m_works m_work m_years)) (hk : Kn (FrS x3_lineCount (ro 7 x3_lines) x3_change x3_coin (ro 3 x3_goods) x3_goodsCount (ro 5 x3_works) x3_workCount) x3_knownFree x3_isKnown) (eqA : fX6_best n (x0_refused, x0_isKept, x0_gone, x0_spent) x1_gained (x2_lineCount, x2_goodsCount, x2_workCount, x2_years, x2_lines, x2_goods, x2_works, x2_change, x2_coin, x2_knownFree, x2_isKnown) (x3_lineCount, x3_goodsCount, x3_workCount, x3_years, x3_lines, x3_goods, x3_works, x3_change, x3_coin, x3_knownFree, x3_isKnown) (x4_left, x4_earned, x4_turnCost, x4_turnWayless) (x5_edgeA, x5_edgeB, x5_edgeCost, x5_edgeLine, x5_change, x5_away, x5_steps, x5_nodes, x5_stepCount, x5_open, x5_openCount, x5_seen, x5_edgeCount, x5_aim) = some (er, A6)) (eqB : fX7_best n (m_shelf, m_rowSort, m_rowSize, m_rows, m_moved, m_shown, m_tape, m_tapeSize, m_refused, m_lines, m_line, m_changes, m_coins, m_goods, m_good, m_works, m_work, m_years, m_gone, m_spent, m_at, m_token, m_from, m_figures, m_fault, m_numbers, m_statements, m_left, m_far, m_tons, m_way, m_steps, m_met, m_queue, m_totals) (t_shelf, t_rowSort, t_rowSize, t_rows, t_moved, t_shown, t_tape, t_tapeSize, t_refused, t_lines, t_line, t_changes, t_coins, t_goods, t_good, t_works, t_work, t_years, t_gone, t_spent, t_at, t_token, t_from, t_figures, t_fault, t_numbers, t_statements, t_left, t_far, t_tons, t_way, t_steps, t_met, t_queue, t_totals) = some (fr, B6)) : er = fr := by
  have a := (bestC (t := fun j => TotA (x3_lineCount, ro 7 x3_lines, x3_change) x3_coin (ro 3 x3_goods) x3_goodsCount (ro 5 x3_works) x3_workCount x3_years (Int32.ofNat j)) hn h_x2_lineCount h_x2_goodsCount h_x2_workCount h_x2_years h_x2_lines h_x2_goods h_x2_works h_x2_change h_x2_coin h_x3_lineCount h_x3_goodsCount h_x3_workCount h_x3_years h_x3_lines h_x3_goods h_x3_works h_x3_change h_x3_coin h_x5_edgeA h_x5_edgeB h_x5_edgeLine h_x5_steps h_x5_nodes h_x5_stepCount h_x5_open h_x5_openCount h_x5_edgeCount hA.2.2.2.2.2.2 hk (fun z hz => ofn_z (f := TotA (x3_lineCount, ro 7 x3_lines, x3_change) x3_coin (ro 3 x3_goods) x3_goodsCount (ro 5 x3_works) x3_workCount x3_years) hz)).at eqA
  obtain ⟨⟨z1, z2, z3, z4⟩, z5, z6, z7, z8, z9, z10⟩ := id hA
  have hS := hA.s
  subst z1 z2 z3 z4
  have hW : WfS x3_workCount.toNatClampNeg ((x3_lineCount, ro 7 x3_lines, x3_change), ro 5 x3_works) := ⟨h_x3_lineCount, z10⟩
  have hW2 := hW.congr hS
  have b := (bestR (t := fun j => TotA (x3_lineCount, ro 7 x3_lines, x3_change) x3_coin (ro 3 x3_goods) x3_goodsCount (ro 5 x3_works) x3_workCount x3_years (Int32.ofNat j)) hn h_m_shelf h_m_rowSize h_m_tapeSize h_x3_lineCount h_m_line h_m_changes h_m_coins h_x3_goodsCount h_m_good h_x3_workCount h_m_work h_x3_years h_m_from h_m_far h_m_way h_m_steps h_m_queue h_t_shelf h_t_rowSize h_t_tapeSize h_t_lines h_t_line h_t_changes h_t_coins h_t_goods h_t_good h_t_works h_t_work h_t_years h_t_from h_t_far h_t_way h_t_steps h_t_queue hW2.2 (fun z hz => ((TotA_congr hS.1 h_x3_lineCount z9 z6 z7 z10).symm.trans (ofn_z (f := TotA (x3_lineCount, ro 7 x3_lines, x3_change) x3_coin (ro 3 x3_goods) x3_goodsCount (ro 5 x3_works) x3_workCount x3_years) hz)))).at eqB
  exact a.trans b.symm
end
section
/-! never: alike -/
noncomputable def nvW (P : Nat → Prop) : Nat → Int32
  | 0 => 0
  | k + 1 => @ite _ (P k) (Classical.propDecidable (P k)) (nvW P k ||| ((1 : Int32) <<< (Int32.ofNat k &&& 31))) (nvW P k)
theorem nvW_pos {P : Nat → Prop} {k : Nat} (h : P k) : nvW P (k + 1) = nvW P k ||| ((1 : Int32) <<< (Int32.ofNat k &&& 31)) := if_pos h
theorem nvW_neg {P : Nat → Prop} {k : Nat} (h : ¬ P k) : nvW P (k + 1) = nvW P k := if_neg h
theorem nvW_congr {P P' : Nat → Prop} : ∀ K : Nat, (∀ k, k < K → (P k ↔ P' k)) → nvW P K = nvW P' K
  | 0, _ => rfl
  | K + 1, h => by
    have ih := nvW_congr K (fun k hk => h k (by omega))
    have e := h K (by omega)
    by_cases hp : P K
    · rw [nvW_pos hp, nvW_pos (e.mp hp), ih]
    · rw [nvW_neg hp, nvW_neg (fun hh => hp (e.mpr hh)), ih]
theorem tq_hi {z : Int32} {u : Nat} (hz : 0 ≤ z ∧ z ≤ 127) (hu : 7 ≤ u) : tq z u = false := by
  obtain ⟨n1, n2⟩ := i32_nat hz.1
  have a := i32_cl hz.1
  have b := (i32_b hz).2
  have e : (127 : Int32).toInt = 127 := by decide
  show z.toBitVec.toNat.testBit u = false
  exact Nat.testBit_lt_two_pow (Nat.lt_of_lt_of_le (show z.toBitVec.toNat < 128 by omega) (Nat.le_trans (by decide : (128 : Nat) ≤ 2 ^ 7) (Nat.pow_le_pow_right (by decide) hu)))
theorem and0_iff {z m : Int32} (hz : 0 ≤ z ∧ z ≤ 127) : (z &&& m) = 0 ↔ ∀ u, u < 7 → tq m u = true → tq z u = false := by
  constructor
  · intro h u hu hm
    have q : tq (z &&& m) u = false := by rw [h, tq_zero]
    rw [tq_and, hm, Bool.and_true] at q
    exact q
  · intro h
    refine tq_ext (fun u hu => ?_)
    rw [tq_and, tq_zero]
    by_cases h7 : 7 ≤ u
    · rw [tq_hi hz h7, Bool.false_and]
    · cases hm : tq m u with
      | false => rw [Bool.and_false]
      | true => rw [h u (by omega) hm, Bool.false_and]
theorem tq_one {z : Int32} (hz : 0 ≤ z ∧ z ≤ 30) (u : Nat) (hu : u < 31) : tq ((1 : Int32) <<< (z &&& 31)) u = decide (u = z.toNatClampNeg) := by
  have e : Int32.ofNat z.toNatClampNeg = z := Int32.ofNat_toNatClampNeg z hz.1
  have l : z.toNatClampNeg < 31 := i32_lt (M := 31) rfl ⟨hz.1, Int32.lt_of_le_of_lt hz.2 (by decide)⟩
  have q := tq_shl l u hu
  rw [e] at q
  exact q
/-- a set is one of those to which a work is added -/
def NvC (work : Nat → Nat → Int32) (W : Int32) (k : Nat) (z : Int32) : Prop := (∀ j, j < W.toNatClampNeg → ¬ work j 4 = 0 → tq z j = false) ∧ tq z k = false
theorem shut_iff {z v1 p2 W : Int32} {work : Nat → Nat → Int32} (hz : 0 ≤ z ∧ z ≤ 127) (hW : 0 ≤ W ∧ W ≤ 7) (h1 : ∀ k, k < 31 → (tq v1 k = true ↔ (k < W.toNatClampNeg ∧ work k 4 ≠ 0))) (hp : 0 ≤ p2 ∧ p2 ≤ 6) : (z &&& (v1 ||| ((1 : Int32) <<< (p2 &&& 31)))) = 0 ↔ NvC work W p2.toNatClampNeg z := by
  have w7 := nlt (M := 7) (N := 7) rfl hW
  have p7 := nlt (M := 6) (N := 6) rfl hp
  have hp30 : 0 ≤ p2 ∧ p2 ≤ 30 := ⟨hp.1, Int32.le_trans hp.2 (by decide)⟩
  rw [and0_iff hz]
  constructor
  · intro h
    refine ⟨fun j hj hd => h j (by omega) ?_, h _ (by omega) ?_⟩
    · rw [tq_or, (h1 j (by omega)).mpr ⟨hj, hd⟩, Bool.true_or]
    · rw [tq_or, tq_one hp30 _ (by omega), decide_eq_true rfl, Bool.or_true]
  · rintro ⟨a, b⟩ u hu hm
    rw [tq_or, tq_one hp30 u (by omega)] at hm
    by_cases e : u = p2.toNatClampNeg
    · rw [e]; exact b
    · rw [decide_eq_false e, Bool.or_false] at hm
      have q := (h1 u (by omega)).mp hm
      exact a u q.1 q.2
theorem or_rng {z k : Int32} (hz : 0 ≤ z ∧ z ≤ 127) (hk : 0 ≤ k ∧ k ≤ 6) : 0 ≤ z ||| ((1 : Int32) <<< (k &&& 31)) ∧ z ||| ((1 : Int32) <<< (k &&& 31)) ≤ 127 := by
  have key : ∀ a : Fin 128, ∀ b : Fin 7, 0 ≤ Int32.ofNat a.1 ||| ((1 : Int32) <<< (Int32.ofNat b.1 &&& 31)) ∧ Int32.ofNat a.1 ||| ((1 : Int32) <<< (Int32.ofNat b.1 &&& 31)) ≤ 127 := by decide +kernel
  have a := nlt (M := 127) (N := 127) rfl hz
  have b := nlt (M := 6) (N := 6) rfl hk
  have q : 0 ≤ Int32.ofNat z.toNatClampNeg ||| ((1 : Int32) <<< (Int32.ofNat k.toNatClampNeg &&& 31)) ∧ Int32.ofNat z.toNatClampNeg ||| ((1 : Int32) <<< (Int32.ofNat k.toNatClampNeg &&& 31)) ≤ 127 := key ⟨z.toNatClampNeg, by omega⟩ ⟨k.toNatClampNeg, by omega⟩
  rw [Int32.ofNat_toNatClampNeg z hz.1, Int32.ofNat_toNatClampNeg k hk.1] at q
  exact q
theorem or_lt {z k W : Int32} (hz : 0 ≤ z ∧ z ≤ 127) (hk : 0 ≤ k ∧ k ≤ 6) (hW : 0 ≤ W ∧ W ≤ 7) (hkW : k < W) (hl : z < (1 : Int32) <<< (W &&& 31)) : z ||| ((1 : Int32) <<< (k &&& 31)) < (1 : Int32) <<< (W &&& 31) := by
  have key : ∀ c : Fin 8, ∀ b : Fin 7, Int32.ofNat b.1 < Int32.ofNat c.1 → ∀ a : Fin 128, Int32.ofNat a.1 < (1 : Int32) <<< (Int32.ofNat c.1 &&& 31) → Int32.ofNat a.1 ||| ((1 : Int32) <<< (Int32.ofNat b.1 &&& 31)) < (1 : Int32) <<< (Int32.ofNat c.1 &&& 31) := by decide +kernel
  have a := nlt (M := 127) (N := 127) rfl hz
  have b := nlt (M := 6) (N := 6) rfl hk
  have c := nlt (M := 7) (N := 7) rfl hW
  have q : Int32.ofNat k.toNatClampNeg < Int32.ofNat W.toNatClampNeg → Int32.ofNat z.toNatClampNeg < (1 : Int32) <<< (Int32.ofNat W.toNatClampNeg &&& 31) → Int32.ofNat z.toNatClampNeg ||| ((1 : Int32) <<< (Int32.ofNat k.toNatClampNeg &&& 31)) < (1 : Int32) <<< (Int32.ofNat W.toNatClampNeg &&& 31) := fun h h' => key ⟨W.toNatClampNeg, by omega⟩ ⟨k.toNatClampNeg, by omega⟩ h ⟨z.toNatClampNeg, by omega⟩ h'
  rw [Int32.ofNat_toNatClampNeg z hz.1, Int32.ofNat_toNatClampNeg k hk.1, Int32.ofNat_toNatClampNeg W hW.1] at q
  exact q hkW hl
/-- to whatever set it is added, it comes to more -/
def NvA (t : Nat → Int32) (work : Nat → Nat → Int32) (W k : Int32) : Prop := ∀ z : Int32, 0 ≤ z ∧ z < (1 : Int32) <<< (W &&& 31) → NvC work W k.toNatClampNeg z → t z.toNatClampNeg < t (z ||| ((1 : Int32) <<< (k &&& 31))).toNatClampNeg
def NvP (t : Nat → Int32) (work : Nat → Nat → Int32) (W : Int32) (k : Nat) : Prop := work k 4 = 0 ∧ NvA t work W (Int32.ofNat k)
theorem upN {z N y : Int32} (h0 : 0 ≤ z) (hN : N ≤ 128) (h : ¬ N ≤ z) (hy : 0 ≤ y ∧ y < z + 1) : y < z ∨ y = z := by
  obtain ⟨p0, p1, p3⟩ := up1 h0 (Int32.le_trans hN (by decide)) h
  have a := i32_cl h0
  have b := i32_cl p0
  have c := Int32.lt_iff_toInt_lt.mp hy.2
  by_cases e : y = z
  · exact Or.inr e
  · refine Or.inl (Int32.lt_iff_toInt_lt.mpr ?_)
    have d : y.toInt ≠ z.toInt := fun h => e (Int32.toInt_inj.mp h)
    omega
theorem upL {z N : Int32} (h0 : 0 ≤ z) (hN : N ≤ 128) (h : ¬ N ≤ z) : (0 ≤ z + 1 ∧ z + 1 ≤ N) ∧ (0 ≤ z ∧ z < N) ∧ (0 ≤ z ∧ z ≤ 127) := by
  obtain ⟨p0, p1, p3⟩ := up1 h0 (Int32.le_trans hN (by decide)) h
  have a := i32_cl h0
  have b := i32_cl p0
  have c := Int32.lt_iff_toInt_lt.mp p3
  have d := Int32.le_iff_toInt_le.mp hN
  have e : (128 : Int32).toInt = 128 := by decide
  have f : (127 : Int32).toInt = 127 := by decide
  refine ⟨⟨p0, Int32.le_iff_toInt_le.mpr (by omega)⟩, ⟨h0, p3⟩, h0, Int32.le_iff_toInt_le.mpr (by omega)⟩
theorem alwaysC {n : Nat} {x0_gained : Nat → Int32} {x1_left : (Nat → Int32)} {x1_earned : (Nat → Int32)} {x1_turnCost : Int32} {x1_turnWayless : Int32} {x2_edgeA : (Nat → Int32)} {x2_edgeB : (Nat → Int32)} {x2_edgeCost : (Nat → Int32)} {x2_edgeLine : (Nat → Int32)} {x2_change : (Nat → Int32)} {x2_away : (Nat → Int32)} {x2_steps : (Nat → Int32)} {x2_nodes : (Nat → Int32)} {x2_stepCount : Int32} {x2_open : (Nat → Int32)} {x2_openCount : Int32} {x2_seen : Int64} {x2_edgeCount : Int32} {x2_aim : Int32} {x3_lineCount : Int32} {x3_goodsCount : Int32} {x3_workCount : Int32} {x3_years : Int32} {x3_lines : (Nat → Int32)} {x3_goods : (Nat → Int32)} {x3_works : (Nat → Int32)} {x3_change : (Nat → Int32)} {x3_coin : (Nat → Int32)} {x3_knownFree : (Nat → Int32)} {x3_isKnown : Int32} {x4_lineCount : Int32} {x4_goodsCount : Int32} {x4_workCount : Int32} {x4_years : Int32} {x4_lines : (Nat → Int32)} {x4_goods : (Nat → Int32)} {x4_works : (Nat → Int32)} {x4_change : (Nat → Int32)} {x4_coin : (Nat → Int32)} {x4_knownFree : (Nat → Int32)} {x4_isKnown : Int32} {p2 : Int32} (hn : 1000000000000 ≤ n) (h_x2_edgeA : (AI 0 35 x2_edgeA)) (h_x2_edgeB : (AI 0 35 x2_edgeB)) (h_x2_edgeLine : (AI 0 19 x2_edgeLine)) (h_x2_steps : (AI 0 22 x2_steps)) (h_x2_nodes : (AI 0 35 x2_nodes)) (h_x2_stepCount : (0 ≤ x2_stepCount ∧ x2_stepCount ≤ 36)) (h_x2_open : (AI 0 35 x2_open)) (h_x2_openCount : (0 ≤ x2_openCount ∧ x2_openCount ≤ 36)) (h_x2_edgeCount : (0 ≤ x2_edgeCount ∧ x2_edgeCount ≤ 60)) (h_x3_lineCount : (0 ≤ x3_lineCount ∧ x3_lineCount ≤ 20)) (h_x3_goodsCount : (0 ≤ x3_goodsCount ∧ x3_goodsCount ≤ 8)) (h_x3_workCount : (0 ≤ x3_workCount ∧ x3_workCount ≤ 7)) (h_x3_years : (1 ≤ x3_years ∧ x3_years ≤ 30)) (h_x3_lines : (LnOk x3_lines)) (h_x3_goods : (GdOk x3_goods)) (h_x3_works : (WkOk x3_works)) (h_x3_change : (AI 0 99 x3_change)) (h_x3_coin : (AI 0 9 x3_coin)) (h_x4_lineCount : (0 ≤ x4_lineCount ∧ x4_lineCount ≤ 20)) (h_x4_goodsCount : (0 ≤ x4_goodsCount ∧ x4_goodsCount ≤ 8)) (h_x4_workCount : (0 ≤ x4_workCount ∧ x4_workCount ≤ 7)) (h_x4_years : (1 ≤ x4_years ∧ x4_years ≤ 30)) (h_x4_lines : (LnOk x4_lines)) (h_x4_goods : (GdOk x4_goods)) (h_x4_works : (WkOk x4_works)) (h_x4_change : (AI 0 99 x4_change)) (h_x4_coin : (AI 0 9 x4_coin)) (hf : ∀ k, k < x4_workCount.toNatClampNeg → Wf1 (ro 5 x4_works) x4_lineCount k) (hk : Kn (FrS x4_lineCount (ro 7 x4_lines) x4_change x4_coin (ro 3 x4_goods) x4_goodsCount (ro 5 x4_works) x4_workCount) x4_knownFree x4_isKnown) {t : Nat → Int32} (ht : ∀ z : Int32, 0 ≤ z → TotA (x4_lineCount, ro 7 x4_lines, x4_change) x4_coin (ro 3 x4_goods) x4_goodsCount (ro 5 x4_works) x4_workCount x4_years z = t z.toNatClampNeg) (hp : 0 ≤ p2 ∧ p2 ≤ 6) : Sf (fX0_alwaysCostsMore n x0_gained (x1_left, x1_earned, x1_turnCost, x1_turnWayless) (x2_edgeA, x2_edgeB, x2_edgeCost, x2_edgeLine, x2_change, x2_away, x2_steps, x2_nodes, x2_stepCount, x2_open, x2_openCount, x2_seen, x2_edgeCount, x2_aim) (x3_lineCount, x3_goodsCount, x3_workCount, x3_years, x3_lines, x3_goods, x3_works, x3_change, x3_coin, x3_knownFree, x3_isKnown) (x4_lineCount, x4_goodsCount, x4_workCount, x4_years, x4_lines, x4_goods, x4_works, x4_change, x4_coin, x4_knownFree, x4_isKnown) p2) (fun r => ((r.1 = 0 ∧ ¬ NvA t (ro 5 x4_works) x4_workCount p2) ∨ (¬ r.1 = 0 ∧ NvA t (ro 5 x4_works) x4_workCount p2)) ∧ FwQ (FrS x4_lineCount (ro 7 x4_lines) x4_change x4_coin (ro 3 x4_goods) x4_goodsCount (ro 5 x4_works) x4_workCount) x4_lineCount x4_lines x4_change r.2.2.2) := by
  obtain ⟨w1, w2⟩ := pw2 h_x4_workCount
  unfold fX0_alwaysCostsMore
  dsimp only [u4, u14, u11]
  refine Sf.bind (doneS hn h_x4_works h_x4_workCount) (fun v1 h1 => ?_)
  refine Sf.someb (fun t3 e3 => ?_)
  refine Sf.bindS (P := fun r => (¬ NvA t (ro 5 x4_works) x4_workCount p2) ∧ FwQ (FrS x4_lineCount (ro 7 x4_lines) x4_change x4_coin (ro 3 x4_goods) x4_goodsCount (ro 5 x4_works) x4_workCount) x4_lineCount x4_lines x4_change r.2.2.2.2.2.2.2.2.2.2.2.2.2.2.2.2.2.2) (P' := fun r => NvA t (ro 5 x4_works) x4_workCount p2 ∧ FwQ (FrS x4_lineCount (ro 7 x4_lines) x4_change x4_coin (ro 3 x4_goods) x4_goodsCount (ro 5 x4_works) x4_workCount) x4_lineCount x4_lines x4_change r.2.2.2.2.2.2.2.2.2.2.2.2.2.2.2.2.2.2) ?_ ?_ ?_
  · refine Sf.loop24 (fun z5 z6 z7 z8 z9 z10 z11 z12 z13 z14 z15 z16 z17 z18 z19 z20 z21 z22 z23 z24 z25 z26 z27 z28 => (0 ≤ z5 ∧ ∀ z : Int32, 0 ≤ z ∧ z < z5 → NvC (ro 5 x4_works) x4_workCount p2.toNatClampNeg z → t z.toNatClampNeg < t (z ||| ((1 : Int32) <<< (p2 &&& 31))).toNatClampNeg) ∧ StB z6 z7 z9 z12 z14 z15 z16 z17 z18 z19 z20 z21 z22 ∧ FwQ (FrS x4_lineCount (ro 7 x4_lines) x4_change x4_coin (ro 3 x4_goods) x4_goodsCount (ro 5 x4_works) x4_workCount) x4_lineCount x4_lines x4_change (z24, z25, z26, z27, z28)) (fun z5 z6 z7 z8 z9 z10 z11 z12 z13 z14 z15 z16 z17 z18 z19 z20 z21 z22 z23 z24 z25 z26 z27 z28 => muUp z5) (fun z5 z6 z7 z8 z9 z10 z11 z12 z13 z14 z15 z16 z17 z18 z19 z20 z21 z22 z23 z24 z25 z26 z27 z28 h => ?_) ?_ (muUp_n hn)
    · obtain ⟨⟨i0, i1⟩, ⟨⟨j1, j2, j3, j4⟩, m1, m2, m3, m4, m5, m6, m7, m8, m9⟩, q1, q2, q3, q4⟩ := h
      have q1 : z24 = x4_lineCount := q1
      have q2 : z25 = x4_lines := q2
      have q3 : z26 = x4_change := q3
      have q4 : Kn _ z27 z28 := q4
      unfold fX0_alwaysCostsMore_s12
      refine Sf.ite (fun hc => Sf.inr ?_) (fun hc => ?_)
      · exact ⟨fun z hz => i1 z ⟨hz.1, Int32.lt_of_lt_of_le hz.2 hc⟩, q1, q2, q3, q4⟩
      rw [q1, q2, q3]
      obtain ⟨⟨p0, p1⟩, hzN, hz127⟩ := upL i0 w2 hc
      have step : (NvC (ro 5 x4_works) x4_workCount p2.toNatClampNeg z5 → t z5.toNatClampNeg < t (z5 ||| ((1 : Int32) <<< (p2 &&& 31))).toNatClampNeg) → 0 ≤ z5 + 1 ∧ ∀ z : Int32, 0 ≤ z ∧ z < z5 + 1 → NvC (ro 5 x4_works) x4_workCount p2.toNatClampNeg z → t z.toNatClampNeg < t (z ||| ((1 : Int32) <<< (p2 &&& 31))).toNatClampNeg := by
        intro hh
        refine ⟨p0, fun z hz => ?_⟩
        rcases upN i0 w2 hc hz with h | h
        · exact i1 z ⟨hz.1, h⟩
        · rw [h]; exact hh
      refine Sf.ite (fun hb => ?_) (fun hb => ?_)
      · rw [e3] at hb
        have hC := (shut_iff hz127 h_x4_workCount h1 hp).mp hb
        refine Sf.bind (Sf.and (sX0_totalOf hn j1 j2 j3 h_x2_steps h_x2_nodes h_x2_stepCount h_x2_open h_x2_openCount j4 m1 m2 m3 m4 m5 m6 m7 m8 m9 h_x4_lineCount h_x4_goodsCount h_x4_workCount h_x4_years h_x4_lines h_x4_goods h_x4_works h_x4_change h_x4_coin) (totalOfC (x0_gained := x0_gained) (x1_left := x1_left) (x1_earned := x1_earned) (x1_turnCost := x1_turnCost) (x1_turnWayless := x1_turnWayless) hn j1 j2 j3 h_x2_steps h_x2_nodes h_x2_stepCount h_x2_open h_x2_openCount j4 m1 m2 m3 m4 m5 m6 m7 m8 m9 h_x4_lineCount h_x4_goodsCount h_x4_workCount h_x4_years h_x4_lines h_x4_goods h_x4_works h_x4_change h_x4_coin hf q4)) ?_
        rintro ⟨v76, ⟨g78, g79, g80, g81, g82, g83, g84, g85⟩, ⟨g87, g88, g89, g90, g91, g92, g93, g94, g95, g96⟩, ⟨g98, g99, g100, g101, g102⟩⟩ ⟨⟨b1, b2, b3, b4, b5, b6, b7, b8, b9, b10, b11, b12, b13, b14, b15, b16⟩, e55, r1, r2, r3, r4⟩
        have e55 : v76 = t (z5 ||| ((1 : Int32) <<< (p2 &&& 31))).toNatClampNeg := e55.trans (ht _ (or_rng hz127 hp).1)
        have r1 : g98 = x4_lineCount := r1
        have r2 : g99 = x4_lines := r2
        have r3 : g100 = x4_change := r3
        have r4 : Kn _ g101 g102 := r4
        try dsimp only [u8, u10, u5]
        rw [r1, r2, r3]
        refine Sf.bind (Sf.and (sX0_totalOf hn b1 b2 b3 h_x2_steps h_x2_nodes h_x2_stepCount h_x2_open h_x2_openCount b4 b5 b6 b7 b8 b9 b10 b11 b12 b13 h_x4_lineCount h_x4_goodsCount h_x4_workCount h_x4_years h_x4_lines h_x4_goods h_x4_works h_x4_change h_x4_coin) (totalOfC (x0_gained := x0_gained) (x1_left := x1_left) (x1_earned := x1_earned) (x1_turnCost := x1_turnCost) (x1_turnWayless := x1_turnWayless) hn b1 b2 b3 h_x2_steps h_x2_nodes h_x2_stepCount h_x2_open h_x2_openCount b4 b5 b6 b7 b8 b9 b10 b11 b12 b13 h_x4_lineCount h_x4_goodsCount h_x4_workCount h_x4_years h_x4_lines h_x4_goods h_x4_works h_x4_change h_x4_coin hf r4)) ?_
        rintro ⟨v104, ⟨g106, g107, g108, g109, g110, g111, g112, g113⟩, ⟨g115, g116, g117, g118, g119, g120, g121, g122, g123, g124⟩, ⟨g126, g127, g128, g129, g130⟩⟩ ⟨⟨c1, c2, c3, c4, c5, c6, c7, c8, c9, c10, c11, c12, c13, c14, c15, c16⟩, e56, s1, s2, s3, s4⟩
        have e56 : v104 = t z5.toNatClampNeg := e56.trans (ht _ i0)
        try dsimp only [u8, u10, u5]
        refine Sf.ite (fun hle => ?_) (fun hle => ?_)
        · rw [e55, e56] at hle
          exact Sf.inl ⟨step (fun _ => hle), ⟨⟨c1, c2, c3, c4⟩, c5, c6, c7, c8, c9, c10, c11, c12, c13⟩, s1, s2, s3, s4⟩ (muUp_lt hc)
        · rw [e55, e56] at hle
          exact Sf.inr ⟨fun hA => hle (hA z5 hzN hC), s1, s2, s3, s4⟩
      · rw [e3] at hb
        have hC : ¬ NvC (ro 5 x4_works) x4_workCount p2.toNatClampNeg z5 := fun h => hb ((shut_iff hz127 h_x4_workCount h1 hp).mpr h)
        exact Sf.inl ⟨step (fun h => absurd h hC), ⟨⟨j1, j2, j3, j4⟩, m1, m2, m3, m4, m5, m6, m7, m8, m9⟩, rfl, rfl, rfl, q4⟩ (muUp_lt hc)
    · exact ⟨⟨(show (0 : Int32) ≤ 0 by decide), fun z hz => absurd hz.2 (Int32.not_lt.mpr hz.1)⟩, ⟨⟨h_x2_edgeA, h_x2_edgeB, h_x2_edgeLine, h_x2_edgeCount⟩, h_x3_lineCount, h_x3_goodsCount, h_x3_workCount, h_x3_years, h_x3_lines, h_x3_goods, h_x3_works, h_x3_change, h_x3_coin⟩, rfl, rfl, rfl, hk⟩
  · rintro ⟨w30, w31, w32, w33, w34, w35, w36, w37, w38, w39, w40, w41, w42, w43, w44, w45, w46, w47, w48, w49, w50, w51, w52⟩ ⟨h, h'⟩
    exact Sf.ok ⟨Or.inl ⟨rfl, h⟩, h'⟩
  · rintro ⟨w30, w31, w32, w33, w34, w35, w36, w37, w38, w39, w40, w41, w42, w43, w44, w45, w46, w47, w48, w49, w50, w51, w52⟩ ⟨h, h'⟩
    exact Sf.ok ⟨Or.inr ⟨(show ¬ (1 : Int32) = 0 by decide), h⟩, h'⟩
theorem neverOfC {n : Nat} {x0_gained : Nat → Int32} {x1_left : (Nat → Int32)} {x1_earned : (Nat → Int32)} {x1_turnCost : Int32} {x1_turnWayless : Int32} {x2_edgeA : (Nat → Int32)} {x2_edgeB : (Nat → Int32)} {x2_edgeCost : (Nat → Int32)} {x2_edgeLine : (Nat → Int32)} {x2_change : (Nat → Int32)} {x2_away : (Nat → Int32)} {x2_steps : (Nat → Int32)} {x2_nodes : (Nat → Int32)} {x2_stepCount : Int32} {x2_open : (Nat → Int32)} {x2_openCount : Int32} {x2_seen : Int64} {x2_edgeCount : Int32} {x2_aim : Int32} {x3_lineCount : Int32} {x3_goodsCount : Int32} {x3_workCount : Int32} {x3_years : Int32} {x3_lines : (Nat → Int32)} {x3_goods : (Nat → Int32)} {x3_works : (Nat → Int32)} {x3_change : (Nat → Int32)} {x3_coin : (Nat → Int32)} {x3_knownFree : (Nat → Int32)} {x3_isKnown : Int32} {x4_lineCount : Int32} {x4_goodsCount : Int32} {x4_workCount : Int32} {x4_years : Int32} {x4_lines : (Nat → Int32)} {x4_goods : (Nat → Int32)} {x4_works : (Nat → Int32)} {x4_change : (Nat → Int32)} {x4_coin : (Nat → Int32)} {x4_knownFree : (Nat → Int32)} {x4_isKnown : Int32} (hn : 1000000000000 ≤ n) (h_x2_edgeA : (AI 0 35 x2_edgeA)) (h_x2_edgeB : (AI 0 35 x2_edgeB)) (h_x2_edgeLine : (AI 0 19 x2_edgeLine)) (h_x2_steps : (AI 0 22 x2_steps)) (h_x2_nodes : (AI 0 35 x2_nodes)) (h_x2_stepCount : (0 ≤ x2_stepCount ∧ x2_stepCount ≤ 36)) (h_x2_open : (AI 0 35 x2_open)) (h_x2_openCount : (0 ≤ x2_openCount ∧ x2_openCount ≤ 36)) (h_x2_edgeCount : (0 ≤ x2_edgeCount ∧ x2_edgeCount ≤ 60)) (h_x3_lineCount : (0 ≤ x3_lineCount ∧ x3_lineCount ≤ 20)) (h_x3_goodsCount : (0 ≤ x3_goodsCount ∧ x3_goodsCount ≤ 8)) (h_x3_workCount : (0 ≤ x3_workCount ∧ x3_workCount ≤ 7)) (h_x3_years : (1 ≤ x3_years ∧ x3_years ≤ 30)) (h_x3_lines : (LnOk x3_lines)) (h_x3_goods : (GdOk x3_goods)) (h_x3_works : (WkOk x3_works)) (h_x3_change : (AI 0 99 x3_change)) (h_x3_coin : (AI 0 9 x3_coin)) (h_x4_lineCount : (0 ≤ x4_lineCount ∧ x4_lineCount ≤ 20)) (h_x4_goodsCount : (0 ≤ x4_goodsCount ∧ x4_goodsCount ≤ 8)) (h_x4_workCount : (0 ≤ x4_workCount ∧ x4_workCount ≤ 7)) (h_x4_years : (1 ≤ x4_years ∧ x4_years ≤ 30)) (h_x4_lines : (LnOk x4_lines)) (h_x4_goods : (GdOk x4_goods)) (h_x4_works : (WkOk x4_works)) (h_x4_change : (AI 0 99 x4_change)) (h_x4_coin : (AI 0 9 x4_coin)) (hf : ∀ k, k < x4_workCount.toNatClampNeg → Wf1 (ro 5 x4_works) x4_lineCount k) (hk : Kn (FrS x4_lineCount (ro 7 x4_lines) x4_change x4_coin (ro 3 x4_goods) x4_goodsCount (ro 5 x4_works) x4_workCount) x4_knownFree x4_isKnown) {t : Nat → Int32} (ht : ∀ z : Int32, 0 ≤ z → TotA (x4_lineCount, ro 7 x4_lines, x4_change) x4_coin (ro 3 x4_goods) x4_goodsCount (ro 5 x4_works) x4_workCount x4_years z = t z.toNatClampNeg) : Sf (fX0_neverOf n x0_gained (x1_left, x1_earned, x1_turnCost, x1_turnWayless) (x2_edgeA, x2_edgeB, x2_edgeCost, x2_edgeLine, x2_change, x2_away, x2_steps, x2_nodes, x2_stepCount, x2_open, x2_openCount, x2_seen, x2_edgeCount, x2_aim) (x3_lineCount, x3_goodsCount, x3_workCount, x3_years, x3_lines, x3_goods, x3_works, x3_change, x3_coin, x3_knownFree, x3_isKnown) (x4_lineCount, x4_goodsCount, x4_workCount, x4_years, x4_lines, x4_goods, x4_works, x4_change, x4_coin, x4_knownFree, x4_isKnown)) (fun r => r.1 = nvW (NvP t (ro 5 x4_works) x4_workCount) x4_workCount.toNatClampNeg) := by
  unfold fX0_neverOf
  dsimp only [u4, u14, u11]
  refine Sf.bind (P := fun r => r.1 = nvW (NvP t (ro 5 x4_works) x4_workCount) x4_workCount.toNatClampNeg) ?_ ?_
  · refine Sf.loop25 (fun z2 z3 z4 z5 z6 z7 z8 z9 z10 z11 z12 z13 z14 z15 z16 z17 z18 z19 z20 z21 z22 z23 z24 z25 z26 => ((0 ≤ z3 ∧ z3 ≤ x4_workCount) ∧ z2 = nvW (NvP t (ro 5 x4_works) x4_workCount) z3.toNatClampNeg) ∧ StB z4 z5 z7 z10 z12 z13 z14 z15 z16 z17 z18 z19 z20 ∧ FwQ (FrS x4_lineCount (ro 7 x4_lines) x4_change x4_coin (ro 3 x4_goods) x4_goodsCount (ro 5 x4_works) x4_workCount) x4_lineCount x4_lines x4_change (z22, z23, z24, z25, z26)) (fun z2 z3 z4 z5 z6 z7 z8 z9 z10 z11 z12 z13 z14 z15 z16 z17 z18 z19 z20 z21 z22 z23 z24 z25 z26 => muUp z3) (fun z2 z3 z4 z5 z6 z7 z8 z9 z10 z11 z12 z13 z14 z15 z16 z17 z18 z19 z20 z21 z22 z23 z24 z25 z26 h => ?_) ?_ (muUp_n hn)
    · obtain ⟨⟨i0, i1⟩, ⟨⟨j1, j2, j3, j4⟩, m1, m2, m3, m4, m5, m6, m7, m8, m9⟩, q1, q2, q3, q4⟩ := h
      have q1 : z22 = x4_lineCount := q1
      have q2 : z23 = x4_lines := q2
      have q3 : z24 = x4_change := q3
      have q4 : Kn _ z25 z26 := q4
      unfold fX0_neverOf_s4
      refine Sf.ite (fun hc => Sf.inr ?_) (fun hc => ?_)
      · have e : z3 = x4_workCount := Int32.le_antisymm i0.2 hc
        rw [e] at i1
        exact i1
      rw [q1, q2, q3]
      obtain ⟨p0, p1, p3⟩ := up1 i0.1 (Int32.le_trans h_x4_workCount.2 (by decide)) hc
      have hz1 : z3 + 1 ≤ x4_workCount := by clear q4 hk hf i1 ht; grind
      have hz6 : 0 ≤ z3 ∧ z3 ≤ 6 := ⟨i0.1, by clear q4 hk hf i1 ht; grind⟩
      have ez : Int32.ofNat z3.toNatClampNeg = z3 := Int32.ofNat_toNatClampNeg z3 i0.1
      have no : ¬ NvP t (ro 5 x4_works) x4_workCount z3.toNatClampNeg → (0 ≤ z3 + 1 ∧ z3 + 1 ≤ x4_workCount) ∧ z2 = nvW (NvP t (ro 5 x4_works) x4_workCount) (z3 + 1).toNatClampNeg := by
        intro hh
        rw [p1, nvW_neg hh]
        exact ⟨⟨p0, hz1⟩, i1⟩
      refine Sf.bind (isDoneS h_x4_works hz6) (fun v52 e52 => ?_)
      refine Sf.ite (fun hv => ?_) (fun hv => ?_)
      · have hd : ro 5 x4_works z3.toNatClampNeg 4 = 0 := by
          refine Classical.byContradiction fun hn' => ?_
          rw [if_neg hn'] at e52
          rw [e52] at hv
          exact absurd hv (by decide)
        refine Sf.bind (Sf.and (sX0_alwaysCostsMore hn j1 j2 j3 h_x2_steps h_x2_nodes h_x2_stepCount h_x2_open h_x2_openCount j4 m1 m2 m3 m4 m5 m6 m7 m8 m9 h_x4_lineCount h_x4_goodsCount h_x4_workCount h_x4_years h_x4_lines h_x4_goods h_x4_works h_x4_change h_x4_coin) (alwaysC (x0_gained := x0_gained) (x1_left := x1_left) (x1_earned := x1_earned) (x1_turnCost := x1_turnCost) (x1_turnWayless := x1_turnWayless) hn j1 j2 j3 h_x2_steps h_x2_nodes h_x2_stepCount h_x2_open h_x2_openCount j4 m1 m2 m3 m4 m5 m6 m7 m8 m9 h_x4_lineCount h_x4_goodsCount h_x4_workCount h_x4_years h_x4_lines h_x4_goods h_x4_works h_x4_change h_x4_coin hf q4 ht hz6)) ?_
        rintro ⟨v54, ⟨g56, g57, g58, g59, g60, g61, g62, g63⟩, ⟨g65, g66, g67, g68, g69, g70, g71, g72, g73, g74⟩, ⟨g76, g77, g78, g79, g80⟩⟩ ⟨⟨b1, b2, b3, b4, b5, b6, b7, b8, b9, b10, b11, b12, b13, b14, b15, b16⟩, hA, r1, r2, r3, r4⟩
        have hA : (v54 = 0 ∧ ¬ NvA t (ro 5 x4_works) x4_workCount z3) ∨ (¬ v54 = 0 ∧ NvA t (ro 5 x4_works) x4_workCount z3) := hA
        try dsimp only [u8, u10, u5]
        refine Sf.ite (fun hle => ?_) (fun hle => ?_)
        · refine Sf.inl ⟨no (fun h => ?_), ⟨⟨b1, b2, b3, b4⟩, b5, b6, b7, b8, b9, b10, b11, b12, b13⟩, r1, r2, r3, r4⟩ (muUp_lt hc)
          have h2 := h.2
          rw [ez] at h2
          rcases hA with hA | hA
          · exact hA.2 h2
          · exact hA.1 hle
        · refine Sf.someb (fun t82 e82 => ?_)
          refine Sf.inl ⟨⟨⟨p0, hz1⟩, ?_⟩, ⟨⟨b1, b2, b3, b4⟩, b5, b6, b7, b8, b9, b10, b11, b12, b13⟩, r1, r2, r3, r4⟩ (muUp_lt hc)
          have hP : NvP t (ro 5 x4_works) x4_workCount z3.toNatClampNeg := by
            refine ⟨hd, ?_⟩
            rw [ez]
            rcases hA with hA | hA
            · exact absurd hA.1 hle
            · exact hA.2
          rw [p1, nvW_pos hP, ez, ← i1]
          exact e82
      · have hd : ¬ ro 5 x4_works z3.toNatClampNeg 4 = 0 := by
          intro hh
          rw [if_pos hh] at e52
          exact hv e52
        exact Sf.inl ⟨no (fun h => hd h.1), ⟨⟨j1, j2, j3, j4⟩, m1, m2, m3, m4, m5, m6, m7, m8, m9⟩, rfl, rfl, rfl, q4⟩ (muUp_lt hc)
    · exact ⟨⟨⟨(show (0 : Int32) ≤ 0 by decide), h_x4_workCount.1⟩, rfl⟩, ⟨⟨h_x2_edgeA, h_x2_edgeB, h_x2_edgeLine, h_x2_edgeCount⟩, h_x3_lineCount, h_x3_goodsCount, h_x3_workCount, h_x3_years, h_x3_lines, h_x3_goods, h_x3_works, h_x3_change, h_x3_coin⟩, rfl, rfl, rfl, hk⟩
  · rintro ⟨w29, w30, w31, w32, w33, w34, w35, w36, w37, w38, w39, w40, w41, w42, w43, w44, w45, w46, w47, w48, w49, w50, w51, w52⟩ h
    exact Sf.ok h
theorem doneR {n : Nat} {W : Int32} {work : Nat → Nat → Int32} (hn : 1000000000000 ≤ n) (hW : 0 ≤ W ∧ W ≤ 7) (hw : WkM work) : Sf (lp (u2 (fX7_never_s4 W work)) n (0, 0)) (fun r => ∀ k, k < 31 → (tq r k = true ↔ (k < W.toNatClampNeg ∧ work k 4 ≠ 0))) := by
  refine Sf.loop2 (fun (z2 z3 : Int32) => (0 ≤ z3 ∧ z3 ≤ W) ∧ ∀ k, k < 31 → (tq z2 k = true ↔ (k < z3.toNatClampNeg ∧ work k 4 ≠ 0))) (fun z2 z3 => muUp z3) (fun z2 z3 h => ?_) ⟨⟨Int32.le_refl 0, hW.1⟩, fun l hl => ?_⟩ (muUp_n hn)
  · obtain ⟨h0, h1⟩ := h
    unfold fX7_never_s4
    refine Sf.ite (fun hc => ?_) (fun hc => ?_)
    · have ez : z3 = W := Int32.le_antisymm h0.2 hc
      rw [ez] at h1
      exact Sf.inr h1
    · obtain ⟨p0, p1, p3⟩ := up1 h0.1 (Int32.le_trans hW.2 (by decide)) hc
      have hz1 : z3 + 1 ≤ W := by clear h1; grind
      have hi : 0 ≤ z3 ∧ z3 < 7 := ⟨h0.1, Int32.lt_of_lt_of_le p3 hW.2⟩
      have n7 : z3.toNatClampNeg < 7 := i32_lt (M := 7) rfl hi
      have ez3 : Int32.ofNat z3.toNatClampNeg = z3 := Int32.ofNat_toNatClampNeg z3 h0.1
      have hw4 : 0 ≤ work z3.toNatClampNeg 4 ∧ work z3.toNatClampNeg 4 ≤ 1 := hw.1 z3.toNatClampNeg 4
      refine Sf.ckb 7 rfl hi (fun q e _ => ?_)
      refine Sf.rdl 4 rfl rfl (fun v78 e78 => ?_)
      rw [e] at e78
      refine Sf.ite (fun hv => ?_) (fun hv => ?_)
      · have hd : work z3.toNatClampNeg 4 ≠ 0 := by
          rw [← e78, hv]
          decide
        refine Sf.someb (fun t8 e8 => ?_)
        refine Sf.inl (show (0 ≤ z3 + 1 ∧ z3 + 1 ≤ W) ∧ ∀ k, k < 31 → (tq t8 k = true ↔ (k < (z3 + 1).toNatClampNeg ∧ work k 4 ≠ 0)) from ⟨⟨p0, hz1⟩, fun k hk => ?_⟩) (muUp_lt hc)
        rw [e8, ← ez3, tq_set (by omega) k hk, ez3, p1, Bool.or_eq_true, decide_eq_true_eq, h1 k hk]
        constructor
        · rintro (⟨a, b⟩ | e)
          · exact ⟨by omega, b⟩
          · exact ⟨by omega, by rw [e]; exact hd⟩
        · rintro ⟨a, b⟩
          by_cases hz : k = z3.toNatClampNeg
          · exact Or.inr hz
          · exact Or.inl ⟨by omega, b⟩
      · have hd : work z3.toNatClampNeg 4 = 0 := by
          rw [e78] at hv
          clear h1 hw e78
          grind
        refine Sf.inl (show (0 ≤ z3 + 1 ∧ z3 + 1 ≤ W) ∧ ∀ k, k < 31 → (tq (z2 ||| 0) k = true ↔ (k < (z3 + 1).toNatClampNeg ∧ work k 4 ≠ 0)) from ⟨⟨p0, hz1⟩, fun k hk => ?_⟩) (muUp_lt hc)
        rw [tq_or, tq_zero, Bool.or_false, h1 k hk, p1]
        constructor
        · rintro ⟨a, b⟩
          exact ⟨by omega, b⟩
        · rintro ⟨a, b⟩
          refine ⟨?_, b⟩
          have : k ≠ z3.toNatClampNeg := fun e => b (by rw [e]; exact hd)
          omega
  · rw [tq_zero]
    constructor
    · intro h
      cases h
    · intro h
      exact absurd h.1 (Nat.not_lt_zero _)
/-- one work: in every set of others -/
theorem moreR {n : Nat} {W w5 k y : Int32} {work : Nat → Nat → Int32} {t w24 : Nat → Int32} (hn : 1000000000000 ≤ n) (hW : 0 ≤ W ∧ W ≤ 7) (hw : WkM work) (hk : 0 ≤ k ∧ k < W) (h5 : ∀ j, j < 31 → (tq w5 j = true ↔ (j < W.toNatClampNeg ∧ work j 4 ≠ 0))) (h24 : ∀ z : Int32, 0 ≤ z ∧ z < (1 : Int32) <<< (W &&& 31) → (z &&& w5) = 0 → w24 z.toNatClampNeg = t z.toNatClampNeg) (hy : (y = 1 ∧ work k.toNatClampNeg 4 = 0) ∨ (y = 0 ∧ ¬ work k.toNatClampNeg 4 = 0)) : Sf (lp (u2 (fX7_never_s112 W work w5 w24 k)) n (y, 0)) (fun r => (r = 1 ∧ NvP t work W k.toNatClampNeg) ∨ (r = 0 ∧ ¬ NvP t work W k.toNatClampNeg)) := by
  obtain ⟨w1, w2⟩ := pw2 hW
  have ek : Int32.ofNat k.toNatClampNeg = k := Int32.ofNat_toNatClampNeg k hk.1
  have hi : 0 ≤ k ∧ k < 7 := ⟨hk.1, Int32.lt_of_lt_of_le hk.2 hW.2⟩
  have hk6 : 0 ≤ k ∧ k ≤ 6 := ⟨hk.1, by have q := hi.2; clear h5 h24 hy hw; grind⟩
  have hk30 : 0 ≤ k ∧ k ≤ 30 := ⟨hk.1, Int32.le_trans hk6.2 (by decide)⟩
  have kn : k.toNatClampNeg < 7 := i32_lt (M := 7) rfl hi
  have knW : k.toNatClampNeg < W.toNatClampNeg := by
    have a := i32_cl hk.1
    have b := i32_cl hW.1
    have c := Int32.lt_iff_toInt_lt.mp hk.2
    omega
  have w7 := nlt (M := 7) (N := 7) rfl hW
  refine Sf.loop2 (fun (z48 z49 : Int32) => (0 ≤ z49) ∧ ((z48 = 1 ∧ work k.toNatClampNeg 4 = 0 ∧ ∀ z : Int32, 0 ≤ z ∧ z < z49 → NvC work W k.toNatClampNeg z → t z.toNatClampNeg < t (z ||| ((1 : Int32) <<< (k &&& 31))).toNatClampNeg) ∨ (z48 = 0 ∧ ¬ NvP t work W k.toNatClampNeg))) (fun z48 z49 => muUp z49) (fun z48 z49 h => ?_) ⟨Int32.le_refl 0, ?_⟩ (muUp_n hn)
  · obtain ⟨i0, i1⟩ := h
    unfold fX7_never_s112
    refine Sf.ite (fun hc => Sf.inr ?_) (fun hc => ?_)
    · rcases i1 with ⟨a, b, c⟩ | i1
      · refine Or.inl ⟨a, b, ?_⟩
        rw [ek]
        exact fun z hz => c z ⟨hz.1, Int32.lt_of_lt_of_le hz.2 hc⟩
      · exact Or.inr i1
    obtain ⟨⟨p0, p1⟩, hzN, hz127⟩ := upL i0 w2 hc
    have keep : (NvC work W k.toNatClampNeg z49 → work k.toNatClampNeg 4 = 0 → t z49.toNatClampNeg < t (z49 ||| ((1 : Int32) <<< (k &&& 31))).toNatClampNeg) → Sf (fX7_never_j186 z48 z49) (LQ (u2 (fun (z48 z49 : Int32) => (0 ≤ z49) ∧ ((z48 = 1 ∧ work k.toNatClampNeg 4 = 0 ∧ ∀ z : Int32, 0 ≤ z ∧ z < z49 → NvC work W k.toNatClampNeg z → t z.toNatClampNeg < t (z ||| ((1 : Int32) <<< (k &&& 31))).toNatClampNeg) ∨ (z48 = 0 ∧ ¬ NvP t work W k.toNatClampNeg)))) (u2 (fun (z48 z49 : Int32) => muUp z49)) (muUp z49) (fun r => (r = 1 ∧ NvP t work W k.toNatClampNeg) ∨ (r = 0 ∧ ¬ NvP t work W k.toNatClampNeg))) := by
      intro hh
      unfold fX7_never_j186
      refine Sf.inl (show (0 ≤ z49 + 1) ∧ ((z48 &&& 1 = 1 ∧ work k.toNatClampNeg 4 = 0 ∧ ∀ z : Int32, 0 ≤ z ∧ z < z49 + 1 → NvC work W k.toNatClampNeg z → t z.toNatClampNeg < t (z ||| ((1 : Int32) <<< (k &&& 31))).toNatClampNeg) ∨ (z48 &&& 1 = 0 ∧ ¬ NvP t work W k.toNatClampNeg)) from ⟨p0, ?_⟩) (muUp_lt hc)
      rcases i1 with ⟨a, b, c⟩ | ⟨a, b⟩
      · refine Or.inl ⟨by rw [a]; decide, b, fun z hz => ?_⟩
        rcases upN i0 w2 hc hz with h | h
        · exact c z ⟨hz.1, h⟩
        · rw [h]; exact fun hC => hh hC b
      · exact Or.inr ⟨by rw [a]; decide, b⟩
    have hdz : (z49 &&& w5) = 0 → ∀ j, j < W.toNatClampNeg → ¬ work j 4 = 0 → tq z49 j = false := fun hz j hj hd => (and0_iff hz127).mp hz j (by omega) ((h5 j (by omega)).mpr ⟨hj, hd⟩)
    refine Sf.ite (fun hb => ?_) (fun hb => ?_)
    · refine Sf.ite (fun hb2 => ?_) (fun hb2 => ?_)
      · have hC : NvC work W k.toNatClampNeg z49 := ⟨hdz hb, (bit_at hk30).mp hb2⟩
        unfold fX7_never_j144
        rw [if_neg (show ¬ (1 : Int32) = 0 by decide)]
        refine Sf.ckb 7 rfl hi (fun q e _ => ?_)
        refine Sf.rdl 4 rfl rfl (fun v55 e55 => ?_)
        rw [e] at e55
        refine Sf.ite (fun hv => keep (fun _ hd => ?_)) (fun hv => ?_)
        · rw [← e55, hv] at hd
          exact absurd hd (by decide)
        have oN := or_lt hz127 hk6 hW hk.2 hzN.2
        have oR := or_rng hz127 hk6
        have o0 : ((z49 ||| ((1 : Int32) <<< (k &&& 31))) &&& w5) = 0 ∨ ¬ work k.toNatClampNeg 4 = 0 := by
          by_cases hd : work k.toNatClampNeg 4 = 0
          · refine Or.inl ((and0_iff oR).mpr (fun u hu hm => ?_))
            have q := (h5 u (by omega)).mp hm
            rw [tq_or, tq_one hk30 u (by omega), hdz hb u q.1 q.2, Bool.false_or, decide_eq_false_iff_not]
            intro e
            rw [e] at q
            exact q.2 hd
          · exact Or.inr hd
        refine Sf.rdb 128 rfl ⟨oR.1, Int32.lt_of_le_of_lt oR.2 (by decide)⟩ (fun v56 e56 => ?_)
        refine Sf.rdb 128 rfl ⟨hz127.1, Int32.lt_of_le_of_lt hz127.2 (by decide)⟩ (fun v57 e57 => ?_)
        rw [h24 _ hzN hb] at e57
        refine Sf.ite (fun hle => ?_) (fun hle => keep (fun _ hd => ?_))
        · refine Sf.inl (show (0 ≤ z49 + 1) ∧ ((z48 &&& 0 = 1 ∧ work k.toNatClampNeg 4 = 0 ∧ ∀ z : Int32, 0 ≤ z ∧ z < z49 + 1 → NvC work W k.toNatClampNeg z → t z.toNatClampNeg < t (z ||| ((1 : Int32) <<< (k &&& 31))).toNatClampNeg) ∨ (z48 &&& 0 = 0 ∧ ¬ NvP t work W k.toNatClampNeg)) from ⟨p0, Or.inr ⟨Int32.and_zero, ?_⟩⟩) (muUp_lt hc)
          rintro ⟨hd, hA⟩
          rw [ek] at hA
          rcases o0 with o0 | o0
          · rw [h24 _ ⟨oR.1, oN⟩ o0] at e56
            have q := hA z49 hzN hC
            rw [← e56, ← e57] at q
            exact Int32.not_lt.mpr hle q
          · exact o0 hd
        · rcases o0 with o0 | o0
          · rw [h24 _ ⟨oR.1, oN⟩ o0] at e56
            rw [← e56, ← e57]
            exact Int32.not_le.mp hle
          · exact absurd hd o0
      · unfold fX7_never_j143 fX7_never_j144
        rw [if_pos rfl]
        refine keep (fun hC _ => absurd ((bit_at hk30).mpr hC.2) hb2)
    · unfold fX7_never_j143 fX7_never_j144
      rw [if_pos rfl]
      refine keep (fun hC _ => absurd ((and0_iff hz127).mpr (fun u hu hm => ?_)) hb)
      have q := (h5 u (by omega)).mp hm
      exact hC.1 u q.1 q.2
  · rcases hy with ⟨a, b⟩ | ⟨a, b⟩
    · exact Or.inl ⟨a, b, fun z hz => absurd hz.2 (Int32.not_lt.mpr hz.1)⟩
    · exact Or.inr ⟨a, fun h => b h.1⟩
theorem neverR {n : Nat} {x0_shelf : (Nat → Int32)} {x0_rowSort : (Nat → Int32)} {x0_rowSize : (Nat → Int32)} {x0_rows : (Nat → Nat → Int64)} {x0_moved : (Nat → Int64)} {x0_shown : (Nat → Int32)} {x0_tape : (Nat → Int32)} {x0_tapeSize : Int32} {x0_refused : (Nat → Int32)} {x0_lines : Int32} {x0_line : (Nat → Nat → Int32)} {x0_changes : (Nat → Int32)} {x0_coins : (Nat → Int32)} {x0_goods : Int32} {x0_good : (Nat → Nat → Int32)} {x0_works : Int32} {x0_work : (Nat → Nat → Int32)} {x0_years : Int32} {x0_gone : Int32} {x0_spent : Int32} {x0_at : Int32} {x0_token : Int32} {x0_from : Int32} {x0_figures : Int64} {x0_fault : Int32} {x0_numbers : (Nat → Int32)} {x0_statements : Int32} {x0_left : (Nat → Int32)} {x0_far : (Nat → Int32)} {x0_tons : Int32} {x0_way : (Nat → Int32)} {x0_steps : Int32} {x0_met : Int64} {x0_queue : (Nat → Int32)} {x0_totals : (Nat → Int32)} {x1_shelf : (Nat → Int32)} {x1_rowSort : (Nat → Int32)} {x1_rowSize : (Nat → Int32)} {x1_rows : (Nat → Nat → Int64)} {x1_moved : (Nat → Int64)} {x1_shown : (Nat → Int32)} {x1_tape : (Nat → Int32)} {x1_tapeSize : Int32} {x1_refused : (Nat → Int32)} {x1_lines : Int32} {x1_line : (Nat → Nat → Int32)} {x1_changes : (Nat → Int32)} {x1_coins : (Nat → Int32)} {x1_goods : Int32} {x1_good : (Nat → Nat → Int32)} {x1_works : Int32} {x1_work : (Nat → Nat → Int32)} {x1_years : Int32} {x1_gone : Int32} {x1_spent : Int32} {x1_at : Int32} {x1_token : Int32} {x1_from : Int32} {x1_figures : Int64} {x1_fault : Int32} {x1_numbers : (Nat → Int32)} {x1_statements : Int32} {x1_left : (Nat → Int32)} {x1_far : (Nat → Int32)} {x1_tons : Int32} {x1_way : (Nat → Int32)} {x1_steps : Int32} {x1_met : Int64} {x1_queue : (Nat → Int32)} {x1_totals : (Nat → Int32)} (hn : 1000000000000 ≤ n) (h_x0_shelf : (AI 0 2 x0_shelf)) (h_x0_rowSize : (AI 0 40 x0_rowSize)) (h_x0_tapeSize : (0 ≤ x0_tapeSize ∧ x0_tapeSize ≤ 250)) (h_x0_lines : (0 ≤ x0_lines ∧ x0_lines ≤ 20)) (h_x0_line : (LnM x0_line)) (h_x0_changes : (AI 0 99 x0_changes)) (h_x0_coins : (AI 0 9 x0_coins)) (h_x0_goods : (0 ≤ x0_goods ∧ x0_goods ≤ 8)) (h_x0_good : (GdM x0_good)) (h_x0_works : (0 ≤ x0_works ∧ x0_works ≤ 7)) (h_x0_work : (WkM x0_work)) (h_x0_years : (1 ≤ x0_years ∧ x0_years ≤ 30)) (h_x0_from : (0 ≤ x0_from ∧ x0_from ≤ 250)) (h_x0_far : (AI 0 1000000000 x0_far)) (h_x0_way : (AI 0 22 x0_way)) (h_x0_steps : (0 ≤ x0_steps ∧ x0_steps ≤ 37)) (h_x0_queue : (AI 0 35 x0_queue)) (h_x1_shelf : (AI 0 2 x1_shelf)) (h_x1_rowSize : (AI 0 40 x1_rowSize)) (h_x1_tapeSize : (0 ≤ x1_tapeSize ∧ x1_tapeSize ≤ 250)) (h_x1_lines : (0 ≤ x1_lines ∧ x1_lines ≤ 20)) (h_x1_line : (LnM x1_line)) (h_x1_changes : (AI 0 99 x1_changes)) (h_x1_coins : (AI 0 9 x1_coins)) (h_x1_goods : (0 ≤ x1_goods ∧ x1_goods ≤ 8)) (h_x1_good : (GdM x1_good)) (h_x1_works : (0 ≤ x1_works ∧ x1_works ≤ 7)) (h_x1_work : (WkM x1_work)) (h_x1_years : (1 ≤ x1_years ∧ x1_years ≤ 30)) (h_x1_from : (0 ≤ x1_from ∧ x1_from ≤ 250)) (h_x1_far : (AI 0 1000000000 x1_far)) (h_x1_way : (AI 0 22 x1_way)) (h_x1_steps : (0 ≤ x1_steps ∧ x1_steps ≤ 37)) (h_x1_queue : (AI 0 35 x1_queue)) (hf : ∀ k, k < x0_works.toNatClampNeg → Wf1 x0_work x0_lines k) {t : Nat → Int32} (ht : ∀ z : Int32, 0 ≤ z → TotA (x0_lines, x0_line, x0_changes) x0_coins x0_good x0_goods x0_work x0_works x0_years z = t z.toNatClampNeg) : Sf (fX7_never n (x0_shelf, x0_rowSort, x0_rowSize, x0_rows, x0_moved, x0_shown, x0_tape, x0_tapeSize, x0_refused, x0_lines, x0_line, x0_changes, x0_coins, x0_goods, x0_good, x0_works, x0_work, x0_years, x0_gone, x0_spent, x0_at, x0_token, x0_from, x0_figures, x0_fault, x0_numbers, x0_statements, x0_left, x0_far, x0_tons, x0_way, x0_steps, x0_met, x0_queue, x0_totals) (x1_shelf, x1_rowSort, x1_rowSize, x1_rows, x1_moved, x1_shown, x1_tape, x1_tapeSize, x1_refused, x1_lines, x1_line, x1_changes, x1_coins, x1_goods, x1_good, x1_works, x1_work, x1_years, x1_gone, x1_spent, x1_at, x1_token, x1_from, x1_figures, x1_fault, x1_numbers, x1_statements, x1_left, x1_far, x1_tons, x1_way, x1_steps, x1_met, x1_queue, x1_totals)) (fun r => r.1 = nvW (NvP t x0_work x0_works) x0_works.toNatClampNeg) := by
  obtain ⟨w1, w2⟩ := pw2 h_x0_works
  unfold fX7_never
  dsimp only [u35]
  refine Sf.bind (doneR hn h_x0_works h_x0_work) (fun w5 h5 => ?_)
  refine Sf.bind (P := fun r => ∀ z : Int32, 0 ≤ z ∧ z < (1 : Int32) <<< (x0_works &&& 31) → (z &&& w5) = 0 → r.1 z.toNatClampNeg = t z.toNatClampNeg) ?_ ?_
  · refine Sf.loop16 (fun z7 z8 z9 z10 z11 z12 z13 z14 z15 z16 z17 z18 z19 z20 z21 z22 => (0 ≤ z7 ∧ ∀ z : Int32, 0 ≤ z ∧ z < z7 → (z &&& w5) = 0 → z8 z.toNatClampNeg = t z.toNatClampNeg) ∧ (0 ≤ z9 ∧ z9 ≤ 20) ∧ LnM z10 ∧ AI 0 99 z11 ∧ AI 0 9 z12 ∧ (0 ≤ z13 ∧ z13 ≤ 8) ∧ GdM z14 ∧ (0 ≤ z15 ∧ z15 ≤ 7) ∧ WkM z16 ∧ (1 ≤ z17 ∧ z17 ≤ 30) ∧ AI 0 1000000000 z21) (fun z7 z8 z9 z10 z11 z12 z13 z14 z15 z16 z17 z18 z19 z20 z21 z22 => muUp z7) (fun z7 z8 z9 z10 z11 z12 z13 z14 z15 z16 z17 z18 z19 z20 z21 z22 h => ?_) ?_ (muUp_n hn)
    · obtain ⟨⟨i0, i1⟩, m1, m2, m3, m4, m5, m6, m7, m8, m9, m10⟩ := h
      unfold fX7_never_s42
      refine Sf.ite (fun hc => Sf.inr ?_) (fun hc => ?_)
      · exact fun z hz => i1 z ⟨hz.1, Int32.lt_of_lt_of_le hz.2 hc⟩
      obtain ⟨⟨p0, p1⟩, hzN, hz127⟩ := upL i0 w2 hc
      have step : ∀ (f : Nat → Int32) (x : Int32), f = va_up z8 z7.toNatClampNeg x → ((z7 &&& w5) = 0 → x = t z7.toNatClampNeg) → 0 ≤ z7 + 1 ∧ ∀ z : Int32, 0 ≤ z ∧ z < z7 + 1 → (z &&& w5) = 0 → f z.toNatClampNeg = t z.toNatClampNeg := by
        intro f x ef hx
        refine ⟨p0, fun z hz hz5 => ?_⟩
        rw [ef]
        rcases upN i0 w2 hc hz with h | h
        · rw [va_ne _ _ (fun e => by
            have a := i32_cl hz.1
            have b := i32_cl i0
            have c := Int32.lt_iff_toInt_lt.mp h
            omega)]
          exact i1 z ⟨hz.1, h⟩ hz5
        · rw [h] at hz5 ⊢
          rw [va_eq]
          exact hx hz5
      refine Sf.ite (fun hb => ?_) (fun hb => ?_)
      · refine Sf.bind (Sf.and (sX7_totalOf hn h_x0_shelf h_x0_rowSize h_x0_tapeSize h_x0_lines h_x0_line h_x0_changes h_x0_coins h_x0_goods h_x0_good h_x0_works h_x0_work h_x0_years h_x0_from h_x0_far h_x0_way h_x0_steps h_x0_queue h_x1_shelf h_x1_rowSize h_x1_tapeSize m1 m2 m3 m4 m5 m6 m7 m8 m9 h_x1_from m10 h_x1_way h_x1_steps h_x1_queue) (totalOfR hn h_x0_shelf h_x0_rowSize h_x0_tapeSize h_x0_lines h_x0_line h_x0_changes h_x0_coins h_x0_goods h_x0_good h_x0_works h_x0_work h_x0_years h_x0_from h_x0_far h_x0_way h_x0_steps h_x0_queue h_x1_shelf h_x1_rowSize h_x1_tapeSize m1 m2 m3 m4 m5 m6 m7 m8 m9 h_x1_from m10 h_x1_way h_x1_steps h_x1_queue hf)) ?_
        rintro ⟨v59, g61, g62, g63, g64, g65, g66, g67, g68, g69, g70, g71, g72, g73, g74⟩ ⟨⟨b1, b2, b3, b4, b5, b6, b7, b8, b9, b10⟩, e59⟩
        have e59 : v59 = t z7.toNatClampNeg := e59.trans (ht _ i0)
        try dsimp only [u14]
        refine Sf.wrb 128 rfl ⟨hz127.1, Int32.lt_of_le_of_lt hz127.2 (by decide)⟩ (fun f76 e76 => ?_)
        exact Sf.inl ⟨step f76 v59 e76 (fun _ => e59), b1, b2, b3, b4, b5, b6, b7, b8, b9, b10⟩ (muUp_lt hc)
      · refine Sf.wrb 128 rfl ⟨hz127.1, Int32.lt_of_le_of_lt hz127.2 (by decide)⟩ (fun f58 e58 => ?_)
        exact Sf.inl ⟨step f58 0 e58 (fun h => absurd h hb), m1, m2, m3, m4, m5, m6, m7, m8, m9, m10⟩ (muUp_lt hc)
    · exact ⟨⟨(show (0 : Int32) ≤ 0 by decide), fun z hz => absurd hz.2 (Int32.not_lt.mpr hz.1)⟩, h_x1_lines, h_x1_line, h_x1_changes, h_x1_coins, h_x1_goods, h_x1_good, h_x1_works, h_x1_work, h_x1_years, h_x1_far⟩
  · rintro ⟨w24, w25, w26, w27, w28, w29, w30, w31, w32, w33, w34, w35, w36, w37, w38⟩ h24
    have h24 : ∀ z : Int32, 0 ≤ z ∧ z < (1 : Int32) <<< (x0_works &&& 31) → (z &&& w5) = 0 → w24 z.toNatClampNeg = t z.toNatClampNeg := h24
    try dsimp only [u15]
    refine Sf.bind (P := fun r => r = nvW (NvP t x0_work x0_works) x0_works.toNatClampNeg) ?_ (fun r h => Sf.ok h)
    refine Sf.loop2 (fun (z40 z41 : Int32) => (0 ≤ z41 ∧ z41 ≤ x0_works) ∧ z40 = nvW (NvP t x0_work x0_works) z41.toNatClampNeg) (fun z40 z41 => muUp z41) (fun z40 z41 h => ?_) (show (0 ≤ (0 : Int32) ∧ (0 : Int32) ≤ x0_works) ∧ (0 : Int32) = nvW (NvP t x0_work x0_works) (0 : Int32).toNatClampNeg from ⟨⟨by decide, h_x0_works.1⟩, rfl⟩) (muUp_n hn)
    obtain ⟨i0, i1⟩ := h
    unfold fX7_never_s83
    refine Sf.ite (fun hc => Sf.inr ?_) (fun hc => ?_)
    · have e : z41 = x0_works := Int32.le_antisymm i0.2 hc
      rw [e] at i1
      exact i1
    obtain ⟨p0, p1, p3⟩ := up1 i0.1 (Int32.le_trans h_x0_works.2 (by decide)) hc
    have hz1 : z41 + 1 ≤ x0_works := by clear h5 h24 hf i1 ht; grind
    have hi : 0 ≤ z41 ∧ z41 < 7 := ⟨i0.1, Int32.lt_of_lt_of_le p3 h_x0_works.2⟩
    have ez : Int32.ofNat z41.toNatClampNeg = z41 := Int32.ofNat_toNatClampNeg z41 i0.1
    have j107 : ∀ y : Int32, ((y = 1 ∧ x0_work z41.toNatClampNeg 4 = 0) ∨ (y = 0 ∧ ¬ x0_work z41.toNatClampNeg 4 = 0)) → Sf (fX7_never_j107 n x0_works x0_work w5 w24 z40 z41 y) (LQ (u2 (fun (z40 z41 : Int32) => (0 ≤ z41 ∧ z41 ≤ x0_works) ∧ z40 = nvW (NvP t x0_work x0_works) z41.toNatClampNeg)) (u2 (fun (z40 z41 : Int32) => muUp z41)) (muUp z41) (fun r => r = nvW (NvP t x0_work x0_works) x0_works.toNatClampNeg)) := by
      intro y hy
      unfold fX7_never_j107
      refine Sf.bind (moreR (t := t) hn h_x0_works h_x0_work ⟨i0.1, p3⟩ h5 h24 hy) (fun w51 h51 => ?_)
      refine Sf.ite (fun hw => ?_) (fun hw => ?_)
      · have hP : ¬ NvP t x0_work x0_works z41.toNatClampNeg := by
          rcases h51 with h51 | h51
          · rw [h51.1] at hw; exact absurd hw (by decide)
          · exact h51.2
        refine Sf.inl (show (0 ≤ z41 + 1 ∧ z41 + 1 ≤ x0_works) ∧ z40 ||| 0 = nvW (NvP t x0_work x0_works) (z41 + 1).toNatClampNeg from ⟨⟨p0, hz1⟩, ?_⟩) (muUp_lt hc)
        rw [p1, nvW_neg hP, ← i1, Int32.or_zero]
      · have hP : NvP t x0_work x0_works z41.toNatClampNeg := by
          rcases h51 with h51 | h51
          · exact h51.2
          · exact absurd h51.1 hw
        refine Sf.someb (fun t52 e52 => ?_)
        refine Sf.inl (show (0 ≤ z41 + 1 ∧ z41 + 1 ≤ x0_works) ∧ t52 = nvW (NvP t x0_work x0_works) (z41 + 1).toNatClampNeg from ⟨⟨p0, hz1⟩, ?_⟩) (muUp_lt hc)
        rw [p1, nvW_pos hP, ← i1, ez]
        exact e52
    refine Sf.ckb 7 rfl hi (fun q44 e44 _ => ?_)
    refine Sf.rdl 4 rfl rfl (fun v45 e45 => ?_)
    rw [e44] at e45
    refine Sf.ite (fun hv => j107 1 (Or.inl ⟨rfl, by rw [← e45]; exact hv⟩)) (fun hv => j107 0 (Or.inr ⟨rfl, by rw [← e45]; exact hv⟩))
theorem NvP_congr {t : Nat → Int32} {work work' : Nat → Nat → Int32} {W : Int32} {k : Nat} (hk : k < W.toNatClampNeg) (h : ∀ j, j < W.toNatClampNeg → work j 4 = work' j 4) : NvP t work W k ↔ NvP t work' W k := by
  have c : ∀ z q, NvC work W q z ↔ NvC work' W q z := by
    intro z q
    unfold NvC
    constructor
    · rintro ⟨a, b⟩
      exact ⟨fun j hj hd => a j hj (by rw [h j hj]; exact hd), b⟩
    · rintro ⟨a, b⟩
      exact ⟨fun j hj hd => a j hj (by rw [← h j hj]; exact hd), b⟩
  unfold NvP NvA
  rw [h k hk]
  constructor
  · rintro ⟨a, b⟩
    exact ⟨a, fun z hz hC => b z hz ((c _ _).mpr hC)⟩
  · rintro ⟨a, b⟩
    exact ⟨a, fun z hz hC => b z hz ((c _ _).mp hC)⟩
theorem neverC {n : Nat} {x0_refused : (Nat → Int32)} {x0_isKept : Int32} {x0_gone : Int32} {x0_spent : Int32} {x1_gained : Nat → Int32} {x2_lineCount : Int32} {x2_goodsCount : Int32} {x2_workCount : Int32} {x2_years : Int32} {x2_lines : (Nat → Int32)} {x2_goods : (Nat → Int32)} {x2_works : (Nat → Int32)} {x2_change : (Nat → Int32)} {x2_coin : (Nat → Int32)} {x2_knownFree : (Nat → Int32)} {x2_isKnown : Int32} {x3_lineCount : Int32} {x3_goodsCount : Int32} {x3_workCount : Int32} {x3_years : Int32} {x3_lines : (Nat → Int32)} {x3_goods : (Nat → Int32)} {x3_works : (Nat → Int32)} {x3_change : (Nat → Int32)} {x3_coin : (Nat → Int32)} {x3_knownFree : (Nat → Int32)} {x3_isKnown : Int32} {x4_left : (Nat → Int32)} {x4_earned : (Nat → Int32)} {x4_turnCost : Int32} {x4_turnWayless : Int32} {x5_edgeA : (Nat → Int32)} {x5_edgeB : (Nat → Int32)} {x5_edgeCost : (Nat → Int32)} {x5_edgeLine : (Nat → Int32)} {x5_change : (Nat → Int32)} {x5_away : (Nat → Int32)} {x5_steps : (Nat → Int32)} {x5_nodes : (Nat → Int32)} {x5_stepCount : Int32} {x5_open : (Nat → Int32)} {x5_openCount : Int32} {x5_seen : Int64} {x5_edgeCount : Int32} {x5_aim : Int32} (hn : 1000000000000 ≤ n) (h_x2_lineCount : (0 ≤ x2_lineCount ∧ x2_lineCount ≤ 20)) (h_x2_goodsCount : (0 ≤ x2_goodsCount ∧ x2_goodsCount ≤ 8)) (h_x2_workCount : (0 ≤ x2_workCount ∧ x2_workCount ≤ 7)) (h_x2_years : (1 ≤ x2_years ∧ x2_years ≤ 30)) (h_x2_lines : (LnOk x2_lines)) (h_x2_goods : (GdOk x2_goods)) (h_x2_works : (WkOk x2_works)) (h_x2_change : (AI 0 99 x2_change)) (h_x2_coin : (AI 0 9 x2_coin)) (h_x3_lineCount : (0 ≤ x3_lineCount ∧ x3_lineCount ≤ 20)) (h_x3_goodsCount : (0 ≤ x3_goodsCount ∧ x3_goodsCount ≤ 8)) (h_x3_workCount : (0 ≤ x3_workCount ∧ x3_workCount ≤ 7)) (h_x3_years : (1 ≤ x3_years ∧ x3_years ≤ 30)) (h_x3_lines : (LnOk x3_lines)) (h_x3_goods : (GdOk x3_goods)) (h_x3_works : (WkOk x3_works)) (h_x3_change : (AI 0 99 x3_change)) (h_x3_coin : (AI 0 9 x3_coin)) (h_x5_edgeA : (AI 0 35 x5_edgeA)) (h_x5_edgeB : (AI 0 35 x5_edgeB)) (h_x5_edgeLine : (AI 0 19 x5_edgeLine)) (h_x5_steps : (AI 0 22 x5_steps)) (h_x5_nodes : (AI 0 35 x5_nodes)) (h_x5_stepCount : (0 ≤ x5_stepCount ∧ x5_stepCount ≤ 36)) (h_x5_open : (AI 0 35 x5_open)) (h_x5_openCount : (0 ≤ x5_openCount ∧ x5_openCount ≤ 36)) (h_x5_edgeCount : (0 ≤ x5_edgeCount ∧ x5_edgeCount ≤ 60)) (hf : ∀ k, k < x3_workCount.toNatClampNeg → Wf1 (ro 5 x3_works) x3_lineCount k) (hk : Kn (FrS x3_lineCount (ro 7 x3_lines) x3_change x3_coin (ro 3 x3_goods) x3_goodsCount (ro 5 x3_works) x3_workCount) x3_knownFree x3_isKnown) {t : Nat → Int32} (ht : ∀ z : Int32, 0 ≤ z → TotA (x3_lineCount, ro 7 x3_lines, x3_change) x3_coin (ro 3 x3_goods) x3_goodsCount (ro 5 x3_works) x3_workCount x3_years z = t z.toNatClampNeg) : Sf (fX6_never n (x0_refused, x0_isKept, x0_gone, x0_spent) x1_gained (x2_lineCount, x2_goodsCount, x2_workCount, x2_years, x2_lines, x2_goods, x2_works, x2_change, x2_coin, x2_knownFree, x2_isKnown) (x3_lineCount, x3_goodsCount, x3_workCount, x3_years, x3_lines, x3_goods, x3_works, x3_change, x3_coin, x3_knownFree, x3_isKnown) (x4_left, x4_earned, x4_turnCost, x4_turnWayless) (x5_edgeA, x5_edgeB, x5_edgeCost, x5_edgeLine, x5_change, x5_away, x5_steps, x5_nodes, x5_stepCount, x5_open, x5_openCount, x5_seen, x5_edgeCount, x5_aim)) (fun r => r.1 = nvW (NvP t (ro 5 x3_works) x3_workCount) x3_workCount.toNatClampNeg) := by
  unfold fX6_never
  dsimp only [u4, u14, u11]
  refine Sf.bind (neverOfC hn h_x5_edgeA h_x5_edgeB h_x5_edgeLine h_x5_steps h_x5_nodes h_x5_stepCount h_x5_open h_x5_openCount h_x5_edgeCount h_x2_lineCount h_x2_goodsCount h_x2_workCount h_x2_years h_x2_lines h_x2_goods h_x2_works h_x2_change h_x2_coin h_x3_lineCount h_x3_goodsCount h_x3_workCount h_x3_years h_x3_lines h_x3_goods h_x3_works h_x3_change h_x3_coin hf hk ht) ?_
  rintro ⟨v1, ⟨g3, g4, g5, g6, g7, g8, g9, g10⟩, ⟨g12, g13, g14, g15, g16, g17, g18, g19, g20, g21⟩, ⟨g23, g24, g25, g26, g27⟩⟩ e
  exact Sf.ok e
theorem dNever {n : Nat} {x0_refused : (Nat → Int32)} {x0_isKept : Int32} {x0_gone : Int32} {x0_spent : Int32} {x1_gained : Nat → Int32} {x2_lineCount : Int32} {x2_goodsCount : Int32} {x2_workCount : Int32} {x2_years : Int32} {x2_lines : (Nat → Int32)} {x2_goods : (Nat → Int32)} {x2_works : (Nat → Int32)} {x2_change : (Nat → Int32)} {x2_coin : (Nat → Int32)} {x2_knownFree : (Nat → Int32)} {x2_isKnown : Int32} {x3_lineCount : Int32} {x3_goodsCount : Int32} {x3_workCount : Int32} {x3_years : Int32} {x3_lines : (Nat → Int32)} {x3_goods : (Nat → Int32)} {x3_works : (Nat → Int32)} {x3_change : (Nat → Int32)} {x3_coin : (Nat → Int32)} {x3_knownFree : (Nat → Int32)} {x3_isKnown : Int32} {x4_left : (Nat → Int32)} {x4_earned : (Nat → Int32)} {x4_turnCost : Int32} {x4_turnWayless : Int32} {x5_edgeA : (Nat → Int32)} {x5_edgeB : (Nat → Int32)} {x5_edgeCost : (Nat → Int32)} {x5_edgeLine : (Nat → Int32)} {x5_change : (Nat → Int32)} {x5_away : (Nat → Int32)} {x5_steps : (Nat → Int32)} {x5_nodes : (Nat → Int32)} {x5_stepCount : Int32} {x5_open : (Nat → Int32)} {x5_openCount : Int32} {x5_seen : Int64} {x5_edgeCount : Int32} {x5_aim : Int32} {m_shelf : (Nat → Int32)} {m_rowSort : (Nat → Int32)} {m_rowSize : (Nat → Int32)} {m_rows : (Nat → Nat → Int64)} {m_moved : (Nat → Int64)} {m_shown : (Nat → Int32)} {m_tape : (Nat → Int32)} {m_tapeSize : Int32} {m_refused : (Nat → Int32)} {m_lines : Int32} {m_line : (Nat → Nat → Int32)} {m_changes : (Nat → Int32)} {m_coins : (Nat → Int32)} {m_goods : Int32} {m_good : (Nat → Nat → Int32)} {m_works : Int32} {m_work : (Nat → Nat → Int32)} {m_years : Int32} {m_gone : Int32} {m_spent : Int32} {m_at : Int32} {m_token : Int32} {m_from : Int32} {m_figures : Int64} {m_fault : Int32} {m_numbers : (Nat → Int32)} {m_statements : Int32} {m_left : (Nat → Int32)} {m_far : (Nat → Int32)} {m_tons : Int32} {m_way : (Nat → Int32)} {m_steps : Int32} {m_met : Int64} {m_queue : (Nat → Int32)} {m_totals : (Nat → Int32)} {t_shelf : (Nat → Int32)} {t_rowSort : (Nat → Int32)} {t_rowSize : (Nat → Int32)} {t_rows : (Nat → Nat → Int64)} {t_moved : (Nat → Int64)} {t_shown : (Nat → Int32)} {t_tape : (Nat → Int32)} {t_tapeSize : Int32} {t_refused : (Nat → Int32)} {t_lines : Int32} {t_line : (Nat → Nat → Int32)} {t_changes : (Nat → Int32)} {t_coins : (Nat → Int32)} {t_goods : Int32} {t_good : (Nat → Nat → Int32)} {t_works : Int32} {t_work : (Nat → Nat → Int32)} {t_years : Int32} {t_gone : Int32} {t_spent : Int32} {t_at : Int32} {t_token : Int32} {t_from : Int32} {t_figures : Int64} {t_fault : Int32} {t_numbers : (Nat → Int32)} {t_statements : Int32} {t_left : (Nat → Int32)} {t_far : (Nat → Int32)} {t_tons : Int32} {t_way : (Nat → Int32)} {t_steps : Int32} {t_met : Int64} {t_queue : (Nat → Int32)} {t_totals : (Nat → Int32)} {er fr : Int32} {A6 : (Int32 × Int32 × Int32 × Int32 × (Nat → Int32) × (Nat → Int32) × (Nat → Int32) × (Nat → Int32) × (Nat → Int32) × Int32) × (Int32 × (Nat → Int32) × (Nat → Int32) × (Nat → Int32) × Int32) × ((Nat → Int32) × (Nat → Int32) × (Nat → Int32) × (Nat → Int32) × (Nat → Int32) × (Nat → Int32) × Int32 × Int32)} {B6 : (Nat → Int32) × (Int32 × (Nat → Nat → Int32) × (Nat → Int32) × (Nat → Int32) × Int32 × (Nat → Nat → Int32) × Int32 × (Nat → Nat → Int32) × Int32 × Int32 × Int32 × (Nat → Int32) × (Nat → Int32) × Int32)} (hn : 1000000000000 ≤ n) (h_x2_lineCount : (0 ≤ x2_lineCount ∧ x2_lineCount ≤ 20)) (h_x2_goodsCount : (0 ≤ x2_goodsCount ∧ x2_goodsCount ≤ 8)) (h_x2_workCount : (0 ≤ x2_workCount ∧ x2_workCount ≤ 7)) (h_x2_years : (1 ≤ x2_years ∧ x2_years ≤ 30)) (h_x2_lines : (LnOk x2_lines)) (h_x2_goods : (GdOk x2_goods)) (h_x2_works : (WkOk x2_works)) (h_x2_change : (AI 0 99 x2_change)) (h_x2_coin : (AI 0 9 x2_coin)) (h_x3_lineCount : (0 ≤ x3_lineCount ∧ x3_lineCount ≤ 20)) (h_x3_goodsCount : (0 ≤ x3_goodsCount ∧ x3_goodsCount ≤ 8)) (h_x3_workCount : (0 ≤ x3_workCount ∧ x3_workCount ≤ 7)) (h_x3_years : (1 ≤ x3_years ∧ x3_years ≤ 30)) (h_x3_lines : (LnOk x3_lines)) (h_x3_goods : (GdOk x3_goods)) (h_x3_works : (WkOk x3_works)) (h_x3_change : (AI 0 99 x3_change)) (h_x3_coin : (AI 0 9 x3_coin)) (h_x5_edgeA : (AI 0 35 x5_edgeA)) (h_x5_edgeB : (AI 0 35 x5_edgeB)) (h_x5_edgeLine : (AI 0 19 x5_edgeLine)) (h_x5_steps : (AI 0 22 x5_steps)) (h_x5_nodes : (AI 0 35 x5_nodes)) (h_x5_stepCount : (0 ≤ x5_stepCount ∧ x5_stepCount ≤ 36)) (h_x5_open : (AI 0 35 x5_open)) (h_x5_openCount : (0 ≤ x5_openCount ∧ x5_openCount ≤ 36)) (h_x5_edgeCount : (0 ≤ x5_edgeCount ∧ x5_edgeCount ≤ 60)) (h_m_shelf : (AI 0 2 m_shelf)) (h_m_rowSize : (AI 0 40 m_rowSize)) (h_m_tapeSize : (0 ≤ m_tapeSize ∧ m_tapeSize ≤ 250)) (h_m_lines : (0 ≤ m_lines ∧ m_lines ≤ 20)) (h_m_line : (LnM m_line)) (h_m_changes : (AI 0 99 m_changes)) (h_m_coins : (AI 0 9 m_coins)) (h_m_goods : (0 ≤ m_goods ∧ m_goods ≤ 8)) (h_m_good : (GdM m_good)) (h_m_works : (0 ≤ m_works ∧ m_works ≤ 7)) (h_m_work : (WkM m_work)) (h_m_years : (1 ≤ m_years ∧ m_years ≤ 30)) (h_m_from : (0 ≤ m_from ∧ m_from ≤ 250)) (h_m_far : (AI 0 1000000000 m_far)) (h_m_way : (AI 0 22 m_way)) (h_m_steps : (0 ≤ m_steps ∧ m_steps ≤ 37)) (h_m_queue : (AI 0 35 m_queue)) (h_t_shelf : (AI 0 2 t_shelf)) (h_t_rowSize : (AI 0 40 t_rowSize)) (h_t_tapeSize : (0 ≤ t_tapeSize ∧ t_tapeSize ≤ 250)) (h_t_lines : (0 ≤ t_lines ∧ t_lines ≤ 20)) (h_t_line : (LnM t_line)) (h_t_changes : (AI 0 99 t_changes)) (h_t_coins : (AI 0 9 t_coins)) (h_t_goods : (0 ≤ t_goods ∧ t_goods ≤ 8)) (h_t_good : (GdM t_good)) (h_t_works : (0 ≤ t_works ∧ t_works ≤ 7)) (h_t_work : (WkM t_work)) (h_t_years : (1 ≤ t_years ∧ t_years ≤ 30)) (h_t_from : (0 ≤ t_from ∧ t_from ≤ 250)) (h_t_far : (AI 0 1000000000 t_far)) (h_t_way : (AI 0 22 t_way)) (h_t_steps : (0 ≤ t_steps ∧ t_steps ≤ 37)) (h_t_queue : (AI 0 35 t_queue)) (hA : (LaD x3_lineCount x3_goodsCount x3_workCount x3_years x3_lines x3_goods x3_works x3_change x3_coin m_lines m_line m_changes m_coins m_goods m_good m_works m_work m_years)) (hk : Kn (FrS x3_lineCount (ro 7 x3_lines) x3_change x3_coin (ro 3 x3_goods) x3_goodsCount (ro 5 x3_works) x3_workCount) x3_knownFree x3_isKnown) (eqA : fX6_never n (x0_refused, x0_isKept, x0_gone, x0_spent) x1_gained (x2_lineCount, x2_goodsCount, x2_workCount, x2_years, x2_lines, x2_goods, x2_works, x2_change, x2_coin, x2_knownFree, x2_isKnown) (x3_lineCount, x3_goodsCount, x3_workCount, x3_years, x3_lines, x3_goods, x3_works, x3_change, x3_coin, x3_knownFree, x3_isKnown) (x4_left, x4_earned, x4_turnCost, x4_turnWayless) (x5_edgeA, x5_edgeB, x5_edgeCost, x5_edgeLine, x5_change, x5_away, x5_steps, x5_nodes, x5_stepCount, x5_open, x5_openCount, x5_seen, x5_edgeCount, x5_aim) = some (er, A6)) (eqB : fX7_never n (m_shelf, m_rowSort, m_rowSize, m_rows, m_moved, m_shown, m_tape, m_tapeSize, m_refused, m_lines, m_line, m_changes, m_coins, m_goods, m_good, m_works, m_work, m_years, m_gone, m_spent, m_at, m_token, m_from, m_figures, m_fault, m_numbers, m_statements, m_left, m_far, m_tons, m_way, m_steps, m_met, m_queue, m_totals) (t_shelf, t_rowSort, t_rowSize, t_rows, t_moved, t_shown, t_tape, t_tapeSize, t_refused, t_lines, t_line, t_changes, t_coins, t_goods, t_good, t_works, t_work, t_years, t_gone, t_spent, t_at, t_token, t_from, t_figures, t_fault, t_numbers, t_statements, t_left, t_far, t_tons, t_way, t_steps, t_met, t_queue, t_totals) = some (fr, B6)) : er = fr := by
  have a := (neverC (t := fun j => TotA (x3_lineCount, ro 7 x3_lines, x3_change) x3_coin (ro 3 x3_goods) x3_goodsCount (ro 5 x3_works) x3_workCount x3_years (Int32.ofNat j)) hn h_x2_lineCount h_x2_goodsCount h_x2_workCount h_x2_years h_x2_lines h_x2_goods h_x2_works h_x2_change h_x2_coin h_x3_lineCount h_x3_goodsCount h_x3_workCount h_x3_years h_x3_lines h_x3_goods h_x3_works h_x3_change h_x3_coin h_x5_edgeA h_x5_edgeB h_x5_edgeLine h_x5_steps h_x5_nodes h_x5_stepCount h_x5_open h_x5_openCount h_x5_edgeCount hA.2.2.2.2.2.2 hk (fun z hz => ofn_z (f := TotA (x3_lineCount, ro 7 x3_lines, x3_change) x3_coin (ro 3 x3_goods) x3_goodsCount (ro 5 x3_works) x3_workCount x3_years) hz)).at eqA
  obtain ⟨⟨z1, z2, z3, z4⟩, z5, z6, z7, z8, z9, z10⟩ := id hA
  have hS := hA.s
  subst z1 z2 z3 z4
  have hW : WfS x3_workCount.toNatClampNeg ((x3_lineCount, ro 7 x3_lines, x3_change), ro 5 x3_works) := ⟨h_x3_lineCount, z10⟩
  have hW2 := hW.congr hS
  have b := (neverR (t := fun j => TotA (x3_lineCount, ro 7 x3_lines, x3_change) x3_coin (ro 3 x3_goods) x3_goodsCount (ro 5 x3_works) x3_workCount x3_years (Int32.ofNat j)) hn h_m_shelf h_m_rowSize h_m_tapeSize h_x3_lineCount h_m_line h_m_changes h_m_coins h_x3_goodsCount h_m_good h_x3_workCount h_m_work h_x3_years h_m_from h_m_far h_m_way h_m_steps h_m_queue h_t_shelf h_t_rowSize h_t_tapeSize h_t_lines h_t_line h_t_changes h_t_coins h_t_goods h_t_good h_t_works h_t_work h_t_years h_t_from h_t_far h_t_way h_t_steps h_t_queue hW2.2 (fun z hz => ((TotA_congr hS.1 h_x3_lineCount z9 z6 z7 z10).symm.trans (ofn_z (f := TotA (x3_lineCount, ro 7 x3_lines, x3_change) x3_coin (ro 3 x3_goods) x3_goodsCount (ro 5 x3_works) x3_workCount x3_years) hz)))).at eqB
  refine a.trans (Eq.trans ?_ b.symm)
  exact nvW_congr _ (fun k hk' => NvP_congr hk' (fun j hj => z7 j hj 4 (by decide)))
end
section
/-! greedy, gap: alike -/
noncomputable def firS (coins : Nat → Int32) (good : Nat → Nat → Int32) (G W yr : Int32) (S : S1) : Int32 := FirA S.1 coins good G S.2 W yr
noncomputable def grS (coins : Nat → Int32) (good : Nat → Nat → Int32) (G W yr : Int32) (S0 : S1) : Nat → S1 × Int32
  | 0 => (S0, 0)
  | i + 1 => if firS coins good G W yr (grS coins good G W yr S0 i).1 = -1 then grS coins good G W yr S0 i else (yearA (firS coins good G W yr (grS coins good G W yr S0 i).1) (grS coins good G W yr S0 i).1, (grS coins good G W yr S0 i).2 ||| ((1 : Int32) <<< (firS coins good G W yr (grS coins good G W yr S0 i).1 &&& 31)))
theorem grS_none {coins : Nat → Int32} {good : Nat → Nat → Int32} {G W yr : Int32} {S0 : S1} {i : Nat} (h : firS coins good G W yr (grS coins good G W yr S0 i).1 = -1) : grS coins good G W yr S0 (i + 1) = grS coins good G W yr S0 i := if_pos h
theorem grS_some {coins : Nat → Int32} {good : Nat → Nat → Int32} {G W yr : Int32} {S0 : S1} {i : Nat} (h : ¬ firS coins good G W yr (grS coins good G W yr S0 i).1 = -1) : grS coins good G W yr S0 (i + 1) = (yearA (firS coins good G W yr (grS coins good G W yr S0 i).1) (grS coins good G W yr S0 i).1, (grS coins good G W yr S0 i).2 ||| ((1 : Int32) <<< (firS coins good G W yr (grS coins good G W yr S0 i).1 &&& 31))) := if_neg h
theorem grS_wf {coins : Nat → Int32} {good : Nat → Nat → Int32} {G W yr : Int32} {S0 : S1} (h : WfS W.toNatClampNeg S0) : ∀ i : Nat, WfS W.toNatClampNeg (grS coins good G W yr S0 i).1
  | 0 => h
  | i + 1 => by
    have ih := grS_wf (coins := coins) (good := good) (G := G) (yr := yr) h i
    by_cases e : firS coins good G W yr (grS coins good G W yr S0 i).1 = -1
    · rw [grS_none e]; exact ih
    · rw [grS_some e]; exact yearA_wf ih
theorem grS_stay {coins : Nat → Int32} {good : Nat → Nat → Int32} {G W yr : Int32} {S0 : S1} {i : Nat} (h : firS coins good G W yr (grS coins good G W yr S0 i).1 = -1) : ∀ j : Nat, grS coins good G W yr S0 (i + j) = grS coins good G W yr S0 i
  | 0 => rfl
  | j + 1 => by
    have ih := grS_stay h j
    show grS coins good G W yr S0 ((i + j) + 1) = _
    rw [grS_none (by rw [ih]; exact h), ih]
theorem guU_7 (w : Nat → Nat → Int32) : guU w ≤ 7 := by
  have key : ∀ l : List Nat, (l.map (fun q => if w q 4 = 0 then 1 else 0)).sum ≤ l.length := by
    intro l
    induction l with
    | nil => exact Nat.le_refl _
    | cons a t ih =>
      simp only [List.map_cons, List.sum_cons, List.length_cons]
      by_cases h : w a 4 = 0
      · rw [if_pos h]; omega
      · rw [if_neg h]; omega
  have q := key (List.range 7)
  rw [List.length_range] at q
  exact q
theorem firS_ok {coins : Nat → Int32} {good : Nat → Nat → Int32} {G W yr : Int32} {S : S1} (hW : 0 ≤ W ∧ W ≤ 7) : firS coins good G W yr S = -1 ∨ ((0 ≤ firS coins good G W yr S ∧ (firS coins good G W yr S).toNatClampNeg < W.toNatClampNeg) ∧ S.2 (firS coins good G W yr S).toNatClampNeg 4 = 0) := by
  have k := nlt (M := 7) (N := 7) rfl hW
  exact frW_ok (WoA S.1 coins good G S.2 yr) S.2 W.toNatClampNeg (by omega)
theorem grS_un {coins : Nat → Int32} {good : Nat → Nat → Int32} {G W yr : Int32} {S0 : S1} (hW : 0 ≤ W ∧ W ≤ 7) : ∀ i : Nat, firS coins good G W yr (grS coins good G W yr S0 i).1 = -1 ∨ guU (grS coins good G W yr S0 i).1.2 + i ≤ 7
  | 0 => Or.inr (guU_7 _)
  | i + 1 => by
    have k := nlt (M := 7) (N := 7) rfl hW
    by_cases e : firS coins good G W yr (grS coins good G W yr S0 i).1 = -1
    · rw [grS_none e]; exact Or.inl e
    · rcases grS_un (coins := coins) (good := good) (G := G) (yr := yr) (S0 := S0) hW i with ih | ih
      · exact absurd ih e
      · rcases firS_ok (coins := coins) (good := good) (G := G) (yr := yr) (S := (grS coins good G W yr S0 i).1) hW with o | ⟨⟨_, o⟩, o0⟩
        · exact absurd o e
        · refine Or.inr ?_
          rw [grS_some e]
          have ey : (yearA (firS coins good G W yr (grS coins good G W yr S0 i).1) (grS coins good G W yr S0 i).1).2 = va_up (grS coins good G W yr S0 i).1.2 (firS coins good G W yr (grS coins good G W yr S0 i).1).toNatClampNeg (va_up ((grS coins good G W yr S0 i).1.2 (firS coins good G W yr (grS coins good G W yr S0 i).1).toNatClampNeg) 4 1) := by
            unfold yearA
            rw [if_neg e]
          show guU (yearA (firS coins good G W yr (grS coins good G W yr S0 i).1) (grS coins good G W yr S0 i).1).2 + (i + 1) ≤ 7
          rw [ey]
          have q := guU_lt (Nat.lt_of_lt_of_le o k) o0
          omega
theorem grS_7 {coins : Nat → Int32} {good : Nat → Nat → Int32} {G W yr : Int32} {S0 : S1} (hW : 0 ≤ W ∧ W ≤ 7) : firS coins good G W yr (grS coins good G W yr S0 7).1 = -1 := by
  have k := nlt (M := 7) (N := 7) rfl hW
  rcases grS_un (coins := coins) (good := good) (G := G) (yr := yr) (S0 := S0) hW 7 with h | h
  · exact h
  · rcases firS_ok (coins := coins) (good := good) (G := G) (yr := yr) (S := (grS coins good G W yr S0 7).1) hW with o | ⟨⟨_, o⟩, o0⟩
    · exact o
    · have q := guU_lt (Nat.lt_of_lt_of_le o k) o0
      omega
theorem grS_end {coins : Nat → Int32} {good : Nat → Nat → Int32} {G W yr : Int32} {S0 : S1} (hW : 0 ≤ W ∧ W ≤ 7) {i : Nat} (h : firS coins good G W yr (grS coins good G W yr S0 i).1 = -1) : grS coins good G W yr S0 i = grS coins good G W yr S0 7 := by
  by_cases hi : i ≤ 7
  · have q := grS_stay h (7 - i)
    rw [show i + (7 - i) = 7 by omega] at q
    exact q.symm
  · have q := grS_stay (coins := coins) (good := good) (G := G) (yr := yr) (S0 := S0) (grS_7 hW) (i - 7)
    rw [show 7 + (i - 7) = i by omega] at q
    exact q
theorem grS_congr {coins coins' : Nat → Int32} {good good' : Nat → Nat → Int32} {G W yr : Int32} {S0 S0' : S1} (hW : 0 ≤ W ∧ W ≤ 7) (h : SEq W.toNatClampNeg S0 S0') (hw : WfS W.toNatClampNeg S0) (hco : ∀ w, w < 3 → coins w = coins' w) (hg : ∀ g, g < G.toNatClampNeg → ∀ c, c < 3 → good g c = good' g c) : ∀ i : Nat, SEq W.toNatClampNeg (grS coins good G W yr S0 i).1 (grS coins' good' G W yr S0' i).1 ∧ (grS coins good G W yr S0 i).2 = (grS coins' good' G W yr S0' i).2
  | 0 => ⟨h, rfl⟩
  | i + 1 => by
    obtain ⟨a, b⟩ := grS_congr (yr := yr) hW h hw hco hg i
    have wf := grS_wf (coins := coins) (good := good) (G := G) (yr := yr) hw i
    have ef : firS coins good G W yr (grS coins good G W yr S0 i).1 = firS coins' good' G W yr (grS coins' good' G W yr S0' i).1 := a.fir wf hco hg
    by_cases e : firS coins good G W yr (grS coins good G W yr S0 i).1 = -1
    · rw [grS_none e, grS_none (by rw [← ef]; exact e)]
      exact ⟨a, b⟩
    · rw [grS_some e, grS_some (by rw [← ef]; exact e), ← ef, b]
      refine ⟨yearA_congr a wf ?_, rfl⟩
      rcases firS_ok (coins := coins) (good := good) (G := G) (yr := yr) (S := (grS coins good G W yr S0 i).1) hW with o | o
      · exact Or.inl o
      · exact Or.inr o.1
theorem greedyOfC {n : Nat} {x0_gained : Nat → Int32} {x1_lineCount : Int32} {x1_goodsCount : Int32} {x1_workCount : Int32} {x1_years : Int32} {x1_lines : (Nat → Int32)} {x1_goods : (Nat → Int32)} {x1_works : (Nat → Int32)} {x1_change : (Nat → Int32)} {x1_coin : (Nat → Int32)} {x1_knownFree : (Nat → Int32)} {x1_isKnown : Int32} {x2_left : (Nat → Int32)} {x2_earned : (Nat → Int32)} {x2_turnCost : Int32} {x2_turnWayless : Int32} {x3_edgeA : (Nat → Int32)} {x3_edgeB : (Nat → Int32)} {x3_edgeCost : (Nat → Int32)} {x3_edgeLine : (Nat → Int32)} {x3_change : (Nat → Int32)} {x3_away : (Nat → Int32)} {x3_steps : (Nat → Int32)} {x3_nodes : (Nat → Int32)} {x3_stepCount : Int32} {x3_open : (Nat → Int32)} {x3_openCount : Int32} {x3_seen : Int64} {x3_edgeCount : Int32} {x3_aim : Int32} {x4_lineCount : Int32} {x4_goodsCount : Int32} {x4_workCount : Int32} {x4_years : Int32} {x4_lines : (Nat → Int32)} {x4_goods : (Nat → Int32)} {x4_works : (Nat → Int32)} {x4_change : (Nat → Int32)} {x4_coin : (Nat → Int32)} {x4_knownFree : (Nat → Int32)} {x4_isKnown : Int32} {x5_lineCount : Int32} {x5_goodsCount : Int32} {x5_workCount : Int32} {x5_years : Int32} {x5_lines : (Nat → Int32)} {x5_goods : (Nat → Int32)} {x5_works : (Nat → Int32)} {x5_change : (Nat → Int32)} {x5_coin : (Nat → Int32)} {x5_knownFree : (Nat → Int32)} {x5_isKnown : Int32} (hn : 1000000000000 ≤ n) (h_x1_lineCount : (0 ≤ x1_lineCount ∧ x1_lineCount ≤ 20)) (h_x1_goodsCount : (0 ≤ x1_goodsCount ∧ x1_goodsCount ≤ 8)) (h_x1_workCount : (0 ≤ x1_workCount ∧ x1_workCount ≤ 7)) (h_x1_years : (1 ≤ x1_years ∧ x1_years ≤ 30)) (h_x1_lines : (LnOk x1_lines)) (h_x1_goods : (GdOk x1_goods)) (h_x1_works : (WkOk x1_works)) (h_x1_change : (AI 0 99 x1_change)) (h_x1_coin : (AI 0 9 x1_coin)) (h_x3_edgeA : (AI 0 35 x3_edgeA)) (h_x3_edgeB : (AI 0 35 x3_edgeB)) (h_x3_edgeLine : (AI 0 19 x3_edgeLine)) (h_x3_steps : (AI 0 22 x3_steps)) (h_x3_nodes : (AI 0 35 x3_nodes)) (h_x3_stepCount : (0 ≤ x3_stepCount ∧ x3_stepCount ≤ 36)) (h_x3_open : (AI 0 35 x3_open)) (h_x3_openCount : (0 ≤ x3_openCount ∧ x3_openCount ≤ 36)) (h_x3_edgeCount : (0 ≤ x3_edgeCount ∧ x3_edgeCount ≤ 60)) (h_x4_lineCount : (0 ≤ x4_lineCount ∧ x4_lineCount ≤ 20)) (h_x4_goodsCount : (0 ≤ x4_goodsCount ∧ x4_goodsCount ≤ 8)) (h_x4_workCount : (0 ≤ x4_workCount ∧ x4_workCount ≤ 7)) (h_x4_years : (1 ≤ x4_years ∧ x4_years ≤ 30)) (h_x4_lines : (LnOk x4_lines)) (h_x4_goods : (GdOk x4_goods)) (h_x4_works : (WkOk x4_works)) (h_x4_change : (AI 0 99 x4_change)) (h_x4_coin : (AI 0 9 x4_coin)) (h_x5_lineCount : (0 ≤ x5_lineCount ∧ x5_lineCount ≤ 20)) (h_x5_goodsCount : (0 ≤ x5_goodsCount ∧ x5_goodsCount ≤ 8)) (h_x5_workCount : (0 ≤ x5_workCount ∧ x5_workCount ≤ 7)) (h_x5_years : (1 ≤ x5_years ∧ x5_years ≤ 30)) (h_x5_lines : (LnOk x5_lines)) (h_x5_goods : (GdOk x5_goods)) (h_x5_works : (WkOk x5_works)) (h_x5_change : (AI 0 99 x5_change)) (h_x5_coin : (AI 0 9 x5_coin)) (hf : ∀ k, k < x5_workCount.toNatClampNeg → Wf1 (ro 5 x5_works) x5_lineCount k) : Sf (fX0_greedyOf n x0_gained (x1_lineCount, x1_goodsCount, x1_workCount, x1_years, x1_lines, x1_goods, x1_works, x1_change, x1_coin, x1_knownFree, x1_isKnown) (x2_left, x2_earned, x2_turnCost, x2_turnWayless) (x3_edgeA, x3_edgeB, x3_edgeCost, x3_edgeLine, x3_change, x3_away, x3_steps, x3_nodes, x3_stepCount, x3_open, x3_openCount, x3_seen, x3_edgeCount, x3_aim) (x4_lineCount, x4_goodsCount, x4_workCount, x4_years, x4_lines, x4_goods, x4_works, x4_change, x4_coin, x4_knownFree, x4_isKnown) (x5_lineCount, x5_goodsCount, x5_workCount, x5_years, x5_lines, x5_goods, x5_works, x5_change, x5_coin, x5_knownFree, x5_isKnown)) (fun r => r.1 = (grS x5_coin (ro 3 x5_goods) x5_goodsCount x5_workCount x5_years ((x5_lineCount, ro 7 x5_lines, x5_change), ro 5 x5_works) 7).2) := by
  have hW0 : WfS x5_workCount.toNatClampNeg ((x5_lineCount, ro 7 x5_lines, x5_change), ro 5 x5_works) := ⟨h_x5_lineCount, hf⟩
  unfold fX0_greedyOf
  dsimp only [u4, u14, u11]
  refine Sf.bind (Sf.and (sX1_take h_x1_lines h_x1_goods h_x1_works h_x1_change h_x1_coin h_x5_lineCount h_x5_goodsCount h_x5_workCount h_x5_years h_x5_lines h_x5_goods h_x5_works h_x5_change h_x5_coin) (takeC h_x5_lineCount h_x5_goodsCount h_x5_workCount h_x5_years h_x5_lines h_x5_goods h_x5_works h_x5_change h_x5_coin)) ?_
  rintro ⟨g2, g3, g4, g5, g6, g7, g8, g9, g10, g11⟩ ⟨⟨t0, t1, t2, t3, t4, t5, t6, t7, t8⟩, s0, s1, s2, s3, s4, s5, s6, s7, s8, s9⟩
  have s0 : g2 = x5_lineCount := s0
  have s1 : g3 = x5_goodsCount := s1
  have s2 : g4 = x5_workCount := s2
  have s3 : g5 = x5_years := s3
  have s4 : ∀ l, l < x5_lineCount.toNatClampNeg → ∀ c, c < 7 → ro 7 g6 l c = ro 7 x5_lines l c := s4
  have s5 : ∀ g, g < x5_goodsCount.toNatClampNeg → ∀ c, c < 3 → ro 3 g7 g c = ro 3 x5_goods g c := s5
  have s6 : ∀ k, k < x5_workCount.toNatClampNeg → ∀ c, c < 5 → ro 5 g8 k c = ro 5 x5_works k c := s6
  have s7 : ∀ p, p < 12 → g9 p = x5_change p := s7
  have s8 : ∀ w, w < 3 → g10 w = x5_coin w := s8
  have t4 : LnOk g6 := t4
  have t5 : GdOk g7 := t5
  have t6 : WkOk g8 := t6
  have t7 : AI 0 99 g9 := t7
  have t8 : AI 0 9 g10 := t8
  subst s0 s1 s2 s3
  have hS0 : SEq g4.toNatClampNeg ((g2, ro 7 x5_lines, x5_change), ro 5 x5_works) ((g2, ro 7 g6, g9), ro 5 g8) := ⟨⟨rfl, fun l hl c hc => (s4 l hl c hc).symm, fun p hp => (s7 p hp).symm⟩, fun k hk c hc => (s6 k hk c hc).symm⟩
  have hW1 := hW0.congr hS0
  try dsimp only [u10]
  refine Sf.bind (Sf.and (sX0_firstOf hn h_x3_edgeA h_x3_edgeB h_x3_edgeLine h_x3_steps h_x3_nodes h_x3_stepCount h_x3_open h_x3_openCount h_x3_edgeCount h_x4_lineCount h_x4_goodsCount h_x4_workCount h_x4_years h_x4_lines h_x4_goods h_x4_works h_x4_change h_x4_coin h_x5_lineCount h_x5_goodsCount h_x5_workCount h_x5_years t4 t5 t6 t7 t8) (firstOfC hn h_x3_edgeA h_x3_edgeB h_x3_edgeLine h_x3_steps h_x3_nodes h_x3_stepCount h_x3_open h_x3_openCount h_x3_edgeCount h_x4_lineCount h_x4_goodsCount h_x4_workCount h_x4_years h_x4_lines h_x4_goods h_x4_works h_x4_change h_x4_coin h_x5_lineCount h_x5_goodsCount h_x5_workCount h_x5_years t4 t5 t6 t7 t8 hW1.2 (Or.inl s9))) ?_
  rintro ⟨v13, ⟨g15, g16, g17, g18, g19, g20, g21, g22⟩, ⟨g24, g25, g26, g27, g28, g29, g30, g31, g32, g33⟩, ⟨g35, g36, g37, g38, g39⟩⟩ ⟨⟨_, b1, b2, b3, b4, b5, b6, b7, b8, b9, b10, b11, b12, b13, b14, b15, b16⟩, e13, q1, q2, q3, q4⟩
  have q1 : g35 = g2 := q1
  have q2 : g36 = g6 := q2
  have q3 : g37 = g9 := q3
  have q4 : Kn _ g38 g39 := q4
  have e13 : v13 = firS x5_coin (ro 3 x5_goods) g3 g4 g5 ((g2, ro 7 x5_lines, x5_change), ro 5 x5_works) := by
    have q : v13 = FirA (g2, ro 7 g6, g9) g10 (ro 3 g7) g3 (ro 5 g8) g4 g5 := e13
    rw [q]
    exact (hS0.fir hW0 (fun w hw => (s8 w hw).symm) (fun g hg c hc => (s5 g hg c hc).symm)).symm
  try dsimp only [u8, u10, u5]
  rw [q1, q2, q3]
  refine Sf.bind (P := fun r => r.1 = (grS x5_coin (ro 3 x5_goods) g3 g4 g5 ((g2, ro 7 x5_lines, x5_change), ro 5 x5_works) 7).2) ?_ ?_
  · refine Sf.loop27 (fun z42 z43 z44 z45 z46 z47 z48 z49 z50 z51 z52 z53 z54 z55 z56 z57 z58 z59 z60 z61 z62 z63 z64 z65 z66 z67 z68 => ((0 ≤ z44 ∧ z44 ≤ 7) ∧ z42 = (grS x5_coin (ro 3 x5_goods) g3 g4 g5 ((g2, ro 7 x5_lines, x5_change), ro 5 x5_works) z44.toNatClampNeg).2 ∧ z43 = firS x5_coin (ro 3 x5_goods) g3 g4 g5 (grS x5_coin (ro 3 x5_goods) g3 g4 g5 ((g2, ro 7 x5_lines, x5_change), ro 5 x5_works) z44.toNatClampNeg).1 ∧ SEq g4.toNatClampNeg (grS x5_coin (ro 3 x5_goods) g3 g4 g5 ((g2, ro 7 x5_lines, x5_change), ro 5 x5_works) z44.toNatClampNeg).1 ((z45, ro 7 z46, z48), ro 5 z47)) ∧ ((0 ≤ z45 ∧ z45 ≤ 20) ∧ LnOk z46 ∧ WkOk z47 ∧ AI 0 99 z48) ∧ StB z51 z52 z54 z57 z59 z60 z61 z62 z63 z64 z65 z66 z67) (fun z42 z43 z44 z45 z46 z47 z48 z49 z50 z51 z52 z53 z54 z55 z56 z57 z58 z59 z60 z61 z62 z63 z64 z65 z66 z67 z68 => muUp z44) (fun z42 z43 z44 z45 z46 z47 z48 z49 z50 z51 z52 z53 z54 z55 z56 z57 z58 z59 z60 z61 z62 z63 z64 z65 z66 z67 z68 h => ?_) ?_ (muUp_n hn)
    · obtain ⟨⟨i0, i1, i2, i3⟩, ⟨l1, l2, l3, l4⟩, ⟨⟨j1, j2, j3, j4⟩, m1, m2, m3, m4, m5, m6, m7, m8, m9⟩⟩ := h
      unfold fX0_greedyOf_s22
      refine Sf.ite (fun hc => Sf.inr ?_) (fun hc => ?_)
      · have e : z44 = 7 := Int32.le_antisymm i0.2 hc
        rw [e] at i1
        exact i1
      refine Sf.ite (fun he => Sf.inr ?_) (fun he => ?_)
      · rw [he] at i2
        have q := grS_end h_x5_workCount i2.symm
        rw [q] at i1
        exact i1
      obtain ⟨p0, p1, p3⟩ := up1 i0.1 (B := 7) (by decide) hc
      have hz1 : z44 + 1 ≤ 7 := by clear i1 i2 i3 hf hW0 hS0 hW1 s4 s5 s6 s7 s8 e13; grind
      have wf := grS_wf (coins := x5_coin) (good := ro 3 x5_goods) (G := g3) (yr := g5) hW0 z44.toNatClampNeg
      have wf2 := wf.congr i3
      have ho : (0 ≤ z43 ∧ z43.toNatClampNeg < g4.toNatClampNeg) := by
        rcases firS_ok (coins := x5_coin) (good := ro 3 x5_goods) (G := g3) (yr := g5) (S := (grS x5_coin (ro 3 x5_goods) g3 g4 g5 ((g2, ro 7 x5_lines, x5_change), ro 5 x5_works) z44.toNatClampNeg).1) h_x5_workCount with o | o
        · rw [← i2] at o
          exact absurd o he
        · rw [← i2] at o
          exact o.1
      obtain ⟨hpl, hp6⟩ := okK_lt h_x5_workCount ho
      refine Sf.someb (fun t95 e95 => ?_)
      refine Sf.bind (Sf.and (sX1_performForGood l1 h_x5_workCount l2 l3 l4) (pfgC l1 h_x5_goodsCount h_x5_workCount h_x5_years l2 t5 l3 l4 t8 hpl (wf2.2 _ ho.2))) ?_
      rintro ⟨g97, g98, g99, g100, g101⟩ ⟨⟨d1, d2, d3, d4⟩, a1, a2, a3⟩
      have d1 : 0 ≤ g97 ∧ g97 ≤ 20 := d1
      have d2 : LnOk g98 := d2
      have d3 : WkOk g99 := d3
      have d4 : AI 0 99 g100 := d4
      have a1 : AbEq (g97, ro 7 g98, g100) (doA (ro 5 z47) z43.toNatClampNeg (z45, ro 7 z46, z48)) := a1
      have a2 : ∀ k c, c < 5 → ro 5 g99 k c = va_up (ro 5 z47) z43.toNatClampNeg (va_up (ro 5 z47 z43.toNatClampNeg) 4 1) k c := a2
      have a3 : g101 = 0 := a3
      have ey : yearA z43 ((z45, ro 7 z46, z48), ro 5 z47) = (doA (ro 5 z47) z43.toNatClampNeg (z45, ro 7 z46, z48), va_up (ro 5 z47) z43.toNatClampNeg (va_up (ro 5 z47 z43.toNatClampNeg) 4 1)) := if_neg he
      have nxg : grS x5_coin (ro 3 x5_goods) g3 g4 g5 ((g2, ro 7 x5_lines, x5_change), ro 5 x5_works) (z44 + 1).toNatClampNeg = (yearA z43 (grS x5_coin (ro 3 x5_goods) g3 g4 g5 ((g2, ro 7 x5_lines, x5_change), ro 5 x5_works) z44.toNatClampNeg).1, z42 ||| ((1 : Int32) <<< (z43 &&& 31))) := by
        rw [p1, grS_some (by rw [← i2]; exact he), ← i2, ← i1]
      have hS : SEq g4.toNatClampNeg (yearA z43 (grS x5_coin (ro 3 x5_goods) g3 g4 g5 ((g2, ro 7 x5_lines, x5_change), ro 5 x5_works) z44.toNatClampNeg).1) ((g97, ro 7 g98, g100), ro 5 g99) := by
        refine (yearA_congr i3 wf (Or.inr ho)).trans ?_
        rw [ey]
        exact ⟨a1.symm, fun k _ c hc => (a2 k c hc).symm⟩
      have wf3 : WfS g4.toNatClampNeg ((g97, ro 7 g98, g100), ro 5 g99) := (yearA_wf wf).congr hS
      try dsimp only [u5]
      refine Sf.bind (Sf.and (sX0_firstOf hn j1 j2 j3 h_x3_steps h_x3_nodes h_x3_stepCount h_x3_open h_x3_openCount j4 m1 m2 m3 m4 m5 m6 m7 m8 m9 d1 h_x5_goodsCount h_x5_workCount h_x5_years d2 t5 d3 d4 t8) (firstOfC hn j1 j2 j3 h_x3_steps h_x3_nodes h_x3_stepCount h_x3_open h_x3_openCount j4 m1 m2 m3 m4 m5 m6 m7 m8 m9 d1 h_x5_goodsCount h_x5_workCount h_x5_years d2 t5 d3 d4 t8 wf3.2 (Or.inl a3))) ?_
      rintro ⟨v103, ⟨g105, g106, g107, g108, g109, g110, g111, g112⟩, ⟨g114, g115, g116, g117, g118, g119, g120, g121, g122, g123⟩, ⟨g125, g126, g127, g128, g129⟩⟩ ⟨⟨_, b1, b2, b3, b4, b5, b6, b7, b8, b9, b10, b11, b12, b13, b14, b15, b16⟩, e103, q1, q2, q3, q4⟩
      have q1 : g125 = g97 := q1
      have q2 : g126 = g98 := q2
      have q3 : g127 = g100 := q3
      have e103 : v103 = FirA (g97, ro 7 g98, g100) g10 (ro 3 g7) g3 (ro 5 g99) g4 g5 := e103
      try dsimp only [u8, u10, u5]
      rw [q1, q2, q3]
      refine Sf.inl ⟨⟨⟨p0, hz1⟩, ?_, ?_, ?_⟩, ⟨d1, d2, d3, d4⟩, ⟨b1, b2, b3, b4⟩, b5, b6, b7, b8, b9, b10, b11, b12, b13⟩ (muUp_lt hc)
      · rw [nxg]; exact e95
      · rw [nxg, e103]
        exact (hS.fir (yearA_wf wf) (fun w hw => (s8 w hw).symm) (fun g hg c hc => (s5 g hg c hc).symm)).symm
      · rw [nxg]; exact hS
    · exact ⟨⟨⟨(show (0 : Int32) ≤ 0 by decide), (show (0 : Int32) ≤ 7 by decide)⟩, rfl, e13, hS0⟩, ⟨h_x5_lineCount, t4, t6, t7⟩, ⟨b1, b2, b3, b4⟩, b5, b6, b7, b8, b9, b10, b11, b12, b13⟩
  · rintro ⟨w70, w71, w72, w73, w74, w75, w76, w77, w78, w79, w80, w81, w82, w83, w84, w85, w86, w87, w88, w89, w90, w91, w92, w93, w94⟩ h
    exact Sf.ok h
theorem greedyV {n : Nat} {x0_shelf : (Nat → Int32)} {x0_rowSort : (Nat → Int32)} {x0_rowSize : (Nat → Int32)} {x0_rows : (Nat → Nat → Int64)} {x0_moved : (Nat → Int64)} {x0_shown : (Nat → Int32)} {x0_tape : (Nat → Int32)} {x0_tapeSize : Int32} {x0_refused : (Nat → Int32)} {x0_lines : Int32} {x0_line : (Nat → Nat → Int32)} {x0_changes : (Nat → Int32)} {x0_coins : (Nat → Int32)} {x0_goods : Int32} {x0_good : (Nat → Nat → Int32)} {x0_works : Int32} {x0_work : (Nat → Nat → Int32)} {x0_years : Int32} {x0_gone : Int32} {x0_spent : Int32} {x0_at : Int32} {x0_token : Int32} {x0_from : Int32} {x0_figures : Int64} {x0_fault : Int32} {x0_numbers : (Nat → Int32)} {x0_statements : Int32} {x0_left : (Nat → Int32)} {x0_far : (Nat → Int32)} {x0_tons : Int32} {x0_way : (Nat → Int32)} {x0_steps : Int32} {x0_met : Int64} {x0_queue : (Nat → Int32)} {x0_totals : (Nat → Int32)} {x1_shelf : (Nat → Int32)} {x1_rowSort : (Nat → Int32)} {x1_rowSize : (Nat → Int32)} {x1_rows : (Nat → Nat → Int64)} {x1_moved : (Nat → Int64)} {x1_shown : (Nat → Int32)} {x1_tape : (Nat → Int32)} {x1_tapeSize : Int32} {x1_refused : (Nat → Int32)} {x1_lines : Int32} {x1_line : (Nat → Nat → Int32)} {x1_changes : (Nat → Int32)} {x1_coins : (Nat → Int32)} {x1_goods : Int32} {x1_good : (Nat → Nat → Int32)} {x1_works : Int32} {x1_work : (Nat → Nat → Int32)} {x1_years : Int32} {x1_gone : Int32} {x1_spent : Int32} {x1_at : Int32} {x1_token : Int32} {x1_from : Int32} {x1_figures : Int64} {x1_fault : Int32} {x1_numbers : (Nat → Int32)} {x1_statements : Int32} {x1_left : (Nat → Int32)} {x1_far : (Nat → Int32)} {x1_tons : Int32} {x1_way : (Nat → Int32)} {x1_steps : Int32} {x1_met : Int64} {x1_queue : (Nat → Int32)} {x1_totals : (Nat → Int32)} {x2_shelf : (Nat → Int32)} {x2_rowSort : (Nat → Int32)} {x2_rowSize : (Nat → Int32)} {x2_rows : (Nat → Nat → Int64)} {x2_moved : (Nat → Int64)} {x2_shown : (Nat → Int32)} {x2_tape : (Nat → Int32)} {x2_tapeSize : Int32} {x2_refused : (Nat → Int32)} {x2_lines : Int32} {x2_line : (Nat → Nat → Int32)} {x2_changes : (Nat → Int32)} {x2_coins : (Nat → Int32)} {x2_goods : Int32} {x2_good : (Nat → Nat → Int32)} {x2_works : Int32} {x2_work : (Nat → Nat → Int32)} {x2_years : Int32} {x2_gone : Int32} {x2_spent : Int32} {x2_at : Int32} {x2_token : Int32} {x2_from : Int32} {x2_figures : Int64} {x2_fault : Int32} {x2_numbers : (Nat → Int32)} {x2_statements : Int32} {x2_left : (Nat → Int32)} {x2_far : (Nat → Int32)} {x2_tons : Int32} {x2_way : (Nat → Int32)} {x2_steps : Int32} {x2_met : Int64} {x2_queue : (Nat → Int32)} {x2_totals : (Nat → Int32)} (hn : 1000000000000 ≤ n) (h_x0_shelf : (AI 0 2 x0_shelf)) (h_x0_rowSize : (AI 0 40 x0_rowSize)) (h_x0_tapeSize : (0 ≤ x0_tapeSize ∧ x0_tapeSize ≤ 250)) (h_x0_lines : (0 ≤ x0_lines ∧ x0_lines ≤ 20)) (h_x0_line : (LnM x0_line)) (h_x0_changes : (AI 0 99 x0_changes)) (h_x0_coins : (AI 0 9 x0_coins)) (h_x0_goods : (0 ≤ x0_goods ∧ x0_goods ≤ 8)) (h_x0_good : (GdM x0_good)) (h_x0_works : (0 ≤ x0_works ∧ x0_works ≤ 7)) (h_x0_work : (WkM x0_work)) (h_x0_years : (1 ≤ x0_years ∧ x0_years ≤ 30)) (h_x0_from : (0 ≤ x0_from ∧ x0_from ≤ 250)) (h_x0_far : (AI 0 1000000000 x0_far)) (h_x0_way : (AI 0 22 x0_way)) (h_x0_steps : (0 ≤ x0_steps ∧ x0_steps ≤ 37)) (h_x0_queue : (AI 0 35 x0_queue)) (h_x1_shelf : (AI 0 2 x1_shelf)) (h_x1_rowSize : (AI 0 40 x1_rowSize)) (h_x1_tapeSize : (0 ≤ x1_tapeSize ∧ x1_tapeSize ≤ 250)) (h_x1_lines : (0 ≤ x1_lines ∧ x1_lines ≤ 20)) (h_x1_line : (LnM x1_line)) (h_x1_changes : (AI 0 99 x1_changes)) (h_x1_coins : (AI 0 9 x1_coins)) (h_x1_goods : (0 ≤ x1_goods ∧ x1_goods ≤ 8)) (h_x1_good : (GdM x1_good)) (h_x1_works : (0 ≤ x1_works ∧ x1_works ≤ 7)) (h_x1_work : (WkM x1_work)) (h_x1_years : (1 ≤ x1_years ∧ x1_years ≤ 30)) (h_x1_from : (0 ≤ x1_from ∧ x1_from ≤ 250)) (h_x1_far : (AI 0 1000000000 x1_far)) (h_x1_way : (AI 0 22 x1_way)) (h_x1_steps : (0 ≤ x1_steps ∧ x1_steps ≤ 37)) (h_x1_queue : (AI 0 35 x1_queue)) (h_x2_shelf : (AI 0 2 x2_shelf)) (h_x2_rowSize : (AI 0 40 x2_rowSize)) (h_x2_tapeSize : (0 ≤ x2_tapeSize ∧ x2_tapeSize ≤ 250)) (h_x2_lines : (0 ≤ x2_lines ∧ x2_lines ≤ 20)) (h_x2_line : (LnM x2_line)) (h_x2_changes : (AI 0 99 x2_changes)) (h_x2_coins : (AI 0 9 x2_coins)) (h_x2_goods : (0 ≤ x2_goods ∧ x2_goods ≤ 8)) (h_x2_good : (GdM x2_good)) (h_x2_works : (0 ≤ x2_works ∧ x2_works ≤ 7)) (h_x2_work : (WkM x2_work)) (h_x2_years : (1 ≤ x2_years ∧ x2_years ≤ 30)) (h_x2_from : (0 ≤ x2_from ∧ x2_from ≤ 250)) (h_x2_far : (AI 0 1000000000 x2_far)) (h_x2_way : (AI 0 22 x2_way)) (h_x2_steps : (0 ≤ x2_steps ∧ x2_steps ≤ 37)) (h_x2_queue : (AI 0 35 x2_queue)) (hf : ∀ k, k < x0_works.toNatClampNeg → Wf1 x0_work x0_lines k) : Sf (fX7_greedy n (x0_shelf, x0_rowSort, x0_rowSize, x0_rows, x0_moved, x0_shown, x0_tape, x0_tapeSize, x0_refused, x0_lines, x0_line, x0_changes, x0_coins, x0_goods, x0_good, x0_works, x0_work, x0_years, x0_gone, x0_spent, x0_at, x0_token, x0_from, x0_figures, x0_fault, x0_numbers, x0_statements, x0_left, x0_far, x0_tons, x0_way, x0_steps, x0_met, x0_queue, x0_totals) (x1_shelf, x1_rowSort, x1_rowSize, x1_rows, x1_moved, x1_shown, x1_tape, x1_tapeSize, x1_refused, x1_lines, x1_line, x1_changes, x1_coins, x1_goods, x1_good, x1_works, x1_work, x1_years, x1_gone, x1_spent, x1_at, x1_token, x1_from, x1_figures, x1_fault, x1_numbers, x1_statements, x1_left, x1_far, x1_tons, x1_way, x1_steps, x1_met, x1_queue, x1_totals) (x2_shelf, x2_rowSort, x2_rowSize, x2_rows, x2_moved, x2_shown, x2_tape, x2_tapeSize, x2_refused, x2_lines, x2_line, x2_changes, x2_coins, x2_goods, x2_good, x2_works, x2_work, x2_years, x2_gone, x2_spent, x2_at, x2_token, x2_from, x2_figures, x2_fault, x2_numbers, x2_statements, x2_left, x2_far, x2_tons, x2_way, x2_steps, x2_met, x2_queue, x2_totals)) (fun r => r.1 = (grS x0_coins x0_good x0_goods x0_works x0_years ((x0_lines, x0_line, x0_changes), x0_work) 7).2) := by
  have hW0 : WfS x0_works.toNatClampNeg ((x0_lines, x0_line, x0_changes), x0_work) := ⟨h_x0_lines, hf⟩
  have hL := nlt (M := 20) (N := 20) rfl h_x0_lines
  have hG := nlt (M := 8) (N := 8) rfl h_x0_goods
  have hW7 := nlt (M := 7) (N := 7) rfl h_x0_works
  unfold fX7_greedy
  dsimp only [u35]
  unfold fX7_greedy_j18
  refine Sf.bind (Sf.and (sX7_takeFrom hn h_x1_line h_x1_changes h_x1_coins h_x1_good (h_x1_work.1) h_x0_lines h_x0_line h_x0_changes h_x0_coins h_x0_goods h_x0_good h_x0_works h_x0_work h_x0_years) (takeFromR hn)) ?_
  rintro ⟨g2, g3, g4, g5, g6, g7, g8, g9, g10, g11, g12⟩ ⟨⟨b1, b2, b3, b4, b5, b6, b7, b8, b9⟩, s1, s2, s3, s4, s5, s6, s7, s8, s9, _, _⟩
  have s1 : g2 = x0_lines := s1
  have s2 : ∀ l, l < 20 → ∀ c, c < 7 → g3 l c = x0_line l c := s2
  have s3 : ∀ p, p < 12 → g4 p = x0_changes p := s3
  have s4 : ∀ w, w < 3 → g5 w = x0_coins w := s4
  have s5 : g6 = x0_goods := s5
  have s6 : ∀ g, g < 8 → ∀ c, c < 3 → g7 g c = x0_good g c := s6
  have s7 : g8 = x0_works := s7
  have s8 : ∀ k, k < 7 → ∀ c, c < 5 → g9 k c = x0_work k c := s8
  have s9 : g10 = x0_years := s9
  have b2 : LnM g3 := b2
  have b3 : AI 0 99 g4 := b3
  have b4 : AI 0 9 g5 := b4
  have b6 : GdM g7 := b6
  have b8 : WkM g9 := b8
  subst s1 s5 s7 s9
  have hS0 : SEq g8.toNatClampNeg ((g2, x0_line, x0_changes), x0_work) ((g2, g3, g4), g9) := ⟨⟨rfl, fun l hl c hc => (s2 l (Nat.lt_of_lt_of_le hl hL) c hc).symm, fun p hp => (s3 p hp).symm⟩, fun k hk c hc => (s8 k (Nat.lt_of_lt_of_le hk hW7) c hc).symm⟩
  have hW1 := hW0.congr hS0
  have hco : ∀ w, w < 3 → x0_coins w = g5 w := fun w hw => (s4 w hw).symm
  have hgd : ∀ g, g < g6.toNatClampNeg → ∀ c, c < 3 → x0_good g c = g7 g c := fun g hg c hc => (s6 g (Nat.lt_of_lt_of_le hg hG) c hc).symm
  try dsimp only [u11]
  refine Sf.bind (Sf.and (sX7_first hn h_x1_shelf h_x1_rowSize h_x1_tapeSize h_x0_lines b2 b3 b4 h_x0_goods b6 h_x0_works b8 h_x0_years h_x1_from h_x1_far h_x1_way h_x1_steps h_x1_queue h_x2_shelf h_x2_rowSize h_x2_tapeSize h_x2_lines h_x2_line h_x2_changes h_x2_coins h_x2_goods h_x2_good h_x2_works h_x2_work h_x2_years h_x2_from h_x2_far h_x2_way h_x2_steps h_x2_queue) (firstR hn h_x1_shelf h_x1_rowSize h_x1_tapeSize h_x0_lines b2 b3 b4 h_x0_goods b6 h_x0_works b8 h_x0_years h_x1_from h_x1_far h_x1_way h_x1_steps h_x1_queue h_x2_shelf h_x2_rowSize h_x2_tapeSize h_x2_lines h_x2_line h_x2_changes h_x2_coins h_x2_goods h_x2_good h_x2_works h_x2_work h_x2_years h_x2_from h_x2_far h_x2_way h_x2_steps h_x2_queue hW1.2)) ?_
  rintro ⟨v14, g16, g17, g18, g19, g20, g21, g22, g23, g24, g25, g26, g27, g28, g29⟩ ⟨⟨_, c1, c2, c3, c4, c5, c6, c7, c8, c9, c10, _⟩, e14⟩
  have e14 : v14 = firS x0_coins x0_good g6 g8 g10 ((g2, x0_line, x0_changes), x0_work) := by
    have q : v14 = FirA (g2, g3, g4) g5 g7 g6 g9 g8 g10 := e14
    rw [q]
    exact (hS0.fir hW0 hco hgd).symm
  try dsimp only [u14]
  refine Sf.bind (P := fun r => r.1 = (grS x0_coins x0_good g6 g8 g10 ((g2, x0_line, x0_changes), x0_work) 7).2) ?_ ?_
  · refine Sf.loop20 (fun z32 z33 z34 z35 z36 z37 z38 z39 z40 z41 z42 z43 z44 z45 z46 z47 z48 z49 z50 z51 => (∃ i : Nat, z32 = (grS x0_coins x0_good g6 g8 g10 ((g2, x0_line, x0_changes), x0_work) i).2 ∧ z33 = firS x0_coins x0_good g6 g8 g10 (grS x0_coins x0_good g6 g8 g10 ((g2, x0_line, x0_changes), x0_work) i).1 ∧ SEq g8.toNatClampNeg (grS x0_coins x0_good g6 g8 g10 ((g2, x0_line, x0_changes), x0_work) i).1 ((z34, z35, z36), z37)) ∧ ((0 ≤ z34 ∧ z34 ≤ 20) ∧ LnM z35 ∧ AI 0 99 z36 ∧ WkM z37) ∧ (0 ≤ z38 ∧ z38 ≤ 20) ∧ LnM z39 ∧ AI 0 99 z40 ∧ AI 0 9 z41 ∧ (0 ≤ z42 ∧ z42 ≤ 8) ∧ GdM z43 ∧ (0 ≤ z44 ∧ z44 ≤ 7) ∧ WkM z45 ∧ (1 ≤ z46 ∧ z46 ≤ 30) ∧ AI 0 1000000000 z50) (fun z32 z33 z34 z35 z36 z37 z38 z39 z40 z41 z42 z43 z44 z45 z46 z47 z48 z49 z50 z51 => guU z37) (fun z32 z33 z34 z35 z36 z37 z38 z39 z40 z41 z42 z43 z44 z45 z46 z47 z48 z49 z50 z51 h => ?_) ?_ (guU_n hn)
    · obtain ⟨⟨i, i1, i2, i3⟩, ⟨l1, l2, l3, l4⟩, m1, m2, m3, m4, m5, m6, m7, m8, m9, m10⟩ := h
      unfold fX7_greedy_s35
      refine Sf.ite (fun he => Sf.inr ?_) (fun he => ?_)
      · rw [he] at i2
        have q := grS_end h_x0_works i2.symm
        rw [q] at i1
        exact i1
      have wf := grS_wf (coins := x0_coins) (good := x0_good) (G := g6) (yr := g10) hW0 i
      have ho : (0 ≤ z33 ∧ z33.toNatClampNeg < g8.toNatClampNeg) ∧ (grS x0_coins x0_good g6 g8 g10 ((g2, x0_line, x0_changes), x0_work) i).1.2 z33.toNatClampNeg 4 = 0 := by
        rcases firS_ok (coins := x0_coins) (good := x0_good) (G := g6) (yr := g10) (S := (grS x0_coins x0_good g6 g8 g10 ((g2, x0_line, x0_changes), x0_work) i).1) h_x0_works with o | o
        · rw [← i2] at o
          exact absurd o he
        · rw [← i2] at o
          exact o
      obtain ⟨hpl, hp6⟩ := okK_lt h_x0_works ho.1
      have hd0 : z37 z33.toNatClampNeg 4 = 0 := by
        rw [← ho.2]
        exact (i3.2 _ ho.1.2 4 (by decide)).symm
      refine Sf.someb (fun t72 e72 => ?_)
      refine Sf.bind (Sf.and (sX7_does h_x1_shelf h_x1_rowSize h_x1_tapeSize l1 l2 l3 b4 h_x0_goods b6 h_x0_works l4 h_x0_years h_x1_from h_x1_far h_x1_way h_x1_steps h_x1_queue hp6) (doesR l1 l4 hp6)) ?_
      rintro ⟨g73, g74, g75, g76⟩ ⟨⟨d1, d2, d3, d4, d5⟩, a1, a2⟩
      have d1 : 0 ≤ g73 ∧ g73 ≤ 20 := d1
      have d2 : LnM g74 := d2
      have d3 : AI 0 99 g75 := d3
      have d4 : WkM g76 := d4
      have a1 : AbEq (g73, g74, g75) (doA z37 z33.toNatClampNeg (z34, z35, z36)) := a1
      have a2 : g76 = va_up z37 z33.toNatClampNeg (va_up (z37 z33.toNatClampNeg) 4 1) := a2
      have ey : yearA z33 ((z34, z35, z36), z37) = (doA z37 z33.toNatClampNeg (z34, z35, z36), va_up z37 z33.toNatClampNeg (va_up (z37 z33.toNatClampNeg) 4 1)) := if_neg he
      have nxg : grS x0_coins x0_good g6 g8 g10 ((g2, x0_line, x0_changes), x0_work) (i + 1) = (yearA z33 (grS x0_coins x0_good g6 g8 g10 ((g2, x0_line, x0_changes), x0_work) i).1, z32 ||| ((1 : Int32) <<< (z33 &&& 31))) := by
        rw [grS_some (by rw [← i2]; exact he), ← i2, ← i1]
      have hS : SEq g8.toNatClampNeg (yearA z33 (grS x0_coins x0_good g6 g8 g10 ((g2, x0_line, x0_changes), x0_work) i).1) ((g73, g74, g75), g76) := by
        refine (yearA_congr i3 wf (Or.inr ho.1)).trans ?_
        rw [ey, a2]
        exact ⟨a1.symm, fun _ _ _ _ => rfl⟩
      have wf3 : WfS g8.toNatClampNeg ((g73, g74, g75), g76) := (yearA_wf wf).congr hS
      try dsimp only [u4]
      refine Sf.bind (Sf.and (sX7_first hn h_x1_shelf h_x1_rowSize h_x1_tapeSize d1 d2 d3 b4 h_x0_goods b6 h_x0_works d4 h_x0_years h_x1_from h_x1_far h_x1_way h_x1_steps h_x1_queue h_x2_shelf h_x2_rowSize h_x2_tapeSize m1 m2 m3 m4 m5 m6 m7 m8 m9 h_x2_from m10 h_x2_way h_x2_steps h_x2_queue) (firstR hn h_x1_shelf h_x1_rowSize h_x1_tapeSize d1 d2 d3 b4 h_x0_goods b6 h_x0_works d4 h_x0_years h_x1_from h_x1_far h_x1_way h_x1_steps h_x1_queue h_x2_shelf h_x2_rowSize h_x2_tapeSize m1 m2 m3 m4 m5 m6 m7 m8 m9 h_x2_from m10 h_x2_way h_x2_steps h_x2_queue wf3.2)) ?_
      rintro ⟨v78, g80, g81, g82, g83, g84, g85, g86, g87, g88, g89, g90, g91, g92, g93⟩ ⟨⟨_, c1, c2, c3, c4, c5, c6, c7, c8, c9, c10, _⟩, e78⟩
      have e78 : v78 = FirA (g73, g74, g75) g5 g7 g6 g76 g8 g10 := e78
      try dsimp only [u14]
      refine Sf.inl ⟨⟨i + 1, ?_, ?_, ?_⟩, ⟨d1, d2, d3, d4⟩, c1, c2, c3, c4, c5, c6, c7, c8, c9, c10⟩ ?_
      · rw [nxg]; exact e72
      · rw [nxg, e78]
        exact (hS.fir (yearA_wf wf) hco hgd).symm
      · rw [nxg]; exact hS
      · show guU g76 < guU z37
        rw [a2]
        exact guU_lt (by omega) hd0
    · exact ⟨⟨0, rfl, e14, hS0⟩, ⟨h_x0_lines, b2, b3, b8⟩, c1, c2, c3, c4, c5, c6, c7, c8, c9, c10⟩
  · rintro ⟨w53, w54, w55, w56, w57, w58, w59, w60, w61, w62, w63, w64, w65, w66, w67, w68, w69, w70, w71⟩ h
    exact Sf.ok h
theorem greedyC {n : Nat} {x0_refused : (Nat → Int32)} {x0_isKept : Int32} {x0_gone : Int32} {x0_spent : Int32} {x1_gained : Nat → Int32} {x2_lineCount : Int32} {x2_goodsCount : Int32} {x2_workCount : Int32} {x2_years : Int32} {x2_lines : (Nat → Int32)} {x2_goods : (Nat → Int32)} {x2_works : (Nat → Int32)} {x2_change : (Nat → Int32)} {x2_coin : (Nat → Int32)} {x2_knownFree : (Nat → Int32)} {x2_isKnown : Int32} {x3_lineCount : Int32} {x3_goodsCount : Int32} {x3_workCount : Int32} {x3_years : Int32} {x3_lines : (Nat → Int32)} {x3_goods : (Nat → Int32)} {x3_works : (Nat → Int32)} {x3_change : (Nat → Int32)} {x3_coin : (Nat → Int32)} {x3_knownFree : (Nat → Int32)} {x3_isKnown : Int32} {x4_lineCount : Int32} {x4_goodsCount : Int32} {x4_workCount : Int32} {x4_years : Int32} {x4_lines : (Nat → Int32)} {x4_goods : (Nat → Int32)} {x4_works : (Nat → Int32)} {x4_change : (Nat → Int32)} {x4_coin : (Nat → Int32)} {x4_knownFree : (Nat → Int32)} {x4_isKnown : Int32} {x5_left : (Nat → Int32)} {x5_earned : (Nat → Int32)} {x5_turnCost : Int32} {x5_turnWayless : Int32} {x6_edgeA : (Nat → Int32)} {x6_edgeB : (Nat → Int32)} {x6_edgeCost : (Nat → Int32)} {x6_edgeLine : (Nat → Int32)} {x6_change : (Nat → Int32)} {x6_away : (Nat → Int32)} {x6_steps : (Nat → Int32)} {x6_nodes : (Nat → Int32)} {x6_stepCount : Int32} {x6_open : (Nat → Int32)} {x6_openCount : Int32} {x6_seen : Int64} {x6_edgeCount : Int32} {x6_aim : Int32} (hn : 1000000000000 ≤ n) (h_x2_lineCount : (0 ≤ x2_lineCount ∧ x2_lineCount ≤ 20)) (h_x2_goodsCount : (0 ≤ x2_goodsCount ∧ x2_goodsCount ≤ 8)) (h_x2_workCount : (0 ≤ x2_workCount ∧ x2_workCount ≤ 7)) (h_x2_years : (1 ≤ x2_years ∧ x2_years ≤ 30)) (h_x2_lines : (LnOk x2_lines)) (h_x2_goods : (GdOk x2_goods)) (h_x2_works : (WkOk x2_works)) (h_x2_change : (AI 0 99 x2_change)) (h_x2_coin : (AI 0 9 x2_coin)) (h_x3_lineCount : (0 ≤ x3_lineCount ∧ x3_lineCount ≤ 20)) (h_x3_goodsCount : (0 ≤ x3_goodsCount ∧ x3_goodsCount ≤ 8)) (h_x3_workCount : (0 ≤ x3_workCount ∧ x3_workCount ≤ 7)) (h_x3_years : (1 ≤ x3_years ∧ x3_years ≤ 30)) (h_x3_lines : (LnOk x3_lines)) (h_x3_goods : (GdOk x3_goods)) (h_x3_works : (WkOk x3_works)) (h_x3_change : (AI 0 99 x3_change)) (h_x3_coin : (AI 0 9 x3_coin)) (h_x4_lineCount : (0 ≤ x4_lineCount ∧ x4_lineCount ≤ 20)) (h_x4_goodsCount : (0 ≤ x4_goodsCount ∧ x4_goodsCount ≤ 8)) (h_x4_workCount : (0 ≤ x4_workCount ∧ x4_workCount ≤ 7)) (h_x4_years : (1 ≤ x4_years ∧ x4_years ≤ 30)) (h_x4_lines : (LnOk x4_lines)) (h_x4_goods : (GdOk x4_goods)) (h_x4_works : (WkOk x4_works)) (h_x4_change : (AI 0 99 x4_change)) (h_x4_coin : (AI 0 9 x4_coin)) (h_x6_edgeA : (AI 0 35 x6_edgeA)) (h_x6_edgeB : (AI 0 35 x6_edgeB)) (h_x6_edgeLine : (AI 0 19 x6_edgeLine)) (h_x6_steps : (AI 0 22 x6_steps)) (h_x6_nodes : (AI 0 35 x6_nodes)) (h_x6_stepCount : (0 ≤ x6_stepCount ∧ x6_stepCount ≤ 36)) (h_x6_open : (AI 0 35 x6_open)) (h_x6_openCount : (0 ≤ x6_openCount ∧ x6_openCount ≤ 36)) (h_x6_edgeCount : (0 ≤ x6_edgeCount ∧ x6_edgeCount ≤ 60)) (hf : ∀ k, k < x4_workCount.toNatClampNeg → Wf1 (ro 5 x4_works) x4_lineCount k) : Sf (fX6_greedy n (x0_refused, x0_isKept, x0_gone, x0_spent) x1_gained (x2_lineCount, x2_goodsCount, x2_workCount, x2_years, x2_lines, x2_goods, x2_works, x2_change, x2_coin, x2_knownFree, x2_isKnown) (x3_lineCount, x3_goodsCount, x3_workCount, x3_years, x3_lines, x3_goods, x3_works, x3_change, x3_coin, x3_knownFree, x3_isKnown) (x4_lineCount, x4_goodsCount, x4_workCount, x4_years, x4_lines, x4_goods, x4_works, x4_change, x4_coin, x4_knownFree, x4_isKnown) (x5_left, x5_earned, x5_turnCost, x5_turnWayless) (x6_edgeA, x6_edgeB, x6_edgeCost, x6_edgeLine, x6_change, x6_away, x6_steps, x6_nodes, x6_stepCount, x6_open, x6_openCount, x6_seen, x6_edgeCount, x6_aim)) (fun r => r.1 = (grS x4_coin (ro 3 x4_goods) x4_goodsCount x4_workCount x4_years ((x4_lineCount, ro 7 x4_lines, x4_change), ro 5 x4_works) 7).2) := by
  unfold fX6_greedy
  dsimp only [u4, u14, u11]
  refine Sf.bind (greedyOfC hn h_x2_lineCount h_x2_goodsCount h_x2_workCount h_x2_years h_x2_lines h_x2_goods h_x2_works h_x2_change h_x2_coin h_x6_edgeA h_x6_edgeB h_x6_edgeLine h_x6_steps h_x6_nodes h_x6_stepCount h_x6_open h_x6_openCount h_x6_edgeCount h_x3_lineCount h_x3_goodsCount h_x3_workCount h_x3_years h_x3_lines h_x3_goods h_x3_works h_x3_change h_x3_coin h_x4_lineCount h_x4_goodsCount h_x4_workCount h_x4_years h_x4_lines h_x4_goods h_x4_works h_x4_change h_x4_coin hf) ?_
  rintro ⟨v1, ⟨g3, g4, g5, g6, g7, g8, g9, g10, g11, g12, g13⟩, ⟨g15, g16, g17, g18, g19, g20, g21, g22⟩, ⟨g24, g25, g26, g27, g28, g29, g30, g31, g32, g33⟩⟩ e
  exact Sf.ok e
theorem dGreedy {n : Nat} {x0_refused : (Nat → Int32)} {x0_isKept : Int32} {x0_gone : Int32} {x0_spent : Int32} {x1_gained : Nat → Int32} {x2_lineCount : Int32} {x2_goodsCount : Int32} {x2_workCount : Int32} {x2_years : Int32} {x2_lines : (Nat → Int32)} {x2_goods : (Nat → Int32)} {x2_works : (Nat → Int32)} {x2_change : (Nat → Int32)} {x2_coin : (Nat → Int32)} {x2_knownFree : (Nat → Int32)} {x2_isKnown : Int32} {x3_lineCount : Int32} {x3_goodsCount : Int32} {x3_workCount : Int32} {x3_years : Int32} {x3_lines : (Nat → Int32)} {x3_goods : (Nat → Int32)} {x3_works : (Nat → Int32)} {x3_change : (Nat → Int32)} {x3_coin : (Nat → Int32)} {x3_knownFree : (Nat → Int32)} {x3_isKnown : Int32} {x4_lineCount : Int32} {x4_goodsCount : Int32} {x4_workCount : Int32} {x4_years : Int32} {x4_lines : (Nat → Int32)} {x4_goods : (Nat → Int32)} {x4_works : (Nat → Int32)} {x4_change : (Nat → Int32)} {x4_coin : (Nat → Int32)} {x4_knownFree : (Nat → Int32)} {x4_isKnown : Int32} {x5_left : (Nat → Int32)} {x5_earned : (Nat → Int32)} {x5_turnCost : Int32} {x5_turnWayless : Int32} {x6_edgeA : (Nat → Int32)} {x6_edgeB : (Nat → Int32)} {x6_edgeCost : (Nat → Int32)} {x6_edgeLine : (Nat → Int32)} {x6_change : (Nat → Int32)} {x6_away : (Nat → Int32)} {x6_steps : (Nat → Int32)} {x6_nodes : (Nat → Int32)} {x6_stepCount : Int32} {x6_open : (Nat → Int32)} {x6_openCount : Int32} {x6_seen : Int64} {x6_edgeCount : Int32} {x6_aim : Int32} {m_shelf : (Nat → Int32)} {m_rowSort : (Nat → Int32)} {m_rowSize : (Nat → Int32)} {m_rows : (Nat → Nat → Int64)} {m_moved : (Nat → Int64)} {m_shown : (Nat → Int32)} {m_tape : (Nat → Int32)} {m_tapeSize : Int32} {m_refused : (Nat → Int32)} {m_lines : Int32} {m_line : (Nat → Nat → Int32)} {m_changes : (Nat → Int32)} {m_coins : (Nat → Int32)} {m_goods : Int32} {m_good : (Nat → Nat → Int32)} {m_works : Int32} {m_work : (Nat → Nat → Int32)} {m_years : Int32} {m_gone : Int32} {m_spent : Int32} {m_at : Int32} {m_token : Int32} {m_from : Int32} {m_figures : Int64} {m_fault : Int32} {m_numbers : (Nat → Int32)} {m_statements : Int32} {m_left : (Nat → Int32)} {m_far : (Nat → Int32)} {m_tons : Int32} {m_way : (Nat → Int32)} {m_steps : Int32} {m_met : Int64} {m_queue : (Nat → Int32)} {m_totals : (Nat → Int32)} {c_shelf : (Nat → Int32)} {c_rowSort : (Nat → Int32)} {c_rowSize : (Nat → Int32)} {c_rows : (Nat → Nat → Int64)} {c_moved : (Nat → Int64)} {c_shown : (Nat → Int32)} {c_tape : (Nat → Int32)} {c_tapeSize : Int32} {c_refused : (Nat → Int32)} {c_lines : Int32} {c_line : (Nat → Nat → Int32)} {c_changes : (Nat → Int32)} {c_coins : (Nat → Int32)} {c_goods : Int32} {c_good : (Nat → Nat → Int32)} {c_works : Int32} {c_work : (Nat → Nat → Int32)} {c_years : Int32} {c_gone : Int32} {c_spent : Int32} {c_at : Int32} {c_token : Int32} {c_from : Int32} {c_figures : Int64} {c_fault : Int32} {c_numbers : (Nat → Int32)} {c_statements : Int32} {c_left : (Nat → Int32)} {c_far : (Nat → Int32)} {c_tons : Int32} {c_way : (Nat → Int32)} {c_steps : Int32} {c_met : Int64} {c_queue : (Nat → Int32)} {c_totals : (Nat → Int32)} {t_shelf : (Nat → Int32)} {t_rowSort : (Nat → Int32)} {t_rowSize : (Nat → Int32)} {t_rows : (Nat → Nat → Int64)} {t_moved : (Nat → Int64)} {t_shown : (Nat → Int32)} {t_tape : (Nat → Int32)} {t_tapeSize : Int32} {t_refused : (Nat → Int32)} {t_lines : Int32} {t_line : (Nat → Nat → Int32)} {t_changes : (Nat → Int32)} {t_coins : (Nat → Int32)} {t_goods : Int32} {t_good : (Nat → Nat → Int32)} {t_works : Int32} {t_work : (Nat → Nat → Int32)} {t_years : Int32} {t_gone : Int32} {t_spent : Int32} {t_at : Int32} {t_token : Int32} {t_from : Int32} {t_figures : Int64} {t_fault : Int32} {t_numbers : (Nat → Int32)} {t_statements : Int32} {t_left : (Nat → Int32)} {t_far : (Nat → Int32)} {t_tons : Int32} {t_way : (Nat → Int32)} {t_steps : Int32} {t_met : Int64} {t_queue : (Nat → Int32)} {t_totals : (Nat → Int32)} {er fr : Int32} {A6 : (Int32 × Int32 × Int32 × Int32 × (Nat → Int32) × (Nat → Int32) × (Nat → Int32) × (Nat → Int32) × (Nat → Int32) × (Nat → Int32) × Int32) × (Int32 × Int32 × Int32 × Int32 × (Nat → Int32) × (Nat → Int32) × (Nat → Int32) × (Nat → Int32) × (Nat → Int32) × Int32) × ((Nat → Int32) × (Nat → Int32) × (Nat → Int32) × (Nat → Int32) × (Nat → Int32) × (Nat → Int32) × Int32 × Int32)} {B6 : (Int32 × (Nat → Nat → Int32) × (Nat → Int32) × (Nat → Int32) × Int32 × (Nat → Nat → Int32) × Int32 × (Nat → Nat → Int32) × Int32 × Int32 × Int32) × (Int32 × (Nat → Nat → Int32) × (Nat → Int32) × (Nat → Int32) × Int32 × (Nat → Nat → Int32) × Int32 × (Nat → Nat → Int32) × Int32 × Int32 × Int32 × (Nat → Int32) × (Nat → Int32) × Int32)} (hn : 1000000000000 ≤ n) (h_x2_lineCount : (0 ≤ x2_lineCount ∧ x2_lineCount ≤ 20)) (h_x2_goodsCount : (0 ≤ x2_goodsCount ∧ x2_goodsCount ≤ 8)) (h_x2_workCount : (0 ≤ x2_workCount ∧ x2_workCount ≤ 7)) (h_x2_years : (1 ≤ x2_years ∧ x2_years ≤ 30)) (h_x2_lines : (LnOk x2_lines)) (h_x2_goods : (GdOk x2_goods)) (h_x2_works : (WkOk x2_works)) (h_x2_change : (AI 0 99 x2_change)) (h_x2_coin : (AI 0 9 x2_coin)) (h_x3_lineCount : (0 ≤ x3_lineCount ∧ x3_lineCount ≤ 20)) (h_x3_goodsCount : (0 ≤ x3_goodsCount ∧ x3_goodsCount ≤ 8)) (h_x3_workCount : (0 ≤ x3_workCount ∧ x3_workCount ≤ 7)) (h_x3_years : (1 ≤ x3_years ∧ x3_years ≤ 30)) (h_x3_lines : (LnOk x3_lines)) (h_x3_goods : (GdOk x3_goods)) (h_x3_works : (WkOk x3_works)) (h_x3_change : (AI 0 99 x3_change)) (h_x3_coin : (AI 0 9 x3_coin)) (h_x4_lineCount : (0 ≤ x4_lineCount ∧ x4_lineCount ≤ 20)) (h_x4_goodsCount : (0 ≤ x4_goodsCount ∧ x4_goodsCount ≤ 8)) (h_x4_workCount : (0 ≤ x4_workCount ∧ x4_workCount ≤ 7)) (h_x4_years : (1 ≤ x4_years ∧ x4_years ≤ 30)) (h_x4_lines : (LnOk x4_lines)) (h_x4_goods : (GdOk x4_goods)) (h_x4_works : (WkOk x4_works)) (h_x4_change : (AI 0 99 x4_change)) (h_x4_coin : (AI 0 9 x4_coin)) (h_x6_edgeA : (AI 0 35 x6_edgeA)) (h_x6_edgeB : (AI 0 35 x6_edgeB)) (h_x6_edgeLine : (AI 0 19 x6_edgeLine)) (h_x6_steps : (AI 0 22 x6_steps)) (h_x6_nodes : (AI 0 35 x6_nodes)) (h_x6_stepCount : (0 ≤ x6_stepCount ∧ x6_stepCount ≤ 36)) (h_x6_open : (AI 0 35 x6_open)) (h_x6_openCount : (0 ≤ x6_openCount ∧ x6_openCount ≤ 36)) (h_x6_edgeCount : (0 ≤ x6_edgeCount ∧ x6_edgeCount ≤ 60)) (h_m_shelf : (AI 0 2 m_shelf)) (h_m_rowSize : (AI 0 40 m_rowSize)) (h_m_tapeSize : (0 ≤ m_tapeSize ∧ m_tapeSize ≤ 250)) (h_m_lines : (0 ≤ m_lines ∧ m_lines ≤ 20)) (h_m_line : (LnM m_line)) (h_m_changes : (AI 0 99 m_changes)) (h_m_coins : (AI 0 9 m_coins)) (h_m_goods : (0 ≤ m_goods ∧ m_goods ≤ 8)) (h_m_good : (GdM m_good)) (h_m_works : (0 ≤ m_works ∧ m_works ≤ 7)) (h_m_work : (WkM m_work)) (h_m_years : (1 ≤ m_years ∧ m_years ≤ 30)) (h_m_from : (0 ≤ m_from ∧ m_from ≤ 250)) (h_m_far : (AI 0 1000000000 m_far)) (h_m_way : (AI 0 22 m_way)) (h_m_steps : (0 ≤ m_steps ∧ m_steps ≤ 37)) (h_m_queue : (AI 0 35 m_queue)) (h_c_shelf : (AI 0 2 c_shelf)) (h_c_rowSize : (AI 0 40 c_rowSize)) (h_c_tapeSize : (0 ≤ c_tapeSize ∧ c_tapeSize ≤ 250)) (h_c_lines : (0 ≤ c_lines ∧ c_lines ≤ 20)) (h_c_line : (LnM c_line)) (h_c_changes : (AI 0 99 c_changes)) (h_c_coins : (AI 0 9 c_coins)) (h_c_goods : (0 ≤ c_goods ∧ c_goods ≤ 8)) (h_c_good : (GdM c_good)) (h_c_works : (0 ≤ c_works ∧ c_works ≤ 7)) (h_c_work : (WkM c_work)) (h_c_years : (1 ≤ c_years ∧ c_years ≤ 30)) (h_c_from : (0 ≤ c_from ∧ c_from ≤ 250)) (h_c_far : (AI 0 1000000000 c_far)) (h_c_way : (AI 0 22 c_way)) (h_c_steps : (0 ≤ c_steps ∧ c_steps ≤ 37)) (h_c_queue : (AI 0 35 c_queue)) (h_t_shelf : (AI 0 2 t_shelf)) (h_t_rowSize : (AI 0 40 t_rowSize)) (h_t_tapeSize : (0 ≤ t_tapeSize ∧ t_tapeSize ≤ 250)) (h_t_lines : (0 ≤ t_lines ∧ t_lines ≤ 20)) (h_t_line : (LnM t_line)) (h_t_changes : (AI 0 99 t_changes)) (h_t_coins : (AI 0 9 t_coins)) (h_t_goods : (0 ≤ t_goods ∧ t_goods ≤ 8)) (h_t_good : (GdM t_good)) (h_t_works : (0 ≤ t_works ∧ t_works ≤ 7)) (h_t_work : (WkM t_work)) (h_t_years : (1 ≤ t_years ∧ t_years ≤ 30)) (h_t_from : (0 ≤ t_from ∧ t_from ≤ 250)) (h_t_far : (AI 0 1000000000 t_far)) (h_t_way : (AI 0 22 t_way)) (h_t_steps : (0 ≤ t_steps ∧ t_steps ≤ 37)) (h_t_queue : (AI 0 35 t_queue)) (hA : (LaD x4_lineCount x4_goodsCount x4_workCount x4_years x4_lines x4_goods x4_works x4_change x4_coin m_lines m_line m_changes m_coins m_goods m_good m_works m_work m_years)) (eqA : fX6_greedy n (x0_refused, x0_isKept, x0_gone, x0_spent) x1_gained (x2_lineCount, x2_goodsCount, x2_workCount, x2_years, x2_lines, x2_goods, x2_works, x2_change, x2_coin, x2_knownFree, x2_isKnown) (x3_lineCount, x3_goodsCount, x3_workCount, x3_years, x3_lines, x3_goods, x3_works, x3_change, x3_coin, x3_knownFree, x3_isKnown) (x4_lineCount, x4_goodsCount, x4_workCount, x4_years, x4_lines, x4_goods, x4_works, x4_change, x4_coin, x4_knownFree, x4_isKnown) (x5_left, x5_earned, x5_turnCost, x5_turnWayless) (x6_edgeA, x6_edgeB, x6_edgeCost, x6_edgeLine, x6_change, x6_away, x6_steps, x6_nodes, x6_stepCount, x6_open, x6_openCount, x6_seen, x6_edgeCount, x6_aim) = some (er, A6)) (eqB : fX7_greedy n (m_shelf, m_rowSort, m_rowSize, m_rows, m_moved, m_shown, m_tape, m_tapeSize, m_refused, m_lines, m_line, m_changes, m_coins, m_goods, m_good, m_works, m_work, m_years, m_gone, m_spent, m_at, m_token, m_from, m_figures, m_fault, m_numbers, m_statements, m_left, m_far, m_tons, m_way, m_steps, m_met, m_queue, m_totals) (c_shelf, c_rowSort, c_rowSize, c_rows, c_moved, c_shown, c_tape, c_tapeSize, c_refused, c_lines, c_line, c_changes, c_coins, c_goods, c_good, c_works, c_work, c_years, c_gone, c_spent, c_at, c_token, c_from, c_figures, c_fault, c_numbers, c_statements, c_left, c_far, c_tons, c_way, c_steps, c_met, c_queue, c_totals) (t_shelf, t_rowSort, t_rowSize, t_rows, t_moved, t_shown, t_tape, t_tapeSize, t_refused, t_lines, t_line, t_changes, t_coins, t_goods, t_good, t_works, t_work, t_years, t_gone, t_spent, t_at, t_token, t_from, t_figures, t_fault, t_numbers, t_statements, t_left, t_far, t_tons, t_way, t_steps, t_met, t_queue, t_totals) = some (fr, B6)) : er = fr := by
  have a := (greedyC hn h_x2_lineCount h_x2_goodsCount h_x2_workCount h_x2_years h_x2_lines h_x2_goods h_x2_works h_x2_change h_x2_coin h_x3_lineCount h_x3_goodsCount h_x3_workCount h_x3_years h_x3_lines h_x3_goods h_x3_works h_x3_change h_x3_coin h_x4_lineCount h_x4_goodsCount h_x4_workCount h_x4_years h_x4_lines h_x4_goods h_x4_works h_x4_change h_x4_coin h_x6_edgeA h_x6_edgeB h_x6_edgeLine h_x6_steps h_x6_nodes h_x6_stepCount h_x6_open h_x6_openCount h_x6_edgeCount hA.2.2.2.2.2.2).at eqA
  obtain ⟨⟨z1, z2, z3, z4⟩, z5, z6, z7, z8, z9, z10⟩ := id hA
  have hS := hA.s
  subst z1 z2 z3 z4
  have hW : WfS x4_workCount.toNatClampNeg ((x4_lineCount, ro 7 x4_lines, x4_change), ro 5 x4_works) := ⟨h_x4_lineCount, z10⟩
  have hW2 := hW.congr hS
  have b := (greedyV hn h_m_shelf h_m_rowSize h_m_tapeSize h_x4_lineCount h_m_line h_m_changes h_m_coins h_x4_goodsCount h_m_good h_x4_workCount h_m_work h_x4_years h_m_from h_m_far h_m_way h_m_steps h_m_queue h_c_shelf h_c_rowSize h_c_tapeSize h_c_lines h_c_line h_c_changes h_c_coins h_c_goods h_c_good h_c_works h_c_work h_c_years h_c_from h_c_far h_c_way h_c_steps h_c_queue h_t_shelf h_t_rowSize h_t_tapeSize h_t_lines h_t_line h_t_changes h_t_coins h_t_goods h_t_good h_t_works h_t_work h_t_years h_t_from h_t_far h_t_way h_t_steps h_t_queue hW2.2).at eqB
  exact (a.trans (grS_congr h_x4_workCount hS hW z9 z6 7).2).trans b.symm
theorem gapC {n : Nat} {x0_refused : (Nat → Int32)} {x0_isKept : Int32} {x0_gone : Int32} {x0_spent : Int32} {x1_gained : Nat → Int32} {x2_lineCount : Int32} {x2_goodsCount : Int32} {x2_workCount : Int32} {x2_years : Int32} {x2_lines : (Nat → Int32)} {x2_goods : (Nat → Int32)} {x2_works : (Nat → Int32)} {x2_change : (Nat → Int32)} {x2_coin : (Nat → Int32)} {x2_knownFree : (Nat → Int32)} {x2_isKnown : Int32} {x3_lineCount : Int32} {x3_goodsCount : Int32} {x3_workCount : Int32} {x3_years : Int32} {x3_lines : (Nat → Int32)} {x3_goods : (Nat → Int32)} {x3_works : (Nat → Int32)} {x3_change : (Nat → Int32)} {x3_coin : (Nat → Int32)} {x3_knownFree : (Nat → Int32)} {x3_isKnown : Int32} {x4_lineCount : Int32} {x4_goodsCount : Int32} {x4_workCount : Int32} {x4_years : Int32} {x4_lines : (Nat → Int32)} {x4_goods : (Nat → Int32)} {x4_works : (Nat → Int32)} {x4_change : (Nat → Int32)} {x4_coin : (Nat → Int32)} {x4_knownFree : (Nat → Int32)} {x4_isKnown : Int32} {x5_left : (Nat → Int32)} {x5_earned : (Nat → Int32)} {x5_turnCost : Int32} {x5_turnWayless : Int32} {x6_edgeA : (Nat → Int32)} {x6_edgeB : (Nat → Int32)} {x6_edgeCost : (Nat → Int32)} {x6_edgeLine : (Nat → Int32)} {x6_change : (Nat → Int32)} {x6_away : (Nat → Int32)} {x6_steps : (Nat → Int32)} {x6_nodes : (Nat → Int32)} {x6_stepCount : Int32} {x6_open : (Nat → Int32)} {x6_openCount : Int32} {x6_seen : Int64} {x6_edgeCount : Int32} {x6_aim : Int32} (hn : 1000000000000 ≤ n) (h_x2_lineCount : (0 ≤ x2_lineCount ∧ x2_lineCount ≤ 20)) (h_x2_goodsCount : (0 ≤ x2_goodsCount ∧ x2_goodsCount ≤ 8)) (h_x2_workCount : (0 ≤ x2_workCount ∧ x2_workCount ≤ 7)) (h_x2_years : (1 ≤ x2_years ∧ x2_years ≤ 30)) (h_x2_lines : (LnOk x2_lines)) (h_x2_goods : (GdOk x2_goods)) (h_x2_works : (WkOk x2_works)) (h_x2_change : (AI 0 99 x2_change)) (h_x2_coin : (AI 0 9 x2_coin)) (h_x3_lineCount : (0 ≤ x3_lineCount ∧ x3_lineCount ≤ 20)) (h_x3_goodsCount : (0 ≤ x3_goodsCount ∧ x3_goodsCount ≤ 8)) (h_x3_workCount : (0 ≤ x3_workCount ∧ x3_workCount ≤ 7)) (h_x3_years : (1 ≤ x3_years ∧ x3_years ≤ 30)) (h_x3_lines : (LnOk x3_lines)) (h_x3_goods : (GdOk x3_goods)) (h_x3_works : (WkOk x3_works)) (h_x3_change : (AI 0 99 x3_change)) (h_x3_coin : (AI 0 9 x3_coin)) (h_x4_lineCount : (0 ≤ x4_lineCount ∧ x4_lineCount ≤ 20)) (h_x4_goodsCount : (0 ≤ x4_goodsCount ∧ x4_goodsCount ≤ 8)) (h_x4_workCount : (0 ≤ x4_workCount ∧ x4_workCount ≤ 7)) (h_x4_years : (1 ≤ x4_years ∧ x4_years ≤ 30)) (h_x4_lines : (LnOk x4_lines)) (h_x4_goods : (GdOk x4_goods)) (h_x4_works : (WkOk x4_works)) (h_x4_change : (AI 0 99 x4_change)) (h_x4_coin : (AI 0 9 x4_coin)) (h_x6_edgeA : (AI 0 35 x6_edgeA)) (h_x6_edgeB : (AI 0 35 x6_edgeB)) (h_x6_edgeLine : (AI 0 19 x6_edgeLine)) (h_x6_steps : (AI 0 22 x6_steps)) (h_x6_nodes : (AI 0 35 x6_nodes)) (h_x6_stepCount : (0 ≤ x6_stepCount ∧ x6_stepCount ≤ 36)) (h_x6_open : (AI 0 35 x6_open)) (h_x6_openCount : (0 ≤ x6_openCount ∧ x6_openCount ≤ 36)) (h_x6_edgeCount : (0 ≤ x6_edgeCount ∧ x6_edgeCount ≤ 60)) (hf : ∀ k, k < x4_workCount.toNatClampNeg → Wf1 (ro 5 x4_works) x4_lineCount k) (hk : Kn (FrS x4_lineCount (ro 7 x4_lines) x4_change x4_coin (ro 3 x4_goods) x4_goodsCount (ro 5 x4_works) x4_workCount) x4_knownFree x4_isKnown) {t : Nat → Int32} (ht : ∀ z : Int32, 0 ≤ z → TotA (x4_lineCount, ro 7 x4_lines, x4_change) x4_coin (ro 3 x4_goods) x4_goodsCount (ro 5 x4_works) x4_workCount x4_years z = t z.toNatClampNeg) : Sf (fX6_gap n (x0_refused, x0_isKept, x0_gone, x0_spent) x1_gained (x2_lineCount, x2_goodsCount, x2_workCount, x2_years, x2_lines, x2_goods, x2_works, x2_change, x2_coin, x2_knownFree, x2_isKnown) (x3_lineCount, x3_goodsCount, x3_workCount, x3_years, x3_lines, x3_goods, x3_works, x3_change, x3_coin, x3_knownFree, x3_isKnown) (x4_lineCount, x4_goodsCount, x4_workCount, x4_years, x4_lines, x4_goods, x4_works, x4_change, x4_coin, x4_knownFree, x4_isKnown) (x5_left, x5_earned, x5_turnCost, x5_turnWayless) (x6_edgeA, x6_edgeB, x6_edgeCost, x6_edgeLine, x6_change, x6_away, x6_steps, x6_nodes, x6_stepCount, x6_open, x6_openCount, x6_seen, x6_edgeCount, x6_aim)) (fun r => r.1 = TotA (x4_lineCount, ro 7 x4_lines, x4_change) x4_coin (ro 3 x4_goods) x4_goodsCount (ro 5 x4_works) x4_workCount x4_years (grS x4_coin (ro 3 x4_goods) x4_goodsCount x4_workCount x4_years ((x4_lineCount, ro 7 x4_lines, x4_change), ro 5 x4_works) 7).2 - TotA (x4_lineCount, ro 7 x4_lines, x4_change) x4_coin (ro 3 x4_goods) x4_goodsCount (ro 5 x4_works) x4_workCount x4_years (btW t (((1 : Int32) <<< (x4_workCount &&& 31)).toNatClampNeg - 1)).1) := by
  unfold fX6_gap
  dsimp only [u4, u14, u11]
  refine Sf.bind (Sf.and (sX0_greedyOf hn h_x2_lineCount h_x2_goodsCount h_x2_workCount h_x2_years h_x2_lines h_x2_goods h_x2_works h_x2_change h_x2_coin h_x6_edgeA h_x6_edgeB h_x6_edgeLine h_x6_steps h_x6_nodes h_x6_stepCount h_x6_open h_x6_openCount h_x6_edgeCount h_x3_lineCount h_x3_goodsCount h_x3_workCount h_x3_years h_x3_lines h_x3_goods h_x3_works h_x3_change h_x3_coin h_x4_lineCount h_x4_goodsCount h_x4_workCount h_x4_years h_x4_lines h_x4_goods h_x4_works h_x4_change h_x4_coin) (greedyOfC hn h_x2_lineCount h_x2_goodsCount h_x2_workCount h_x2_years h_x2_lines h_x2_goods h_x2_works h_x2_change h_x2_coin h_x6_edgeA h_x6_edgeB h_x6_edgeLine h_x6_steps h_x6_nodes h_x6_stepCount h_x6_open h_x6_openCount h_x6_edgeCount h_x3_lineCount h_x3_goodsCount h_x3_workCount h_x3_years h_x3_lines h_x3_goods h_x3_works h_x3_change h_x3_coin h_x4_lineCount h_x4_goodsCount h_x4_workCount h_x4_years h_x4_lines h_x4_goods h_x4_works h_x4_change h_x4_coin hf)) ?_
  rintro ⟨v1, ⟨g3, g4, g5, g6, g7, g8, g9, g10, g11, g12, g13⟩, ⟨g15, g16, g17, g18, g19, g20, g21, g22⟩, ⟨g24, g25, g26, g27, g28, g29, g30, g31, g32, g33⟩⟩ ⟨hg, e1⟩
  have e1 : v1 = _ := e1
  try dsimp only [u11, u8, u10]
  have hb := hg
  obtain ⟨y1, y2, y3, y4, y5, y6, y7, y8, y9, b1, b2, b3, b4, b5, b6, b7, b8, b9, b10, b11, b12, b13⟩ := hb
  refine Sf.bind (Sf.and (sX0_totalOf hn b1 b2 b3 h_x6_steps h_x6_nodes h_x6_stepCount h_x6_open h_x6_openCount b4 b5 b6 b7 b8 b9 b10 b11 b12 b13 h_x4_lineCount h_x4_goodsCount h_x4_workCount h_x4_years h_x4_lines h_x4_goods h_x4_works h_x4_change h_x4_coin) (totalOfC hn b1 b2 b3 h_x6_steps h_x6_nodes h_x6_stepCount h_x6_open h_x6_openCount b4 b5 b6 b7 b8 b9 b10 b11 b12 b13 h_x4_lineCount h_x4_goodsCount h_x4_workCount h_x4_years h_x4_lines h_x4_goods h_x4_works h_x4_change h_x4_coin hf hk)) ?_
  rintro ⟨v35, ⟨g37, g38, g39, g40, g41, g42, g43, g44⟩, ⟨g46, g47, g48, g49, g50, g51, g52, g53, g54, g55⟩, ⟨g57, g58, g59, g60, g61⟩⟩ ⟨⟨c1, c2, c3, c4, c5, c6, c7, c8, c9, c10, c11, c12, c13, c14, c15, c16⟩, e35, r1, r2, r3, r4⟩
  have e35 : v35 = _ := e35
  have r1 : g57 = x4_lineCount := r1
  have r2 : g58 = x4_lines := r2
  have r3 : g59 = x4_change := r3
  have r4 : Kn _ g60 g61 := r4
  try dsimp only [u8, u10, u5]
  rw [r1, r2, r3]
  refine Sf.bind (Sf.and (sX0_bestOf hn c1 c2 c3 h_x6_steps h_x6_nodes h_x6_stepCount h_x6_open h_x6_openCount c4 c5 c6 c7 c8 c9 c10 c11 c12 c13 h_x4_lineCount h_x4_goodsCount h_x4_workCount h_x4_years h_x4_lines h_x4_goods h_x4_works h_x4_change h_x4_coin) (bestOfC hn c1 c2 c3 h_x6_steps h_x6_nodes h_x6_stepCount h_x6_open h_x6_openCount c4 c5 c6 c7 c8 c9 c10 c11 c12 c13 h_x4_lineCount h_x4_goodsCount h_x4_workCount h_x4_years h_x4_lines h_x4_goods h_x4_works h_x4_change h_x4_coin hf r4 ht)) ?_
  rintro ⟨v63, ⟨g65, g66, g67, g68, g69, g70, g71, g72⟩, ⟨g74, g75, g76, g77, g78, g79, g80, g81, g82, g83⟩, ⟨g85, g86, g87, g88, g89⟩⟩ ⟨hbst, e63, s1, s2, s3, s4⟩
  have e63 : v63 = _ := e63
  obtain ⟨d1, d2, d3, d4, d5, d6, d7, d8, d9, d10, d11, d12, d13, _⟩ := hbst
  have s1 : g85 = x4_lineCount := s1
  have s2 : g86 = x4_lines := s2
  have s3 : g87 = x4_change := s3
  have s4 : Kn _ g88 g89 := s4
  try dsimp only [u8, u10, u5]
  rw [s1, s2, s3]
  refine Sf.bind (totalOfC hn d1 d2 d3 h_x6_steps h_x6_nodes h_x6_stepCount h_x6_open h_x6_openCount d4 d5 d6 d7 d8 d9 d10 d11 d12 d13 h_x4_lineCount h_x4_goodsCount h_x4_workCount h_x4_years h_x4_lines h_x4_goods h_x4_works h_x4_change h_x4_coin hf s4) ?_
  rintro ⟨v91, ⟨g93, g94, g95, g96, g97, g98, g99, g100⟩, ⟨g102, g103, g104, g105, g106, g107, g108, g109, g110, g111⟩, ⟨g113, g114, g115, g116, g117⟩⟩ ⟨e91, q⟩
  have e91 : v91 = _ := e91
  refine Sf.ok (show v35 - v91 = _ from ?_)
  rw [e35, e91, e1, e63]
theorem gapV {n : Nat} {x0_shelf : (Nat → Int32)} {x0_rowSort : (Nat → Int32)} {x0_rowSize : (Nat → Int32)} {x0_rows : (Nat → Nat → Int64)} {x0_moved : (Nat → Int64)} {x0_shown : (Nat → Int32)} {x0_tape : (Nat → Int32)} {x0_tapeSize : Int32} {x0_refused : (Nat → Int32)} {x0_lines : Int32} {x0_line : (Nat → Nat → Int32)} {x0_changes : (Nat → Int32)} {x0_coins : (Nat → Int32)} {x0_goods : Int32} {x0_good : (Nat → Nat → Int32)} {x0_works : Int32} {x0_work : (Nat → Nat → Int32)} {x0_years : Int32} {x0_gone : Int32} {x0_spent : Int32} {x0_at : Int32} {x0_token : Int32} {x0_from : Int32} {x0_figures : Int64} {x0_fault : Int32} {x0_numbers : (Nat → Int32)} {x0_statements : Int32} {x0_left : (Nat → Int32)} {x0_far : (Nat → Int32)} {x0_tons : Int32} {x0_way : (Nat → Int32)} {x0_steps : Int32} {x0_met : Int64} {x0_queue : (Nat → Int32)} {x0_totals : (Nat → Int32)} {x1_shelf : (Nat → Int32)} {x1_rowSort : (Nat → Int32)} {x1_rowSize : (Nat → Int32)} {x1_rows : (Nat → Nat → Int64)} {x1_moved : (Nat → Int64)} {x1_shown : (Nat → Int32)} {x1_tape : (Nat → Int32)} {x1_tapeSize : Int32} {x1_refused : (Nat → Int32)} {x1_lines : Int32} {x1_line : (Nat → Nat → Int32)} {x1_changes : (Nat → Int32)} {x1_coins : (Nat → Int32)} {x1_goods : Int32} {x1_good : (Nat → Nat → Int32)} {x1_works : Int32} {x1_work : (Nat → Nat → Int32)} {x1_years : Int32} {x1_gone : Int32} {x1_spent : Int32} {x1_at : Int32} {x1_token : Int32} {x1_from : Int32} {x1_figures : Int64} {x1_fault : Int32} {x1_numbers : (Nat → Int32)} {x1_statements : Int32} {x1_left : (Nat → Int32)} {x1_far : (Nat → Int32)} {x1_tons : Int32} {x1_way : (Nat → Int32)} {x1_steps : Int32} {x1_met : Int64} {x1_queue : (Nat → Int32)} {x1_totals : (Nat → Int32)} {x2_shelf : (Nat → Int32)} {x2_rowSort : (Nat → Int32)} {x2_rowSize : (Nat → Int32)} {x2_rows : (Nat → Nat → Int64)} {x2_moved : (Nat → Int64)} {x2_shown : (Nat → Int32)} {x2_tape : (Nat → Int32)} {x2_tapeSize : Int32} {x2_refused : (Nat → Int32)} {x2_lines : Int32} {x2_line : (Nat → Nat → Int32)} {x2_changes : (Nat → Int32)} {x2_coins : (Nat → Int32)} {x2_goods : Int32} {x2_good : (Nat → Nat → Int32)} {x2_works : Int32} {x2_work : (Nat → Nat → Int32)} {x2_years : Int32} {x2_gone : Int32} {x2_spent : Int32} {x2_at : Int32} {x2_token : Int32} {x2_from : Int32} {x2_figures : Int64} {x2_fault : Int32} {x2_numbers : (Nat → Int32)} {x2_statements : Int32} {x2_left : (Nat → Int32)} {x2_far : (Nat → Int32)} {x2_tons : Int32} {x2_way : (Nat → Int32)} {x2_steps : Int32} {x2_met : Int64} {x2_queue : (Nat → Int32)} {x2_totals : (Nat → Int32)} {x3_shelf : (Nat → Int32)} {x3_rowSort : (Nat → Int32)} {x3_rowSize : (Nat → Int32)} {x3_rows : (Nat → Nat → Int64)} {x3_moved : (Nat → Int64)} {x3_shown : (Nat → Int32)} {x3_tape : (Nat → Int32)} {x3_tapeSize : Int32} {x3_refused : (Nat → Int32)} {x3_lines : Int32} {x3_line : (Nat → Nat → Int32)} {x3_changes : (Nat → Int32)} {x3_coins : (Nat → Int32)} {x3_goods : Int32} {x3_good : (Nat → Nat → Int32)} {x3_works : Int32} {x3_work : (Nat → Nat → Int32)} {x3_years : Int32} {x3_gone : Int32} {x3_spent : Int32} {x3_at : Int32} {x3_token : Int32} {x3_from : Int32} {x3_figures : Int64} {x3_fault : Int32} {x3_numbers : (Nat → Int32)} {x3_statements : Int32} {x3_left : (Nat → Int32)} {x3_far : (Nat → Int32)} {x3_tons : Int32} {x3_way : (Nat → Int32)} {x3_steps : Int32} {x3_met : Int64} {x3_queue : (Nat → Int32)} {x3_totals : (Nat → Int32)} (hn : 1000000000000 ≤ n) (h_x0_shelf : (AI 0 2 x0_shelf)) (h_x0_rowSize : (AI 0 40 x0_rowSize)) (h_x0_tapeSize : (0 ≤ x0_tapeSize ∧ x0_tapeSize ≤ 250)) (h_x0_lines : (0 ≤ x0_lines ∧ x0_lines ≤ 20)) (h_x0_line : (LnM x0_line)) (h_x0_changes : (AI 0 99 x0_changes)) (h_x0_coins : (AI 0 9 x0_coins)) (h_x0_goods : (0 ≤ x0_goods ∧ x0_goods ≤ 8)) (h_x0_good : (GdM x0_good)) (h_x0_works : (0 ≤ x0_works ∧ x0_works ≤ 7)) (h_x0_work : (WkM x0_work)) (h_x0_years : (1 ≤ x0_years ∧ x0_years ≤ 30)) (h_x0_from : (0 ≤ x0_from ∧ x0_from ≤ 250)) (h_x0_far : (AI 0 1000000000 x0_far)) (h_x0_way : (AI 0 22 x0_way)) (h_x0_steps : (0 ≤ x0_steps ∧ x0_steps ≤ 37)) (h_x0_queue : (AI 0 35 x0_queue)) (h_x1_shelf : (AI 0 2 x1_shelf)) (h_x1_rowSize : (AI 0 40 x1_rowSize)) (h_x1_tapeSize : (0 ≤ x1_tapeSize ∧ x1_tapeSize ≤ 250)) (h_x1_lines : (0 ≤ x1_lines ∧ x1_lines ≤ 20)) (h_x1_line : (LnM x1_line)) (h_x1_changes : (AI 0 99 x1_changes)) (h_x1_coins : (AI 0 9 x1_coins)) (h_x1_goods : (0 ≤ x1_goods ∧ x1_goods ≤ 8)) (h_x1_good : (GdM x1_good)) (h_x1_works : (0 ≤ x1_works ∧ x1_works ≤ 7)) (h_x1_work : (WkM x1_work)) (h_x1_years : (1 ≤ x1_years ∧ x1_years ≤ 30)) (h_x1_from : (0 ≤ x1_from ∧ x1_from ≤ 250)) (h_x1_far : (AI 0 1000000000 x1_far)) (h_x1_way : (AI 0 22 x1_way)) (h_x1_steps : (0 ≤ x1_steps ∧ x1_steps ≤ 37)) (h_x1_queue : (AI 0 35 x1_queue)) (h_x2_shelf : (AI 0 2 x2_shelf)) (h_x2_rowSize : (AI 0 40 x2_rowSize)) (h_x2_tapeSize : (0 ≤ x2_tapeSize ∧ x2_tapeSize ≤ 250)) (h_x2_lines : (0 ≤ x2_lines ∧ x2_lines ≤ 20)) (h_x2_line : (LnM x2_line)) (h_x2_changes : (AI 0 99 x2_changes)) (h_x2_coins : (AI 0 9 x2_coins)) (h_x2_goods : (0 ≤ x2_goods ∧ x2_goods ≤ 8)) (h_x2_good : (GdM x2_good)) (h_x2_works : (0 ≤ x2_works ∧ x2_works ≤ 7)) (h_x2_work : (WkM x2_work)) (h_x2_years : (1 ≤ x2_years ∧ x2_years ≤ 30)) (h_x2_from : (0 ≤ x2_from ∧ x2_from ≤ 250)) (h_x2_far : (AI 0 1000000000 x2_far)) (h_x2_way : (AI 0 22 x2_way)) (h_x2_steps : (0 ≤ x2_steps ∧ x2_steps ≤ 37)) (h_x2_queue : (AI 0 35 x2_queue)) (h_x3_shelf : (AI 0 2 x3_shelf)) (h_x3_rowSize : (AI 0 40 x3_rowSize)) (h_x3_tapeSize : (0 ≤ x3_tapeSize ∧ x3_tapeSize ≤ 250)) (h_x3_lines : (0 ≤ x3_lines ∧ x3_lines ≤ 20)) (h_x3_line : (LnM x3_line)) (h_x3_changes : (AI 0 99 x3_changes)) (h_x3_coins : (AI 0 9 x3_coins)) (h_x3_goods : (0 ≤ x3_goods ∧ x3_goods ≤ 8)) (h_x3_good : (GdM x3_good)) (h_x3_works : (0 ≤ x3_works ∧ x3_works ≤ 7)) (h_x3_work : (WkM x3_work)) (h_x3_years : (1 ≤ x3_years ∧ x3_years ≤ 30)) (h_x3_from : (0 ≤ x3_from ∧ x3_from ≤ 250)) (h_x3_far : (AI 0 1000000000 x3_far)) (h_x3_way : (AI 0 22 x3_way)) (h_x3_steps : (0 ≤ x3_steps ∧ x3_steps ≤ 37)) (h_x3_queue : (AI 0 35 x3_queue)) (hf : ∀ k, k < x0_works.toNatClampNeg → Wf1 x0_work x0_lines k) {t : Nat → Int32} (ht : ∀ z : Int32, 0 ≤ z → TotA (x0_lines, x0_line, x0_changes) x0_coins x0_good x0_goods x0_work x0_works x0_years z = t z.toNatClampNeg) : Sf (fX7_gap n (x0_shelf, x0_rowSort, x0_rowSize, x0_rows, x0_moved, x0_shown, x0_tape, x0_tapeSize, x0_refused, x0_lines, x0_line, x0_changes, x0_coins, x0_goods, x0_good, x0_works, x0_work, x0_years, x0_gone, x0_spent, x0_at, x0_token, x0_from, x0_figures, x0_fault, x0_numbers, x0_statements, x0_left, x0_far, x0_tons, x0_way, x0_steps, x0_met, x0_queue, x0_totals) (x1_shelf, x1_rowSort, x1_rowSize, x1_rows, x1_moved, x1_shown, x1_tape, x1_tapeSize, x1_refused, x1_lines, x1_line, x1_changes, x1_coins, x1_goods, x1_good, x1_works, x1_work, x1_years, x1_gone, x1_spent, x1_at, x1_token, x1_from, x1_figures, x1_fault, x1_numbers, x1_statements, x1_left, x1_far, x1_tons, x1_way, x1_steps, x1_met, x1_queue, x1_totals) (x2_shelf, x2_rowSort, x2_rowSize, x2_rows, x2_moved, x2_shown, x2_tape, x2_tapeSize, x2_refused, x2_lines, x2_line, x2_changes, x2_coins, x2_goods, x2_good, x2_works, x2_work, x2_years, x2_gone, x2_spent, x2_at, x2_token, x2_from, x2_figures, x2_fault, x2_numbers, x2_statements, x2_left, x2_far, x2_tons, x2_way, x2_steps, x2_met, x2_queue, x2_totals) (x3_shelf, x3_rowSort, x3_rowSize, x3_rows, x3_moved, x3_shown, x3_tape, x3_tapeSize, x3_refused, x3_lines, x3_line, x3_changes, x3_coins, x3_goods, x3_good, x3_works, x3_work, x3_years, x3_gone, x3_spent, x3_at, x3_token, x3_from, x3_figures, x3_fault, x3_numbers, x3_statements, x3_left, x3_far, x3_tons, x3_way, x3_steps, x3_met, x3_queue, x3_totals)) (fun r => r.1 = TotA (x0_lines, x0_line, x0_changes) x0_coins x0_good x0_goods x0_work x0_works x0_years (grS x0_coins x0_good x0_goods x0_works x0_years ((x0_lines, x0_line, x0_changes), x0_work) 7).2 - TotA (x0_lines, x0_line, x0_changes) x0_coins x0_good x0_goods x0_work x0_works x0_years (btW t (((1 : Int32) <<< (x0_works &&& 31)).toNatClampNeg - 1)).1) := by
  unfold fX7_gap
  dsimp only [u35]
  refine Sf.bind (greedyV hn h_x0_shelf h_x0_rowSize h_x0_tapeSize h_x0_lines h_x0_line h_x0_changes h_x0_coins h_x0_goods h_x0_good h_x0_works h_x0_work h_x0_years h_x0_from h_x0_far h_x0_way h_x0_steps h_x0_queue h_x1_shelf h_x1_rowSize h_x1_tapeSize h_x1_lines h_x1_line h_x1_changes h_x1_coins h_x1_goods h_x1_good h_x1_works h_x1_work h_x1_years h_x1_from h_x1_far h_x1_way h_x1_steps h_x1_queue h_x2_shelf h_x2_rowSize h_x2_tapeSize h_x2_lines h_x2_line h_x2_changes h_x2_coins h_x2_goods h_x2_good h_x2_works h_x2_work h_x2_years h_x2_from h_x2_far h_x2_way h_x2_steps h_x2_queue hf) ?_
  rintro ⟨v1, ⟨g3, g4, g5, g6, g7, g8, g9, g10, g11, g12, g13⟩, ⟨g15, g16, g17, g18, g19, g20, g21, g22, g23, g24, g25, g26, g27, g28⟩⟩ e1
  have e1 : v1 = _ := e1
  try dsimp only [u11, u14]
  refine Sf.bind (Sf.and (sX7_totalOf hn h_x0_shelf h_x0_rowSize h_x0_tapeSize h_x0_lines h_x0_line h_x0_changes h_x0_coins h_x0_goods h_x0_good h_x0_works h_x0_work h_x0_years h_x0_from h_x0_far h_x0_way h_x0_steps h_x0_queue h_x3_shelf h_x3_rowSize h_x3_tapeSize h_x3_lines h_x3_line h_x3_changes h_x3_coins h_x3_goods h_x3_good h_x3_works h_x3_work h_x3_years h_x3_from h_x3_far h_x3_way h_x3_steps h_x3_queue) (totalOfR hn h_x0_shelf h_x0_rowSize h_x0_tapeSize h_x0_lines h_x0_line h_x0_changes h_x0_coins h_x0_goods h_x0_good h_x0_works h_x0_work h_x0_years h_x0_from h_x0_far h_x0_way h_x0_steps h_x0_queue h_x3_shelf h_x3_rowSize h_x3_tapeSize h_x3_lines h_x3_line h_x3_changes h_x3_coins h_x3_goods h_x3_good h_x3_works h_x3_work h_x3_years h_x3_from h_x3_far h_x3_way h_x3_steps h_x3_queue hf)) ?_
  rintro ⟨v30, g32, g33, g34, g35, g36, g37, g38, g39, g40, g41, g42, g43, g44, g45⟩ ⟨⟨m1, m2, m3, m4, m5, m6, m7, m8, m9, m10⟩, e30⟩
  have e30 : v30 = _ := e30
  try dsimp only [u14]
  refine Sf.bind (Sf.and (sX7_best hn h_x0_shelf h_x0_rowSize h_x0_tapeSize h_x0_lines h_x0_line h_x0_changes h_x0_coins h_x0_goods h_x0_good h_x0_works h_x0_work h_x0_years h_x0_from h_x0_far h_x0_way h_x0_steps h_x0_queue h_x3_shelf h_x3_rowSize h_x3_tapeSize m1 m2 m3 m4 m5 m6 m7 m8 m9 h_x3_from m10 h_x3_way h_x3_steps h_x3_queue) (bestR hn h_x0_shelf h_x0_rowSize h_x0_tapeSize h_x0_lines h_x0_line h_x0_changes h_x0_coins h_x0_goods h_x0_good h_x0_works h_x0_work h_x0_years h_x0_from h_x0_far h_x0_way h_x0_steps h_x0_queue h_x3_shelf h_x3_rowSize h_x3_tapeSize m1 m2 m3 m4 m5 m6 m7 m8 m9 h_x3_from m10 h_x3_way h_x3_steps h_x3_queue hf ht)) ?_
  rintro ⟨v47, g49, g50, g51, g52, g53, g54, g55, g56, g57, g58, g59, g60, g61, g62⟩ ⟨⟨k1, k2, k3, k4, k5, k6, k7, k8, k9, k10⟩, e47⟩
  have e47 : v47 = _ := e47
  try dsimp only [u14]
  refine Sf.bind (totalOfR hn h_x0_shelf h_x0_rowSize h_x0_tapeSize h_x0_lines h_x0_line h_x0_changes h_x0_coins h_x0_goods h_x0_good h_x0_works h_x0_work h_x0_years h_x0_from h_x0_far h_x0_way h_x0_steps h_x0_queue h_x3_shelf h_x3_rowSize h_x3_tapeSize k1 k2 k3 k4 k5 k6 k7 k8 k9 h_x3_from k10 h_x3_way h_x3_steps h_x3_queue hf) ?_
  rintro ⟨v64, g66, g67, g68, g69, g70, g71, g72, g73, g74, g75, g76, g77, g78, g79⟩ e64
  have e64 : v64 = _ := e64
  refine Sf.ok (show v30 - v64 = _ from ?_)
  rw [e30, e64, e1, e47]
theorem dGap {n : Nat} {x0_refused : (Nat → Int32)} {x0_isKept : Int32} {x0_gone : Int32} {x0_spent : Int32} {x1_gained : Nat → Int32} {x2_lineCount : Int32} {x2_goodsCount : Int32} {x2_workCount : Int32} {x2_years : Int32} {x2_lines : (Nat → Int32)} {x2_goods : (Nat → Int32)} {x2_works : (Nat → Int32)} {x2_change : (Nat → Int32)} {x2_coin : (Nat → Int32)} {x2_knownFree : (Nat → Int32)} {x2_isKnown : Int32} {x3_lineCount : Int32} {x3_goodsCount : Int32} {x3_workCount : Int32} {x3_years : Int32} {x3_lines : (Nat → Int32)} {x3_goods : (Nat → Int32)} {x3_works : (Nat → Int32)} {x3_change : (Nat → Int32)} {x3_coin : (Nat → Int32)} {x3_knownFree : (Nat → Int32)} {x3_isKnown : Int32} {x4_lineCount : Int32} {x4_goodsCount : Int32} {x4_workCount : Int32} {x4_years : Int32} {x4_lines : (Nat → Int32)} {x4_goods : (Nat → Int32)} {x4_works : (Nat → Int32)} {x4_change : (Nat → Int32)} {x4_coin : (Nat → Int32)} {x4_knownFree : (Nat → Int32)} {x4_isKnown : Int32} {x5_left : (Nat → Int32)} {x5_earned : (Nat → Int32)} {x5_turnCost : Int32} {x5_turnWayless : Int32} {x6_edgeA : (Nat → Int32)} {x6_edgeB : (Nat → Int32)} {x6_edgeCost : (Nat → Int32)} {x6_edgeLine : (Nat → Int32)} {x6_change : (Nat → Int32)} {x6_away : (Nat → Int32)} {x6_steps : (Nat → Int32)} {x6_nodes : (Nat → Int32)} {x6_stepCount : Int32} {x6_open : (Nat → Int32)} {x6_openCount : Int32} {x6_seen : Int64} {x6_edgeCount : Int32} {x6_aim : Int32} {m_shelf : (Nat → Int32)} {m_rowSort : (Nat → Int32)} {m_rowSize : (Nat → Int32)} {m_rows : (Nat → Nat → Int64)} {m_moved : (Nat → Int64)} {m_shown : (Nat → Int32)} {m_tape : (Nat → Int32)} {m_tapeSize : Int32} {m_refused : (Nat → Int32)} {m_lines : Int32} {m_line : (Nat → Nat → Int32)} {m_changes : (Nat → Int32)} {m_coins : (Nat → Int32)} {m_goods : Int32} {m_good : (Nat → Nat → Int32)} {m_works : Int32} {m_work : (Nat → Nat → Int32)} {m_years : Int32} {m_gone : Int32} {m_spent : Int32} {m_at : Int32} {m_token : Int32} {m_from : Int32} {m_figures : Int64} {m_fault : Int32} {m_numbers : (Nat → Int32)} {m_statements : Int32} {m_left : (Nat → Int32)} {m_far : (Nat → Int32)} {m_tons : Int32} {m_way : (Nat → Int32)} {m_steps : Int32} {m_met : Int64} {m_queue : (Nat → Int32)} {m_totals : (Nat → Int32)} {c_shelf : (Nat → Int32)} {c_rowSort : (Nat → Int32)} {c_rowSize : (Nat → Int32)} {c_rows : (Nat → Nat → Int64)} {c_moved : (Nat → Int64)} {c_shown : (Nat → Int32)} {c_tape : (Nat → Int32)} {c_tapeSize : Int32} {c_refused : (Nat → Int32)} {c_lines : Int32} {c_line : (Nat → Nat → Int32)} {c_changes : (Nat → Int32)} {c_coins : (Nat → Int32)} {c_goods : Int32} {c_good : (Nat → Nat → Int32)} {c_works : Int32} {c_work : (Nat → Nat → Int32)} {c_years : Int32} {c_gone : Int32} {c_spent : Int32} {c_at : Int32} {c_token : Int32} {c_from : Int32} {c_figures : Int64} {c_fault : Int32} {c_numbers : (Nat → Int32)} {c_statements : Int32} {c_left : (Nat → Int32)} {c_far : (Nat → Int32)} {c_tons : Int32} {c_way : (Nat → Int32)} {c_steps : Int32} {c_met : Int64} {c_queue : (Nat → Int32)} {c_totals : (Nat → Int32)} {t_shelf : (Nat → Int32)} {t_rowSort : (Nat → Int32)} {t_rowSize : (Nat → Int32)} {t_rows : (Nat → Nat → Int64)} {t_moved : (Nat → Int64)} {t_shown : (Nat → Int32)} {t_tape : (Nat → Int32)} {t_tapeSize : Int32} {t_refused : (Nat → Int32)} {t_lines : Int32} {t_line : (Nat → Nat → Int32)} {t_changes : (Nat → Int32)} {t_coins : (Nat → Int32)} {t_goods : Int32} {t_good : (Nat → Nat → Int32)} {t_works : Int32} {t_work : (Nat → Nat → Int32)} {t_years : Int32} {t_gone : Int32} {t_spent : Int32} {t_at : Int32} {t_token : Int32} {t_from : Int32} {t_figures : Int64} {t_fault : Int32} {t_numbers : (Nat → Int32)} {t_statements : Int32} {t_left : (Nat → Int32)} {t_far : (Nat → Int32)} {t_tons : Int32} {t_way : (Nat → Int32)} {t_steps : Int32} {t_met : Int64} {t_queue : (Nat → Int32)} {t_totals : (Nat → Int32)} {d_shelf : (Nat → Int32)} {d_rowSort : (Nat → Int32)} {d_rowSize : (Nat → Int32)} {d_rows : (Nat → Nat → Int64)} {d_moved : (Nat → Int64)} {d_shown : (Nat → Int32)} {d_tape : (Nat → Int32)} {d_tapeSize : Int32} {d_refused : (Nat → Int32)} {d_lines : Int32} {d_line : (Nat → Nat → Int32)} {d_changes : (Nat → Int32)} {d_coins : (Nat → Int32)} {d_goods : Int32} {d_good : (Nat → Nat → Int32)} {d_works : Int32} {d_work : (Nat → Nat → Int32)} {d_years : Int32} {d_gone : Int32} {d_spent : Int32} {d_at : Int32} {d_token : Int32} {d_from : Int32} {d_figures : Int64} {d_fault : Int32} {d_numbers : (Nat → Int32)} {d_statements : Int32} {d_left : (Nat → Int32)} {d_far : (Nat → Int32)} {d_tons : Int32} {d_way : (Nat → Int32)} {d_steps : Int32} {d_met : Int64} {d_queue : (Nat → Int32)} {d_totals : (Nat → Int32)} {er fr : Int32} {A6 : (Int32 × Int32 × Int32 × Int32 × (Nat → Int32) × (Nat → Int32) × (Nat → Int32) × (Nat → Int32) × (Nat → Int32) × (Nat → Int32) × Int32) × (Int32 × Int32 × Int32 × Int32 × (Nat → Int32) × (Nat → Int32) × (Nat → Int32) × (Nat → Int32) × (Nat → Int32) × Int32) × (Int32 × (Nat → Int32) × (Nat → Int32) × (Nat → Int32) × Int32) × ((Nat → Int32) × (Nat → Int32) × (Nat → Int32) × (Nat → Int32) × (Nat → Int32) × (Nat → Int32) × Int32 × Int32)} {B6 : (Int32 × (Nat → Nat → Int32) × (Nat → Int32) × (Nat → Int32) × Int32 × (Nat → Nat → Int32) × Int32 × (Nat → Nat → Int32) × Int32 × Int32 × Int32) × (Int32 × (Nat → Nat → Int32) × (Nat → Int32) × (Nat → Int32) × Int32 × (Nat → Nat → Int32) × Int32 × (Nat → Nat → Int32) × Int32 × Int32 × Int32 × (Nat → Int32) × (Nat → Int32) × Int32) × (Int32 × (Nat → Nat → Int32) × (Nat → Int32) × (Nat → Int32) × Int32 × (Nat → Nat → Int32) × Int32 × (Nat → Nat → Int32) × Int32 × Int32 × Int32 × (Nat → Int32) × (Nat → Int32) × Int32)} (hn : 1000000000000 ≤ n) (h_x2_lineCount : (0 ≤ x2_lineCount ∧ x2_lineCount ≤ 20)) (h_x2_goodsCount : (0 ≤ x2_goodsCount ∧ x2_goodsCount ≤ 8)) (h_x2_workCount : (0 ≤ x2_workCount ∧ x2_workCount ≤ 7)) (h_x2_years : (1 ≤ x2_years ∧ x2_years ≤ 30)) (h_x2_lines : (LnOk x2_lines)) (h_x2_goods : (GdOk x2_goods)) (h_x2_works : (WkOk x2_works)) (h_x2_change : (AI 0 99 x2_change)) (h_x2_coin : (AI 0 9 x2_coin)) (h_x3_lineCount : (0 ≤ x3_lineCount ∧ x3_lineCount ≤ 20)) (h_x3_goodsCount : (0 ≤ x3_goodsCount ∧ x3_goodsCount ≤ 8)) (h_x3_workCount : (0 ≤ x3_workCount ∧ x3_workCount ≤ 7)) (h_x3_years : (1 ≤ x3_years ∧ x3_years ≤ 30)) (h_x3_lines : (LnOk x3_lines)) (h_x3_goods : (GdOk x3_goods)) (h_x3_works : (WkOk x3_works)) (h_x3_change : (AI 0 99 x3_change)) (h_x3_coin : (AI 0 9 x3_coin)) (h_x4_lineCount : (0 ≤ x4_lineCount ∧ x4_lineCount ≤ 20)) (h_x4_goodsCount : (0 ≤ x4_goodsCount ∧ x4_goodsCount ≤ 8)) (h_x4_workCount : (0 ≤ x4_workCount ∧ x4_workCount ≤ 7)) (h_x4_years : (1 ≤ x4_years ∧ x4_years ≤ 30)) (h_x4_lines : (LnOk x4_lines)) (h_x4_goods : (GdOk x4_goods)) (h_x4_works : (WkOk x4_works)) (h_x4_change : (AI 0 99 x4_change)) (h_x4_coin : (AI 0 9 x4_coin)) (h_x6_edgeA : (AI 0 35 x6_edgeA)) (h_x6_edgeB : (AI 0 35 x6_edgeB)) (h_x6_edgeLine : (AI 0 19 x6_edgeLine)) (h_x6_steps : (AI 0 22 x6_steps)) (h_x6_nodes : (AI 0 35 x6_nodes)) (h_x6_stepCount : (0 ≤ x6_stepCount ∧ x6_stepCount ≤ 36)) (h_x6_open : (AI 0 35 x6_open)) (h_x6_openCount : (0 ≤ x6_openCount ∧ x6_openCount ≤ 36)) (h_x6_edgeCount : (0 ≤ x6_edgeCount ∧ x6_edgeCount ≤ 60)) (h_m_shelf : (AI 0 2 m_shelf)) (h_m_rowSize : (AI 0 40 m_rowSize)) (h_m_tapeSize : (0 ≤ m_tapeSize ∧ m_tapeSize ≤ 250)) (h_m_lines : (0 ≤ m_lines ∧ m_lines ≤ 20)) (h_m_line : (LnM m_line)) (h_m_changes : (AI 0 99 m_changes)) (h_m_coins : (AI 0 9 m_coins)) (h_m_goods : (0 ≤ m_goods ∧ m_goods ≤ 8)) (h_m_good : (GdM m_good)) (h_m_works : (0 ≤ m_works ∧ m_works ≤ 7)) (h_m_work : (WkM m_work)) (h_m_years : (1 ≤ m_years ∧ m_years ≤ 30)) (h_m_from : (0 ≤ m_from ∧ m_from ≤ 250)) (h_m_far : (AI 0 1000000000 m_far)) (h_m_way : (AI 0 22 m_way)) (h_m_steps : (0 ≤ m_steps ∧ m_steps ≤ 37)) (h_m_queue : (AI 0 35 m_queue)) (h_c_shelf : (AI 0 2 c_shelf)) (h_c_rowSize : (AI 0 40 c_rowSize)) (h_c_tapeSize : (0 ≤ c_tapeSize ∧ c_tapeSize ≤ 250)) (h_c_lines : (0 ≤ c_lines ∧ c_lines ≤ 20)) (h_c_line : (LnM c_line)) (h_c_changes : (AI 0 99 c_changes)) (h_c_coins : (AI 0 9 c_coins)) (h_c_goods : (0 ≤ c_goods ∧ c_goods ≤ 8)) (h_c_good : (GdM c_good)) (h_c_works : (0 ≤ c_works ∧ c_works ≤ 7)) (h_c_work : (WkM c_work)) (h_c_years : (1 ≤ c_years ∧ c_years ≤ 30)) (h_c_from : (0 ≤ c_from ∧ c_from ≤ 250)) (h_c_far : (AI 0 1000000000 c_far)) (h_c_way : (AI 0 22 c_way)) (h_c_steps : (0 ≤ c_steps ∧ c_steps ≤ 37)) (h_c_queue : (AI 0 35 c_queue)) (h_t_shelf : (AI 0 2 t_shelf)) (h_t_rowSize : (AI 0 40 t_rowSize)) (h_t_tapeSize : (0 ≤ t_tapeSize ∧ t_tapeSize ≤ 250)) (h_t_lines : (0 ≤ t_lines ∧ t_lines ≤ 20)) (h_t_line : (LnM t_line)) (h_t_changes : (AI 0 99 t_changes)) (h_t_coins : (AI 0 9 t_coins)) (h_t_goods : (0 ≤ t_goods ∧ t_goods ≤ 8)) (h_t_good : (GdM t_good)) (h_t_works : (0 ≤ t_works ∧ t_works ≤ 7)) (h_t_work : (WkM t_work)) (h_t_years : (1 ≤ t_years ∧ t_years ≤ 30)) (h_t_from : (0 ≤ t_from ∧ t_from ≤ 250)) (h_t_far : (AI 0 1000000000 t_far)) (h_t_way : (AI 0 22 t_way)) (h_t_steps : (0 ≤ t_steps ∧ t_steps ≤ 37)) (h_t_queue : (AI 0 35 t_queue)) (h_d_shelf : (AI 0 2 d_shelf)) (h_d_rowSize : (AI 0 40 d_rowSize)) (h_d_tapeSize : (0 ≤ d_tapeSize ∧ d_tapeSize ≤ 250)) (h_d_lines : (0 ≤ d_lines ∧ d_lines ≤ 20)) (h_d_line : (LnM d_line)) (h_d_changes : (AI 0 99 d_changes)) (h_d_coins : (AI 0 9 d_coins)) (h_d_goods : (0 ≤ d_goods ∧ d_goods ≤ 8)) (h_d_good : (GdM d_good)) (h_d_works : (0 ≤ d_works ∧ d_works ≤ 7)) (h_d_work : (WkM d_work)) (h_d_years : (1 ≤ d_years ∧ d_years ≤ 30)) (h_d_from : (0 ≤ d_from ∧ d_from ≤ 250)) (h_d_far : (AI 0 1000000000 d_far)) (h_d_way : (AI 0 22 d_way)) (h_d_steps : (0 ≤ d_steps ∧ d_steps ≤ 37)) (h_d_queue : (AI 0 35 d_queue)) (hA : (LaD x4_lineCount x4_goodsCount x4_workCount x4_years x4_lines x4_goods x4_works x4_change x4_coin m_lines m_line m_changes m_coins m_goods m_good m_works m_work m_years)) (hk : Kn (FrS x4_lineCount (ro 7 x4_lines) x4_change x4_coin (ro 3 x4_goods) x4_goodsCount (ro 5 x4_works) x4_workCount) x4_knownFree x4_isKnown) (eqA : fX6_gap n (x0_refused, x0_isKept, x0_gone, x0_spent) x1_gained (x2_lineCount, x2_goodsCount, x2_workCount, x2_years, x2_lines, x2_goods, x2_works, x2_change, x2_coin, x2_knownFree, x2_isKnown) (x3_lineCount, x3_goodsCount, x3_workCount, x3_years, x3_lines, x3_goods, x3_works, x3_change, x3_coin, x3_knownFree, x3_isKnown) (x4_lineCount, x4_goodsCount, x4_workCount, x4_years, x4_lines, x4_goods, x4_works, x4_change, x4_coin, x4_knownFree, x4_isKnown) (x5_left, x5_earned, x5_turnCost, x5_turnWayless) (x6_edgeA, x6_edgeB, x6_edgeCost, x6_edgeLine, x6_change, x6_away, x6_steps, x6_nodes, x6_stepCount, x6_open, x6_openCount, x6_seen, x6_edgeCount, x6_aim) = some (er, A6)) (eqB : fX7_gap n (m_shelf, m_rowSort, m_rowSize, m_rows, m_moved, m_shown, m_tape, m_tapeSize, m_refused, m_lines, m_line, m_changes, m_coins, m_goods, m_good, m_works, m_work, m_years, m_gone, m_spent, m_at, m_token, m_from, m_figures, m_fault, m_numbers, m_statements, m_left, m_far, m_tons, m_way, m_steps, m_met, m_queue, m_totals) (c_shelf, c_rowSort, c_rowSize, c_rows, c_moved, c_shown, c_tape, c_tapeSize, c_refused, c_lines, c_line, c_changes, c_coins, c_goods, c_good, c_works, c_work, c_years, c_gone, c_spent, c_at, c_token, c_from, c_figures, c_fault, c_numbers, c_statements, c_left, c_far, c_tons, c_way, c_steps, c_met, c_queue, c_totals) (t_shelf, t_rowSort, t_rowSize, t_rows, t_moved, t_shown, t_tape, t_tapeSize, t_refused, t_lines, t_line, t_changes, t_coins, t_goods, t_good, t_works, t_work, t_years, t_gone, t_spent, t_at, t_token, t_from, t_figures, t_fault, t_numbers, t_statements, t_left, t_far, t_tons, t_way, t_steps, t_met, t_queue, t_totals) (d_shelf, d_rowSort, d_rowSize, d_rows, d_moved, d_shown, d_tape, d_tapeSize, d_refused, d_lines, d_line, d_changes, d_coins, d_goods, d_good, d_works, d_work, d_years, d_gone, d_spent, d_at, d_token, d_from, d_figures, d_fault, d_numbers, d_statements, d_left, d_far, d_tons, d_way, d_steps, d_met, d_queue, d_totals) = some (fr, B6)) : er = fr := by
  have a := (gapC (t := fun j => TotA (x4_lineCount, ro 7 x4_lines, x4_change) x4_coin (ro 3 x4_goods) x4_goodsCount (ro 5 x4_works) x4_workCount x4_years (Int32.ofNat j)) hn h_x2_lineCount h_x2_goodsCount h_x2_workCount h_x2_years h_x2_lines h_x2_goods h_x2_works h_x2_change h_x2_coin h_x3_lineCount h_x3_goodsCount h_x3_workCount h_x3_years h_x3_lines h_x3_goods h_x3_works h_x3_change h_x3_coin h_x4_lineCount h_x4_goodsCount h_x4_workCount h_x4_years h_x4_lines h_x4_goods h_x4_works h_x4_change h_x4_coin h_x6_edgeA h_x6_edgeB h_x6_edgeLine h_x6_steps h_x6_nodes h_x6_stepCount h_x6_open h_x6_openCount h_x6_edgeCount hA.2.2.2.2.2.2 hk (fun z hz => ofn_z (f := TotA (x4_lineCount, ro 7 x4_lines, x4_change) x4_coin (ro 3 x4_goods) x4_goodsCount (ro 5 x4_works) x4_workCount x4_years) hz)).at eqA
  obtain ⟨⟨z1, z2, z3, z4⟩, z5, z6, z7, z8, z9, z10⟩ := id hA
  have hS := hA.s
  subst z1 z2 z3 z4
  have hW : WfS x4_workCount.toNatClampNeg ((x4_lineCount, ro 7 x4_lines, x4_change), ro 5 x4_works) := ⟨h_x4_lineCount, z10⟩
  have hW2 := hW.congr hS
  have b := (gapV (t := fun j => TotA (x4_lineCount, ro 7 x4_lines, x4_change) x4_coin (ro 3 x4_goods) x4_goodsCount (ro 5 x4_works) x4_workCount x4_years (Int32.ofNat j)) hn h_m_shelf h_m_rowSize h_m_tapeSize h_x4_lineCount h_m_line h_m_changes h_m_coins h_x4_goodsCount h_m_good h_x4_workCount h_m_work h_x4_years h_m_from h_m_far h_m_way h_m_steps h_m_queue h_c_shelf h_c_rowSize h_c_tapeSize h_c_lines h_c_line h_c_changes h_c_coins h_c_goods h_c_good h_c_works h_c_work h_c_years h_c_from h_c_far h_c_way h_c_steps h_c_queue h_t_shelf h_t_rowSize h_t_tapeSize h_t_lines h_t_line h_t_changes h_t_coins h_t_goods h_t_good h_t_works h_t_work h_t_years h_t_from h_t_far h_t_way h_t_steps h_t_queue h_d_shelf h_d_rowSize h_d_tapeSize h_d_lines h_d_line h_d_changes h_d_coins h_d_goods h_d_good h_d_works h_d_work h_d_years h_d_from h_d_far h_d_way h_d_steps h_d_queue hW2.2 (fun z hz => ((TotA_congr hS.1 h_x4_lineCount z9 z6 z7 z10).symm.trans (ofn_z (f := TotA (x4_lineCount, ro 7 x4_lines, x4_change) x4_coin (ro 3 x4_goods) x4_goodsCount (ro 5 x4_works) x4_workCount x4_years) hz)))).at eqB
  have a : er = _ := a
  have b : fr = _ := b
  rw [a, b, (grS_congr h_x4_workCount hS hW z9 z6 7).2, TotA_congr hS.1 h_x4_lineCount z9 z6 z7 z10, TotA_congr hS.1 h_x4_lineCount z9 z6 z7 z10]
end
section
/-! one, which: alike -/
def onL (w : Int32) (line : Nat → Nat → Int32) (l c : Nat) : Int32 := if line l 6 = 0 ∧ c = 2 then (1 : Int32) <<< (w &&& 31) else line l c
def onC (w v : Int32) (line : Nat → Nat → Int32) (l : Nat) : Int32 := if line l 6 = 0 ∧ ((line l 2 >>> (w &&& 31)) &&& 1) = 0 then v * line l 3 else 0
noncomputable def OneA (A : Ab) (coins : Nat → Int32) (good : Nat → Nat → Int32) (G yr w v : Int32) : Int32 := sm (onC w v A.2.1) A.1.toNatClampNeg + yr * Free A.1 (onL w A.2.1) A.2.2 coins good G
theorem OneA_congr {A B : Ab} {coins coins' : Nat → Int32} {good good' : Nat → Nat → Int32} {G yr w v : Int32} (h : AbEq A B) (hco : ∀ w, w < 3 → coins w = coins' w) (hg : ∀ g, g < G.toNatClampNeg → ∀ c, c < 3 → good g c = good' g c) : OneA A coins good G yr w v = OneA B coins' good' G yr w v := by
  obtain ⟨L, line, ch⟩ := A
  obtain ⟨L', line', ch'⟩ := B
  obtain ⟨e1, e2, e3⟩ := h
  have e1 : L = L' := e1
  subst e1
  have e2 : ∀ l, l < L.toNatClampNeg → ∀ c, c < 7 → line l c = line' l c := e2
  have e3 : ∀ p, p < 12 → ch p = ch' p := e3
  show sm (onC w v line) L.toNatClampNeg + yr * Free L (onL w line) ch coins good G = sm (onC w v line') L.toNatClampNeg + yr * Free L (onL w line') ch' coins' good' G
  rw [sm_congr (f := onC w v line) (g := onC w v line') _ (fun k hk => ?_), Free_congr (line := onL w line) (line' := onL w line') (fun l hl c hc => ?_) e3 hco hg]
  · unfold onL
    rw [e2 l hl 6 (by decide), e2 l hl c hc]
  · unfold onC
    rw [e2 k hk 6 (by decide), e2 k hk 2 (by decide), e2 k hk 3 (by decide)]
theorem onL_M {w : Int32} {line : Nat → Nat → Int32} (hw : 0 ≤ w ∧ w ≤ 2) (h : LnM line) : LnM (onL w line) := by
  intro q c
  unfold onL
  by_cases hc : line q 6 = 0 ∧ c = 2
  · rw [if_pos hc, hc.2]
    have key : ∀ i : Fin 3, 0 ≤ (1 : Int32) <<< (Int32.ofNat i.1 &&& 31) ∧ (1 : Int32) <<< (Int32.ofNat i.1 &&& 31) ≤ lnB 2 := by decide +kernel
    have k : w.toNatClampNeg ≤ 2 := nlt (M := 2) (N := 2) rfl hw
    have r : 0 ≤ (1 : Int32) <<< (Int32.ofNat w.toNatClampNeg &&& 31) ∧ (1 : Int32) <<< (Int32.ofNat w.toNatClampNeg &&& 31) ≤ lnB 2 := key ⟨w.toNatClampNeg, by omega⟩
    rw [Int32.ofNat_toNatClampNeg w hw.1] at r
    exact r
  · rw [if_neg hc]
    exact h q c
theorem w7 {w : Int32} (hw : 0 ≤ w ∧ w ≤ 2) : 0 ≤ (1 : Int32) <<< (w &&& 31) ∧ (1 : Int32) <<< (w &&& 31) ≤ 7 := by
  have key : ∀ i : Fin 3, 0 ≤ (1 : Int32) <<< (Int32.ofNat i.1 &&& 31) ∧ (1 : Int32) <<< (Int32.ofNat i.1 &&& 31) ≤ 7 := by decide +kernel
  have k : w.toNatClampNeg ≤ 2 := nlt (M := 2) (N := 2) rfl hw
  have r : 0 ≤ (1 : Int32) <<< (Int32.ofNat w.toNatClampNeg &&& 31) ∧ (1 : Int32) <<< (Int32.ofNat w.toNatClampNeg &&& 31) ≤ 7 := key ⟨w.toNatClampNeg, by omega⟩
  rw [Int32.ofNat_toNatClampNeg w hw.1] at r
  exact r
theorem costWC {n : Nat} {x0_gained : Nat → Int32} {x1_left : (Nat → Int32)} {x1_earned : (Nat → Int32)} {x1_turnCost : Int32} {x1_turnWayless : Int32} {x2_edgeA : (Nat → Int32)} {x2_edgeB : (Nat → Int32)} {x2_edgeCost : (Nat → Int32)} {x2_edgeLine : (Nat → Int32)} {x2_change : (Nat → Int32)} {x2_away : (Nat → Int32)} {x2_steps : (Nat → Int32)} {x2_nodes : (Nat → Int32)} {x2_stepCount : Int32} {x2_open : (Nat → Int32)} {x2_openCount : Int32} {x2_seen : Int64} {x2_edgeCount : Int32} {x2_aim : Int32} {x3_lineCount : Int32} {x3_goodsCount : Int32} {x3_workCount : Int32} {x3_years : Int32} {x3_lines : (Nat → Int32)} {x3_goods : (Nat → Int32)} {x3_works : (Nat → Int32)} {x3_change : (Nat → Int32)} {x3_coin : (Nat → Int32)} {x3_knownFree : (Nat → Int32)} {x3_isKnown : Int32} {x4_lineCount : Int32} {x4_goodsCount : Int32} {x4_workCount : Int32} {x4_years : Int32} {x4_lines : (Nat → Int32)} {x4_goods : (Nat → Int32)} {x4_works : (Nat → Int32)} {x4_change : (Nat → Int32)} {x4_coin : (Nat → Int32)} {x4_knownFree : (Nat → Int32)} {x4_isKnown : Int32} {p2 p3 : Int32} (hn : 1000000000000 ≤ n) (h_x2_edgeA : (AI 0 35 x2_edgeA)) (h_x2_edgeB : (AI 0 35 x2_edgeB)) (h_x2_edgeLine : (AI 0 19 x2_edgeLine)) (h_x2_steps : (AI 0 22 x2_steps)) (h_x2_nodes : (AI 0 35 x2_nodes)) (h_x2_stepCount : (0 ≤ x2_stepCount ∧ x2_stepCount ≤ 36)) (h_x2_open : (AI 0 35 x2_open)) (h_x2_openCount : (0 ≤ x2_openCount ∧ x2_openCount ≤ 36)) (h_x2_edgeCount : (0 ≤ x2_edgeCount ∧ x2_edgeCount ≤ 60)) (h_x3_lineCount : (0 ≤ x3_lineCount ∧ x3_lineCount ≤ 20)) (h_x3_goodsCount : (0 ≤ x3_goodsCount ∧ x3_goodsCount ≤ 8)) (h_x3_workCount : (0 ≤ x3_workCount ∧ x3_workCount ≤ 7)) (h_x3_years : (1 ≤ x3_years ∧ x3_years ≤ 30)) (h_x3_lines : (LnOk x3_lines)) (h_x3_goods : (GdOk x3_goods)) (h_x3_works : (WkOk x3_works)) (h_x3_change : (AI 0 99 x3_change)) (h_x3_coin : (AI 0 9 x3_coin)) (h_x4_lineCount : (0 ≤ x4_lineCount ∧ x4_lineCount ≤ 20)) (h_x4_goodsCount : (0 ≤ x4_goodsCount ∧ x4_goodsCount ≤ 8)) (h_x4_workCount : (0 ≤ x4_workCount ∧ x4_workCount ≤ 7)) (h_x4_years : (1 ≤ x4_years ∧ x4_years ≤ 30)) (h_x4_lines : (LnOk x4_lines)) (h_x4_goods : (GdOk x4_goods)) (h_x4_works : (WkOk x4_works)) (h_x4_change : (AI 0 99 x4_change)) (h_x4_coin : (AI 0 9 x4_coin)) (hp2 : 0 ≤ p2 ∧ p2 ≤ 2) : Sf (fX0_costOfWidth n x0_gained (x1_left, x1_earned, x1_turnCost, x1_turnWayless) (x2_edgeA, x2_edgeB, x2_edgeCost, x2_edgeLine, x2_change, x2_away, x2_steps, x2_nodes, x2_stepCount, x2_open, x2_openCount, x2_seen, x2_edgeCount, x2_aim) (x3_lineCount, x3_goodsCount, x3_workCount, x3_years, x3_lines, x3_goods, x3_works, x3_change, x3_coin, x3_knownFree, x3_isKnown) (x4_lineCount, x4_goodsCount, x4_workCount, x4_years, x4_lines, x4_goods, x4_works, x4_change, x4_coin, x4_knownFree, x4_isKnown) p2 p3) (fun r => r.1 = OneA (x4_lineCount, ro 7 x4_lines, x4_change) x4_coin (ro 3 x4_goods) x4_goodsCount x4_years p2 p3) := by
  have hL20 := nlt (M := 20) (N := 20) rfl h_x4_lineCount
  unfold fX0_costOfWidth
  dsimp only [u4, u14, u11]
  refine Sf.bind (Sf.and (sX1_take h_x3_lines h_x3_goods h_x3_works h_x3_change h_x3_coin h_x4_lineCount h_x4_goodsCount h_x4_workCount h_x4_years h_x4_lines h_x4_goods h_x4_works h_x4_change h_x4_coin) (takeC h_x4_lineCount h_x4_goodsCount h_x4_workCount h_x4_years h_x4_lines h_x4_goods h_x4_works h_x4_change h_x4_coin)) ?_
  rintro ⟨g2, g3, g4, g5, g6, g7, g8, g9, g10, g11⟩ ⟨⟨t0, t1, t2, t3, t4, t5, t6, t7, t8⟩, s0, s1, s2, s3, s4, s5, s6, s7, s8, s9⟩
  have s0 : g2 = x4_lineCount := s0
  have s1 : g3 = x4_goodsCount := s1
  have s2 : g4 = x4_workCount := s2
  have s3 : g5 = x4_years := s3
  have s4 : ∀ l, l < x4_lineCount.toNatClampNeg → ∀ c, c < 7 → ro 7 g6 l c = ro 7 x4_lines l c := s4
  have s5 : ∀ g, g < x4_goodsCount.toNatClampNeg → ∀ c, c < 3 → ro 3 g7 g c = ro 3 x4_goods g c := s5
  have s7 : ∀ p, p < 12 → g9 p = x4_change p := s7
  have s8 : ∀ w, w < 3 → g10 w = x4_coin w := s8
  have t4 : LnOk g6 := t4
  have t5 : GdOk g7 := t5
  have t6 : WkOk g8 := t6
  have t7 : AI 0 99 g9 := t7
  have t8 : AI 0 9 g10 := t8
  subst s0 s1 s2 s3
  try dsimp only [u10]
  refine Sf.bind (P := fun r : Int32 × (Nat → Int32) × Int32 => r.1 = sm (onC p2 p3 (ro 7 x4_lines)) g2.toNatClampNeg ∧ LnOk r.2.1 ∧ ∀ l, l < g2.toNatClampNeg → ∀ c, c < 7 → ro 7 r.2.1 l c = onL p2 (ro 7 x4_lines) l c) ?_ ?_
  · refine Sf.loop4 (fun (z14 z15 : Int32) (z16 : Nat → Int32) (z17 : Int32) => (0 ≤ z15 ∧ z15 ≤ g2) ∧ z14 = sm (onC p2 p3 (ro 7 x4_lines)) z15.toNatClampNeg ∧ LnOk z16 ∧ (∀ l, l < z15.toNatClampNeg → ∀ c, c < 7 → ro 7 z16 l c = onL p2 (ro 7 x4_lines) l c) ∧ ∀ l, z15.toNatClampNeg ≤ l → l < g2.toNatClampNeg → ∀ c, c < 7 → ro 7 z16 l c = ro 7 x4_lines l c) (fun z14 z15 z16 z17 => muUp z15) (fun z14 z15 z16 z17 h => ?_) (show (0 ≤ (0 : Int32) ∧ (0 : Int32) ≤ g2) ∧ (0 : Int32) = sm (onC p2 p3 (ro 7 x4_lines)) (0 : Int32).toNatClampNeg ∧ LnOk g6 ∧ (∀ l, l < (0 : Int32).toNatClampNeg → ∀ c, c < 7 → ro 7 g6 l c = onL p2 (ro 7 x4_lines) l c) ∧ ∀ l, (0 : Int32).toNatClampNeg ≤ l → l < g2.toNatClampNeg → ∀ c, c < 7 → ro 7 g6 l c = ro 7 x4_lines l c from ⟨⟨by decide, h_x4_lineCount.1⟩, rfl, t4, fun l hl => absurd hl (Nat.not_lt_zero l), fun l _ hl c hc => s4 l hl c hc⟩) (muUp_n hn)
    obtain ⟨i0, i1, i2, i3, i4⟩ := h
    unfold fX0_costOfWidth_s14
    refine Sf.ite (fun hc => ?_) (fun hc => ?_)
    · have e : z15 = g2 := Int32.le_antisymm i0.2 hc
      rw [e] at i1 i3
      exact Sf.inr ⟨i1, i2, i3⟩
    obtain ⟨p0, p1, p3'⟩ := up1 i0.1 (Int32.le_trans h_x4_lineCount.2 (by decide)) hc
    have hz1 : z15 + 1 ≤ g2 := by clear i1 i3 i4 s4 s5 s7 s8; grind
    have hi : 0 ≤ z15 ∧ z15 < 20 := ⟨i0.1, Int32.lt_of_lt_of_le p3' h_x4_lineCount.2⟩
    have hzn : z15.toNatClampNeg < g2.toNatClampNeg := by
      have a := i32_cl i0.1
      have b := i32_cl h_x4_lineCount.1
      have c := Int32.lt_iff_toInt_lt.mp p3'
      omega
    have nx : sm (onC p2 p3 (ro 7 x4_lines)) (z15 + 1).toNatClampNeg = z14 + onC p2 p3 (ro 7 x4_lines) z15.toNatClampNeg := by
      rw [p1, i1]
      rfl
    have put : ∀ y : Int32, y = z14 + onC p2 p3 (ro 7 x4_lines) z15.toNatClampNeg → ro 7 x4_lines z15.toNatClampNeg 6 = 0 → Sf (fX0_costOfWidth_j62 p2 x3_knownFree g2 g3 g4 g5 g7 g8 g9 g10 z15 z16 z17 y) (LQ (u4 (fun (z14 z15 : Int32) (z16 : Nat → Int32) (z17 : Int32) => (0 ≤ z15 ∧ z15 ≤ g2) ∧ z14 = sm (onC p2 p3 (ro 7 x4_lines)) z15.toNatClampNeg ∧ LnOk z16 ∧ (∀ l, l < z15.toNatClampNeg → ∀ c, c < 7 → ro 7 z16 l c = onL p2 (ro 7 x4_lines) l c) ∧ ∀ l, z15.toNatClampNeg ≤ l → l < g2.toNatClampNeg → ∀ c, c < 7 → ro 7 z16 l c = ro 7 x4_lines l c)) (u4 (fun (z14 z15 : Int32) (z16 : Nat → Int32) (z17 : Int32) => muUp z15)) (muUp z15) (fun r : Int32 × (Nat → Int32) × Int32 => r.1 = sm (onC p2 p3 (ro 7 x4_lines)) g2.toNatClampNeg ∧ LnOk r.2.1 ∧ ∀ l, l < g2.toNatClampNeg → ∀ c, c < 7 → ro 7 r.2.1 l c = onL p2 (ro 7 x4_lines) l c)) := by
      intro y hy hd
      unfold fX0_costOfWidth_j62
      refine Sf.bind (Sf.and (sX1_putWidths h_x4_lineCount i2 (w7 hp2)) (putWidthsS ⟨i0.1, p3'⟩ h_x4_lineCount.2)) ?_
      rintro ⟨g40, g41⟩ ⟨o1, o2, _⟩
      have o1 : LnOk g40 := o1
      have o2 : g40 = va_up z16 (7 * z15.toNatClampNeg + 2) ((1 : Int32) <<< (p2 &&& 31)) := o2
      refine Sf.inl (show (0 ≤ z15 + 1 ∧ z15 + 1 ≤ g2) ∧ y = sm (onC p2 p3 (ro 7 x4_lines)) (z15 + 1).toNatClampNeg ∧ LnOk g40 ∧ (∀ l, l < (z15 + 1).toNatClampNeg → ∀ c, c < 7 → ro 7 g40 l c = onL p2 (ro 7 x4_lines) l c) ∧ ∀ l, (z15 + 1).toNatClampNeg ≤ l → l < g2.toNatClampNeg → ∀ c, c < 7 → ro 7 g40 l c = ro 7 x4_lines l c from ⟨⟨p0, hz1⟩, by rw [nx]; exact hy, o1, fun l hl c hc => ?_, fun l hl hl2 c hc => ?_⟩) (muUp_lt hc)
      · rw [p1] at hl
        by_cases e : l = z15.toNatClampNeg
        · rw [e, ro_eq hc, o2]
          unfold onL
          by_cases h2 : c = 2
          · rw [if_pos ⟨hd, h2⟩, h2, va_eq]
          · rw [if_neg (fun hh => h2 hh.2), va_ne _ _ (by omega), ← ro_eq (f := z16) hc]
            exact i4 _ (Nat.le_refl _) hzn c hc
        · rw [ro_eq hc, o2, va_ne _ _ (by omega), ← ro_eq (f := z16) hc]
          exact i3 l (by omega) c hc
      · rw [p1] at hl
        rw [ro_eq hc, o2, va_ne _ _ (by omega), ← ro_eq (f := z16) hc]
        exact i4 l (by omega) hl2 c hc
    refine Sf.bind (ofLineV hi (c := 6) (by decide)) (fun v35 e35 => ?_)
    have e35 : v35 = ro 7 x4_lines z15.toNatClampNeg 6 := e35.trans (ro_eq (by decide)).symm
    refine Sf.ite (fun hv => ?_) (fun hv => ?_)
    · rw [e35] at hv
      refine Sf.bind (ofLineV hi (c := 2) (by decide)) (fun v37 e37 => ?_)
      have e37 : v37 = ro 7 x4_lines z15.toNatClampNeg 2 := e37.trans (ro_eq (by decide)).symm
      refine Sf.ite (fun hb => ?_) (fun hb => put _ ?_ hv)
      · refine Sf.bind (ofLineV hi (c := 3) (by decide)) (fun v43 e43 => put _ ?_ hv)
        have e43 : v43 = ro 7 x4_lines z15.toNatClampNeg 3 := e43.trans (ro_eq (by decide)).symm
        unfold onC
        rw [if_pos ⟨hv, by rw [← e37]; exact hb⟩, e43]
      · unfold onC
        rw [if_neg (fun hh => hb (by rw [e37]; exact hh.2)), Int32.add_zero]
    · rw [e35] at hv
      refine Sf.inl (show (0 ≤ z15 + 1 ∧ z15 + 1 ≤ g2) ∧ z14 = sm (onC p2 p3 (ro 7 x4_lines)) (z15 + 1).toNatClampNeg ∧ LnOk z16 ∧ (∀ l, l < (z15 + 1).toNatClampNeg → ∀ c, c < 7 → ro 7 z16 l c = onL p2 (ro 7 x4_lines) l c) ∧ ∀ l, (z15 + 1).toNatClampNeg ≤ l → l < g2.toNatClampNeg → ∀ c, c < 7 → ro 7 z16 l c = ro 7 x4_lines l c from ⟨⟨p0, hz1⟩, ?_, i2, fun l hl c hc => ?_, fun l hl hl2 c hc => ?_⟩) (muUp_lt hc)
      · rw [nx]
        unfold onC
        rw [if_neg (fun hh => hv hh.1), Int32.add_zero]
      · rw [p1] at hl
        by_cases e : l = z15.toNatClampNeg
        · rw [e]
          unfold onL
          rw [if_neg (fun hh => hv hh.1)]
          exact i4 _ (Nat.le_refl _) hzn c hc
        · exact i3 l (by omega) c hc
      · rw [p1] at hl
        exact i4 l (by omega) hl2 c hc
  · rintro ⟨w19, w20, w21⟩ ⟨h1, h2, h3⟩
    have h1 : w19 = sm (onC p2 p3 (ro 7 x4_lines)) g2.toNatClampNeg := h1
    have h2 : LnOk w20 := h2
    have h3 : ∀ l, l < g2.toNatClampNeg → ∀ c, c < 7 → ro 7 w20 l c = onL p2 (ro 7 x4_lines) l c := h3
    try dsimp only [u3]
    refine Sf.bind (thereS hn h_x4_lineCount) (fun v22 h22 => ?_)
    refine Sf.bind (freeByC hn h_x2_edgeA h_x2_edgeB h_x2_edgeLine h_x2_steps h_x2_nodes h_x2_stepCount h_x2_open h_x2_openCount h_x2_edgeCount h_x4_lineCount h_x4_goodsCount h_x4_workCount h_x4_years h2 t5 t6 t7 t8 h22) ?_
    rintro ⟨v24, g26, g27, g28, g29, g30, g31, g32, g33⟩ e24
    have e24 : v24 = Free g2 (ro 7 w20) g9 g10 (ro 3 g7) g3 := e24
    refine Sf.ok (show w19 + g5 * v24 = _ from ?_)
    rw [e24, h1, Free_congr h3 s7 s8 s5]
    rfl
theorem oneWR {n : Nat} {x0_shelf : (Nat → Int32)} {x0_rowSort : (Nat → Int32)} {x0_rowSize : (Nat → Int32)} {x0_rows : (Nat → Nat → Int64)} {x0_moved : (Nat → Int64)} {x0_shown : (Nat → Int32)} {x0_tape : (Nat → Int32)} {x0_tapeSize : Int32} {x0_refused : (Nat → Int32)} {x0_lines : Int32} {x0_line : (Nat → Nat → Int32)} {x0_changes : (Nat → Int32)} {x0_coins : (Nat → Int32)} {x0_goods : Int32} {x0_good : (Nat → Nat → Int32)} {x0_works : Int32} {x0_work : (Nat → Nat → Int32)} {x0_years : Int32} {x0_gone : Int32} {x0_spent : Int32} {x0_at : Int32} {x0_token : Int32} {x0_from : Int32} {x0_figures : Int64} {x0_fault : Int32} {x0_numbers : (Nat → Int32)} {x0_statements : Int32} {x0_left : (Nat → Int32)} {x0_far : (Nat → Int32)} {x0_tons : Int32} {x0_way : (Nat → Int32)} {x0_steps : Int32} {x0_met : Int64} {x0_queue : (Nat → Int32)} {x0_totals : (Nat → Int32)} {x1_shelf : (Nat → Int32)} {x1_rowSort : (Nat → Int32)} {x1_rowSize : (Nat → Int32)} {x1_rows : (Nat → Nat → Int64)} {x1_moved : (Nat → Int64)} {x1_shown : (Nat → Int32)} {x1_tape : (Nat → Int32)} {x1_tapeSize : Int32} {x1_refused : (Nat → Int32)} {x1_lines : Int32} {x1_line : (Nat → Nat → Int32)} {x1_changes : (Nat → Int32)} {x1_coins : (Nat → Int32)} {x1_goods : Int32} {x1_good : (Nat → Nat → Int32)} {x1_works : Int32} {x1_work : (Nat → Nat → Int32)} {x1_years : Int32} {x1_gone : Int32} {x1_spent : Int32} {x1_at : Int32} {x1_token : Int32} {x1_from : Int32} {x1_figures : Int64} {x1_fault : Int32} {x1_numbers : (Nat → Int32)} {x1_statements : Int32} {x1_left : (Nat → Int32)} {x1_far : (Nat → Int32)} {x1_tons : Int32} {x1_way : (Nat → Int32)} {x1_steps : Int32} {x1_met : Int64} {x1_queue : (Nat → Int32)} {x1_totals : (Nat → Int32)} {p1 p2 : Int32} (hn : 1000000000000 ≤ n) (h_x0_shelf : (AI 0 2 x0_shelf)) (h_x0_rowSize : (AI 0 40 x0_rowSize)) (h_x0_tapeSize : (0 ≤ x0_tapeSize ∧ x0_tapeSize ≤ 250)) (h_x0_lines : (0 ≤ x0_lines ∧ x0_lines ≤ 20)) (h_x0_line : (LnM x0_line)) (h_x0_changes : (AI 0 99 x0_changes)) (h_x0_coins : (AI 0 9 x0_coins)) (h_x0_goods : (0 ≤ x0_goods ∧ x0_goods ≤ 8)) (h_x0_good : (GdM x0_good)) (h_x0_works : (0 ≤ x0_works ∧ x0_works ≤ 7)) (h_x0_work : (WkM x0_work)) (h_x0_years : (1 ≤ x0_years ∧ x0_years ≤ 30)) (h_x0_from : (0 ≤ x0_from ∧ x0_from ≤ 250)) (h_x0_far : (AI 0 1000000000 x0_far)) (h_x0_way : (AI 0 22 x0_way)) (h_x0_steps : (0 ≤ x0_steps ∧ x0_steps ≤ 37)) (h_x0_queue : (AI 0 35 x0_queue)) (h_x1_shelf : (AI 0 2 x1_shelf)) (h_x1_rowSize : (AI 0 40 x1_rowSize)) (h_x1_tapeSize : (0 ≤ x1_tapeSize ∧ x1_tapeSize ≤ 250)) (h_x1_lines : (0 ≤ x1_lines ∧ x1_lines ≤ 20)) (h_x1_line : (LnM x1_line)) (h_x1_changes : (AI 0 99 x1_changes)) (h_x1_coins : (AI 0 9 x1_coins)) (h_x1_goods : (0 ≤ x1_goods ∧ x1_goods ≤ 8)) (h_x1_good : (GdM x1_good)) (h_x1_works : (0 ≤ x1_works ∧ x1_works ≤ 7)) (h_x1_work : (WkM x1_work)) (h_x1_years : (1 ≤ x1_years ∧ x1_years ≤ 30)) (h_x1_from : (0 ≤ x1_from ∧ x1_from ≤ 250)) (h_x1_far : (AI 0 1000000000 x1_far)) (h_x1_way : (AI 0 22 x1_way)) (h_x1_steps : (0 ≤ x1_steps ∧ x1_steps ≤ 37)) (h_x1_queue : (AI 0 35 x1_queue)) (hp1 : 0 ≤ p1 ∧ p1 ≤ 2) : Sf (fX7_oneWidth n (x0_shelf, x0_rowSort, x0_rowSize, x0_rows, x0_moved, x0_shown, x0_tape, x0_tapeSize, x0_refused, x0_lines, x0_line, x0_changes, x0_coins, x0_goods, x0_good, x0_works, x0_work, x0_years, x0_gone, x0_spent, x0_at, x0_token, x0_from, x0_figures, x0_fault, x0_numbers, x0_statements, x0_left, x0_far, x0_tons, x0_way, x0_steps, x0_met, x0_queue, x0_totals) (x1_shelf, x1_rowSort, x1_rowSize, x1_rows, x1_moved, x1_shown, x1_tape, x1_tapeSize, x1_refused, x1_lines, x1_line, x1_changes, x1_coins, x1_goods, x1_good, x1_works, x1_work, x1_years, x1_gone, x1_spent, x1_at, x1_token, x1_from, x1_figures, x1_fault, x1_numbers, x1_statements, x1_left, x1_far, x1_tons, x1_way, x1_steps, x1_met, x1_queue, x1_totals) p1 p2) (fun r => r.1 = OneA (x0_lines, x0_line, x0_changes) x0_coins x0_good x0_goods x0_years p1 p2) := by
  have hL := nlt (M := 20) (N := 20) rfl h_x0_lines
  have hG := nlt (M := 8) (N := 8) rfl h_x0_goods
  unfold fX7_oneWidth
  dsimp only [u35]
  refine Sf.bind (Sf.and (sX7_fresh hn h_x0_shelf h_x0_rowSize h_x0_tapeSize h_x0_lines h_x0_line h_x0_changes h_x0_coins h_x0_goods h_x0_good h_x0_works h_x0_work h_x0_years h_x0_from h_x0_far h_x0_way h_x0_steps h_x0_queue h_x1_shelf h_x1_rowSize h_x1_tapeSize h_x1_lines h_x1_line h_x1_changes h_x1_coins h_x1_goods h_x1_good h_x1_works h_x1_work h_x1_years h_x1_from h_x1_far h_x1_way h_x1_steps h_x1_queue) (freshR hn)) ?_
  rintro ⟨g2, g3, g4, g5, g6, g7, g8, g9, g10, g11, g12⟩ ⟨⟨b1, b2, b3, b4, b5, b6, b7, b8, b9⟩, s1, s2, s3, s4, s5, s6, s7, s8, s9, _, _⟩
  have s1 : g2 = x0_lines := s1
  have s2 : ∀ l, l < 20 → ∀ c, c < 7 → g3 l c = x0_line l c := s2
  have s3 : ∀ p, p < 12 → g4 p = x0_changes p := s3
  have s4 : ∀ w, w < 3 → g5 w = x0_coins w := s4
  have s5 : g6 = x0_goods := s5
  have s6 : ∀ g, g < 8 → ∀ c, c < 3 → g7 g c = x0_good g c := s6
  have b2 : LnM g3 := b2
  have b3 : AI 0 99 g4 := b3
  have b4 : AI 0 9 g5 := b4
  have b6 : GdM g7 := b6
  have b8 : WkM g9 := b8
  subst s1 s5
  try dsimp only [u11]
  refine Sf.bind (P := fun r : Int32 × (Nat → Nat → Int32) => r.1 = sm (onC p1 p2 x0_line) g2.toNatClampNeg ∧ LnM r.2 ∧ ∀ l, l < g2.toNatClampNeg → ∀ c, c < 7 → r.2 l c = onL p1 x0_line l c) ?_ ?_
  · refine Sf.loop3 (fun (z15 z16 : Int32) (z17 : Nat → Nat → Int32) => (0 ≤ z16 ∧ z16 ≤ g2) ∧ z15 = sm (onC p1 p2 x0_line) z16.toNatClampNeg ∧ LnM z17 ∧ (∀ l, l < z16.toNatClampNeg → ∀ c, c < 7 → z17 l c = onL p1 x0_line l c) ∧ ∀ l, z16.toNatClampNeg ≤ l → l < g2.toNatClampNeg → ∀ c, c < 7 → z17 l c = x0_line l c) (fun z15 z16 z17 => muUp z16) (fun z15 z16 z17 h => ?_) (show (0 ≤ (0 : Int32) ∧ (0 : Int32) ≤ g2) ∧ (0 : Int32) = sm (onC p1 p2 x0_line) (0 : Int32).toNatClampNeg ∧ LnM g3 ∧ (∀ l, l < (0 : Int32).toNatClampNeg → ∀ c, c < 7 → g3 l c = onL p1 x0_line l c) ∧ ∀ l, (0 : Int32).toNatClampNeg ≤ l → l < g2.toNatClampNeg → ∀ c, c < 7 → g3 l c = x0_line l c from ⟨⟨by decide, h_x0_lines.1⟩, rfl, b2, fun l hl => absurd hl (Nat.not_lt_zero l), fun l _ hl c hc => s2 l (Nat.lt_of_lt_of_le hl hL) c hc⟩) (muUp_n hn)
    obtain ⟨i0, i1, i2, i3, i4⟩ := h
    unfold fX7_oneWidth_s11
    refine Sf.ite (fun hc => ?_) (fun hc => ?_)
    · have e : z16 = g2 := Int32.le_antisymm i0.2 hc
      rw [e] at i1 i3
      exact Sf.inr ⟨i1, i2, i3⟩
    obtain ⟨p0, p1', p3⟩ := up1 i0.1 (Int32.le_trans h_x0_lines.2 (by decide)) hc
    have hz1 : z16 + 1 ≤ g2 := by clear i1 i3 i4 s2 s3 s4 s6; grind
    have hi : 0 ≤ z16 ∧ z16 < 20 := ⟨i0.1, Int32.lt_of_lt_of_le p3 h_x0_lines.2⟩
    have hzn : z16.toNatClampNeg < g2.toNatClampNeg := by
      have a := i32_cl i0.1
      have b := i32_cl h_x0_lines.1
      have c := Int32.lt_iff_toInt_lt.mp p3
      omega
    have row := i4 _ (Nat.le_refl _) hzn
    have nx : sm (onC p1 p2 x0_line) (z16 + 1).toNatClampNeg = z15 + onC p1 p2 x0_line z16.toNatClampNeg := by
      rw [p1', i1]
      rfl
    have put : ∀ y : Int32, y = onC p1 p2 x0_line z16.toNatClampNeg → x0_line z16.toNatClampNeg 6 = 0 → Sf (fX7_oneWidth_j66 p1 z15 z16 z17 y) (LQ (u3 (fun (z15 z16 : Int32) (z17 : Nat → Nat → Int32) => (0 ≤ z16 ∧ z16 ≤ g2) ∧ z15 = sm (onC p1 p2 x0_line) z16.toNatClampNeg ∧ LnM z17 ∧ (∀ l, l < z16.toNatClampNeg → ∀ c, c < 7 → z17 l c = onL p1 x0_line l c) ∧ ∀ l, z16.toNatClampNeg ≤ l → l < g2.toNatClampNeg → ∀ c, c < 7 → z17 l c = x0_line l c)) (u3 (fun (z15 z16 : Int32) (z17 : Nat → Nat → Int32) => muUp z16)) (muUp z16) (fun r : Int32 × (Nat → Nat → Int32) => r.1 = sm (onC p1 p2 x0_line) g2.toNatClampNeg ∧ LnM r.2 ∧ ∀ l, l < g2.toNatClampNeg → ∀ c, c < 7 → r.2 l c = onL p1 x0_line l c)) := by
      intro y hy hd
      unfold fX7_oneWidth_j66
      refine Sf.ckb 20 rfl hi (fun q31 e31 _ => ?_)
      refine Sf.someb (fun t32 e32 => ?_)
      refine Sf.wrb 7 rfl (by decide) (fun f33 e33 => ?_)
      have e33 : f33 = va_up (z17 q31) 2 t32 := e33
      have hw := w7 hp1
      refine Sf.inl (show (0 ≤ z16 + 1 ∧ z16 + 1 ≤ g2) ∧ z15 + y = sm (onC p1 p2 x0_line) (z16 + 1).toNatClampNeg ∧ LnM (va_up z17 q31 f33) ∧ (∀ l, l < (z16 + 1).toNatClampNeg → ∀ c, c < 7 → va_up z17 q31 f33 l c = onL p1 x0_line l c) ∧ ∀ l, (z16 + 1).toNatClampNeg ≤ l → l < g2.toNatClampNeg → ∀ c, c < 7 → va_up z17 q31 f33 l c = x0_line l c from ⟨⟨p0, hz1⟩, by rw [nx, hy], ?_, fun l hl c hc => ?_, fun l hl hl2 c hc => ?_⟩) (muUp_lt hc)
      · rw [e33, e32]
        exact GI.up i2 (RI.up (i2 _) hw)
      · rw [p1'] at hl
        by_cases e : l = z16.toNatClampNeg
        · rw [e, e31, va_eq, e33, e31, e32]
          unfold onL
          by_cases h2 : c = 2
          · rw [if_pos ⟨hd, h2⟩, h2, va_eq]
          · rw [if_neg (fun hh => h2 hh.2), va_ne _ _ h2]
            exact row c hc
        · rw [e31, va_ne _ _ e]
          exact i3 l (by omega) c hc
      · rw [p1'] at hl
        rw [e31, va_ne _ _ (by omega)]
        exact i4 l (by omega) hl2 c hc
    refine Sf.ckb 20 rfl hi (fun q26 e26 _ => ?_)
    refine Sf.rdl 6 rfl rfl (fun v27 e27 => ?_)
    rw [e26, row 6 (by decide)] at e27
    refine Sf.ite (fun hv => ?_) (fun hv => ?_)
    · rw [e27] at hv
      refine Sf.ckb 20 rfl hi (fun q28 e28 _ => ?_)
      refine Sf.rdl 2 rfl rfl (fun v29 e29 => ?_)
      rw [e28, row 2 (by decide)] at e29
      refine Sf.ite (fun hb => ?_) (fun hb => put _ ?_ hv)
      · refine Sf.ckb 20 rfl hi (fun q34 e34 _ => ?_)
        refine Sf.rdl 3 rfl rfl (fun v35 e35 => put _ ?_ hv)
        rw [e34, row 3 (by decide)] at e35
        unfold onC
        rw [if_pos ⟨hv, by rw [← e29]; exact hb⟩, e35]
      · unfold onC
        rw [if_neg (fun hh => hb (by rw [e29]; exact hh.2))]
    · rw [e27] at hv
      refine Sf.inl (show (0 ≤ z16 + 1 ∧ z16 + 1 ≤ g2) ∧ z15 = sm (onC p1 p2 x0_line) (z16 + 1).toNatClampNeg ∧ LnM z17 ∧ (∀ l, l < (z16 + 1).toNatClampNeg → ∀ c, c < 7 → z17 l c = onL p1 x0_line l c) ∧ ∀ l, (z16 + 1).toNatClampNeg ≤ l → l < g2.toNatClampNeg → ∀ c, c < 7 → z17 l c = x0_line l c from ⟨⟨p0, hz1⟩, ?_, i2, fun l hl c hc => ?_, fun l hl hl2 c hc => ?_⟩) (muUp_lt hc)
      · rw [nx]
        unfold onC
        rw [if_neg (fun hh => hv hh.1), Int32.add_zero]
      · rw [p1'] at hl
        by_cases e : l = z16.toNatClampNeg
        · rw [e]
          unfold onL
          rw [if_neg (fun hh => hv hh.1)]
          exact row c hc
        · exact i3 l (by omega) c hc
      · rw [p1'] at hl
        exact i4 l (by omega) hl2 c hc
  · rintro ⟨w19, w20⟩ ⟨h1, h2, h3⟩
    have h1 : w19 = sm (onC p1 p2 x0_line) g2.toNatClampNeg := h1
    have h2 : LnM w20 := h2
    have h3 : ∀ l, l < g2.toNatClampNeg → ∀ c, c < 7 → w20 l c = onL p1 x0_line l c := h3
    try dsimp only [u2]
    refine Sf.bind (freeR hn h_x1_shelf h_x1_rowSize h_x1_tapeSize h_x0_lines h2 b3 b4 h_x0_goods b6 b7 b8 b9 h_x1_from h_x1_far h_x1_way h_x1_steps h_x1_queue) ?_
    rintro ⟨v21, g22, g23, g24⟩ e21
    have e21 : v21 = Free g2 w20 g4 g5 g7 g6 := e21
    refine Sf.ok (show w19 + x0_years * v21 = _ from ?_)
    rw [e21, h1, Free_congr h3 s3 s4 (fun g hg c hc => s6 g (Nat.lt_of_lt_of_le hg hG) c hc)]
    rfl
def VOne (p1 p2 : Int32) : Prop := (0 ≤ p1 ∧ p1 ≤ 2) ∧ (0 ≤ p2 ∧ p2 ≤ 99)
theorem oneC {n : Nat} {x0_refused : (Nat → Int32)} {x0_isKept : Int32} {x0_gone : Int32} {x0_spent : Int32} {x1_gained : Nat → Int32} {x2_lineCount : Int32} {x2_goodsCount : Int32} {x2_workCount : Int32} {x2_years : Int32} {x2_lines : (Nat → Int32)} {x2_goods : (Nat → Int32)} {x2_works : (Nat → Int32)} {x2_change : (Nat → Int32)} {x2_coin : (Nat → Int32)} {x2_knownFree : (Nat → Int32)} {x2_isKnown : Int32} {x3_lineCount : Int32} {x3_goodsCount : Int32} {x3_workCount : Int32} {x3_years : Int32} {x3_lines : (Nat → Int32)} {x3_goods : (Nat → Int32)} {x3_works : (Nat → Int32)} {x3_change : (Nat → Int32)} {x3_coin : (Nat → Int32)} {x3_knownFree : (Nat → Int32)} {x3_isKnown : Int32} {x4_left : (Nat → Int32)} {x4_earned : (Nat → Int32)} {x4_turnCost : Int32} {x4_turnWayless : Int32} {x5_edgeA : (Nat → Int32)} {x5_edgeB : (Nat → Int32)} {x5_edgeCost : (Nat → Int32)} {x5_edgeLine : (Nat → Int32)} {x5_change : (Nat → Int32)} {x5_away : (Nat → Int32)} {x5_steps : (Nat → Int32)} {x5_nodes : (Nat → Int32)} {x5_stepCount : Int32} {x5_open : (Nat → Int32)} {x5_openCount : Int32} {x5_seen : Int64} {x5_edgeCount : Int32} {x5_aim : Int32} {p1 p2 : Int32} (hn : 1000000000000 ≤ n) (h_x2_lineCount : (0 ≤ x2_lineCount ∧ x2_lineCount ≤ 20)) (h_x2_goodsCount : (0 ≤ x2_goodsCount ∧ x2_goodsCount ≤ 8)) (h_x2_workCount : (0 ≤ x2_workCount ∧ x2_workCount ≤ 7)) (h_x2_years : (1 ≤ x2_years ∧ x2_years ≤ 30)) (h_x2_lines : (LnOk x2_lines)) (h_x2_goods : (GdOk x2_goods)) (h_x2_works : (WkOk x2_works)) (h_x2_change : (AI 0 99 x2_change)) (h_x2_coin : (AI 0 9 x2_coin)) (h_x3_lineCount : (0 ≤ x3_lineCount ∧ x3_lineCount ≤ 20)) (h_x3_goodsCount : (0 ≤ x3_goodsCount ∧ x3_goodsCount ≤ 8)) (h_x3_workCount : (0 ≤ x3_workCount ∧ x3_workCount ≤ 7)) (h_x3_years : (1 ≤ x3_years ∧ x3_years ≤ 30)) (h_x3_lines : (LnOk x3_lines)) (h_x3_goods : (GdOk x3_goods)) (h_x3_works : (WkOk x3_works)) (h_x3_change : (AI 0 99 x3_change)) (h_x3_coin : (AI 0 9 x3_coin)) (h_x5_edgeA : (AI 0 35 x5_edgeA)) (h_x5_edgeB : (AI 0 35 x5_edgeB)) (h_x5_edgeLine : (AI 0 19 x5_edgeLine)) (h_x5_steps : (AI 0 22 x5_steps)) (h_x5_nodes : (AI 0 35 x5_nodes)) (h_x5_stepCount : (0 ≤ x5_stepCount ∧ x5_stepCount ≤ 36)) (h_x5_open : (AI 0 35 x5_open)) (h_x5_openCount : (0 ≤ x5_openCount ∧ x5_openCount ≤ 36)) (h_x5_edgeCount : (0 ≤ x5_edgeCount ∧ x5_edgeCount ≤ 60)) : Sf (fX6_one n (x0_refused, x0_isKept, x0_gone, x0_spent) x1_gained (x2_lineCount, x2_goodsCount, x2_workCount, x2_years, x2_lines, x2_goods, x2_works, x2_change, x2_coin, x2_knownFree, x2_isKnown) (x3_lineCount, x3_goodsCount, x3_workCount, x3_years, x3_lines, x3_goods, x3_works, x3_change, x3_coin, x3_knownFree, x3_isKnown) (x4_left, x4_earned, x4_turnCost, x4_turnWayless) (x5_edgeA, x5_edgeB, x5_edgeCost, x5_edgeLine, x5_change, x5_away, x5_steps, x5_nodes, x5_stepCount, x5_open, x5_openCount, x5_seen, x5_edgeCount, x5_aim) p1 p2) (fun r => AP (VOne p1 p2) r.1 (r.1 = OneA (x3_lineCount, ro 7 x3_lines, x3_change) x3_coin (ro 3 x3_goods) x3_goodsCount x3_years p1 p2) True) := by
  unfold fX6_one
  dsimp only [u4, u14, u11]
  refine Sf.bind sX6_within (fun v1 h1 => Sf.ite (fun hz => ?_) (fun hz => ?_))
  · refine Sf.bind refC ?_
    rintro ⟨v, g⟩ e
    exact Sf.ok (Or.inr ⟨fun V => gd0 h1 hz V.1, e, trivial⟩)
  have c1 := gd1 h1 hz
  refine Sf.bind sX6_within (fun v6 h6 => Sf.ite (fun hz => ?_) (fun hz => ?_))
  · refine Sf.bind refC ?_
    rintro ⟨v, g⟩ e
    exact Sf.ok (Or.inr ⟨fun V => gd0 h6 hz V.2, e, trivial⟩)
  have c2 := gd1 h6 hz
  refine Sf.bind (costWC hn h_x5_edgeA h_x5_edgeB h_x5_edgeLine h_x5_steps h_x5_nodes h_x5_stepCount h_x5_open h_x5_openCount h_x5_edgeCount h_x2_lineCount h_x2_goodsCount h_x2_workCount h_x2_years h_x2_lines h_x2_goods h_x2_works h_x2_change h_x2_coin h_x3_lineCount h_x3_goodsCount h_x3_workCount h_x3_years h_x3_lines h_x3_goods h_x3_works h_x3_change h_x3_coin c1) ?_
  rintro ⟨v8, ⟨g10, g11, g12, g13, g14, g15, g16, g17⟩, ⟨g19, g20, g21, g22, g23, g24, g25, g26, g27, g28⟩⟩ e
  exact Sf.ok (Or.inl ⟨⟨c1, c2⟩, e⟩)
theorem oneR {n : Nat} {x0_shelf : (Nat → Int32)} {x0_rowSort : (Nat → Int32)} {x0_rowSize : (Nat → Int32)} {x0_rows : (Nat → Nat → Int64)} {x0_moved : (Nat → Int64)} {x0_shown : (Nat → Int32)} {x0_tape : (Nat → Int32)} {x0_tapeSize : Int32} {x0_refused : (Nat → Int32)} {x0_lines : Int32} {x0_line : (Nat → Nat → Int32)} {x0_changes : (Nat → Int32)} {x0_coins : (Nat → Int32)} {x0_goods : Int32} {x0_good : (Nat → Nat → Int32)} {x0_works : Int32} {x0_work : (Nat → Nat → Int32)} {x0_years : Int32} {x0_gone : Int32} {x0_spent : Int32} {x0_at : Int32} {x0_token : Int32} {x0_from : Int32} {x0_figures : Int64} {x0_fault : Int32} {x0_numbers : (Nat → Int32)} {x0_statements : Int32} {x0_left : (Nat → Int32)} {x0_far : (Nat → Int32)} {x0_tons : Int32} {x0_way : (Nat → Int32)} {x0_steps : Int32} {x0_met : Int64} {x0_queue : (Nat → Int32)} {x0_totals : (Nat → Int32)} {x1_shelf : (Nat → Int32)} {x1_rowSort : (Nat → Int32)} {x1_rowSize : (Nat → Int32)} {x1_rows : (Nat → Nat → Int64)} {x1_moved : (Nat → Int64)} {x1_shown : (Nat → Int32)} {x1_tape : (Nat → Int32)} {x1_tapeSize : Int32} {x1_refused : (Nat → Int32)} {x1_lines : Int32} {x1_line : (Nat → Nat → Int32)} {x1_changes : (Nat → Int32)} {x1_coins : (Nat → Int32)} {x1_goods : Int32} {x1_good : (Nat → Nat → Int32)} {x1_works : Int32} {x1_work : (Nat → Nat → Int32)} {x1_years : Int32} {x1_gone : Int32} {x1_spent : Int32} {x1_at : Int32} {x1_token : Int32} {x1_from : Int32} {x1_figures : Int64} {x1_fault : Int32} {x1_numbers : (Nat → Int32)} {x1_statements : Int32} {x1_left : (Nat → Int32)} {x1_far : (Nat → Int32)} {x1_tons : Int32} {x1_way : (Nat → Int32)} {x1_steps : Int32} {x1_met : Int64} {x1_queue : (Nat → Int32)} {x1_totals : (Nat → Int32)} {p1 p2 : Int32} (hn : 1000000000000 ≤ n) (h_x0_shelf : (AI 0 2 x0_shelf)) (h_x0_rowSize : (AI 0 40 x0_rowSize)) (h_x0_tapeSize : (0 ≤ x0_tapeSize ∧ x0_tapeSize ≤ 250)) (h_x0_lines : (0 ≤ x0_lines ∧ x0_lines ≤ 20)) (h_x0_line : (LnM x0_line)) (h_x0_changes : (AI 0 99 x0_changes)) (h_x0_coins : (AI 0 9 x0_coins)) (h_x0_goods : (0 ≤ x0_goods ∧ x0_goods ≤ 8)) (h_x0_good : (GdM x0_good)) (h_x0_works : (0 ≤ x0_works ∧ x0_works ≤ 7)) (h_x0_work : (WkM x0_work)) (h_x0_years : (1 ≤ x0_years ∧ x0_years ≤ 30)) (h_x0_from : (0 ≤ x0_from ∧ x0_from ≤ 250)) (h_x0_far : (AI 0 1000000000 x0_far)) (h_x0_way : (AI 0 22 x0_way)) (h_x0_steps : (0 ≤ x0_steps ∧ x0_steps ≤ 37)) (h_x0_queue : (AI 0 35 x0_queue)) (h_x1_shelf : (AI 0 2 x1_shelf)) (h_x1_rowSize : (AI 0 40 x1_rowSize)) (h_x1_tapeSize : (0 ≤ x1_tapeSize ∧ x1_tapeSize ≤ 250)) (h_x1_lines : (0 ≤ x1_lines ∧ x1_lines ≤ 20)) (h_x1_line : (LnM x1_line)) (h_x1_changes : (AI 0 99 x1_changes)) (h_x1_coins : (AI 0 9 x1_coins)) (h_x1_goods : (0 ≤ x1_goods ∧ x1_goods ≤ 8)) (h_x1_good : (GdM x1_good)) (h_x1_works : (0 ≤ x1_works ∧ x1_works ≤ 7)) (h_x1_work : (WkM x1_work)) (h_x1_years : (1 ≤ x1_years ∧ x1_years ≤ 30)) (h_x1_from : (0 ≤ x1_from ∧ x1_from ≤ 250)) (h_x1_far : (AI 0 1000000000 x1_far)) (h_x1_way : (AI 0 22 x1_way)) (h_x1_steps : (0 ≤ x1_steps ∧ x1_steps ≤ 37)) (h_x1_queue : (AI 0 35 x1_queue)) : Sf (fX7_one n (x0_shelf, x0_rowSort, x0_rowSize, x0_rows, x0_moved, x0_shown, x0_tape, x0_tapeSize, x0_refused, x0_lines, x0_line, x0_changes, x0_coins, x0_goods, x0_good, x0_works, x0_work, x0_years, x0_gone, x0_spent, x0_at, x0_token, x0_from, x0_figures, x0_fault, x0_numbers, x0_statements, x0_left, x0_far, x0_tons, x0_way, x0_steps, x0_met, x0_queue, x0_totals) (x1_shelf, x1_rowSort, x1_rowSize, x1_rows, x1_moved, x1_shown, x1_tape, x1_tapeSize, x1_refused, x1_lines, x1_line, x1_changes, x1_coins, x1_goods, x1_good, x1_works, x1_work, x1_years, x1_gone, x1_spent, x1_at, x1_token, x1_from, x1_figures, x1_fault, x1_numbers, x1_statements, x1_left, x1_far, x1_tons, x1_way, x1_steps, x1_met, x1_queue, x1_totals) p1 p2) (fun r => AP (VOne p1 p2) r.1 (r.1 = OneA (x0_lines, x0_line, x0_changes) x0_coins x0_good x0_goods x0_years p1 p2) True) := by
  unfold fX7_one
  dsimp only [u35]
  refine Sf.bind (s_inq p1 0 2 (by decide) (by decide)) (fun v1 h1 => Sf.ite (fun hz => ?_) (fun hz => ?_))
  · refine Sf.bind (sX7_refuse h_x0_shelf h_x0_rowSize h_x0_tapeSize h_x0_lines h_x0_line h_x0_changes h_x0_coins h_x0_goods h_x0_good h_x0_works h_x0_work h_x0_years h_x0_from h_x0_far h_x0_way h_x0_steps h_x0_queue (by decide)) ?_
    rintro ⟨v, g⟩ e
    exact Sf.ok (Or.inr ⟨fun V => gd0 h1 hz V.1, e, trivial⟩)
  have c1 := gd1 h1 hz
  refine Sf.bind (s_inq p2 0 99 (by decide) (by decide)) (fun v6 h6 => Sf.ite (fun hz => ?_) (fun hz => ?_))
  · refine Sf.bind (sX7_refuse h_x0_shelf h_x0_rowSize h_x0_tapeSize h_x0_lines h_x0_line h_x0_changes h_x0_coins h_x0_goods h_x0_good h_x0_works h_x0_work h_x0_years h_x0_from h_x0_far h_x0_way h_x0_steps h_x0_queue (by decide)) ?_
    rintro ⟨v, g⟩ e
    exact Sf.ok (Or.inr ⟨fun V => gd0 h6 hz V.2, e, trivial⟩)
  have c2 := gd1 h6 hz
  refine Sf.bind (oneWR hn h_x0_shelf h_x0_rowSize h_x0_tapeSize h_x0_lines h_x0_line h_x0_changes h_x0_coins h_x0_goods h_x0_good h_x0_works h_x0_work h_x0_years h_x0_from h_x0_far h_x0_way h_x0_steps h_x0_queue h_x1_shelf h_x1_rowSize h_x1_tapeSize h_x1_lines h_x1_line h_x1_changes h_x1_coins h_x1_goods h_x1_good h_x1_works h_x1_work h_x1_years h_x1_from h_x1_far h_x1_way h_x1_steps h_x1_queue c1) ?_
  rintro ⟨v11, g13, g14, g15, g16, g17, g18, g19, g20, g21, g22, g23, g24, g25, g26⟩ e
  exact Sf.ok (Or.inl ⟨⟨c1, c2⟩, e⟩)
theorem dOne {n : Nat} {x0_refused : (Nat → Int32)} {x0_isKept : Int32} {x0_gone : Int32} {x0_spent : Int32} {x1_gained : Nat → Int32} {x2_lineCount : Int32} {x2_goodsCount : Int32} {x2_workCount : Int32} {x2_years : Int32} {x2_lines : (Nat → Int32)} {x2_goods : (Nat → Int32)} {x2_works : (Nat → Int32)} {x2_change : (Nat → Int32)} {x2_coin : (Nat → Int32)} {x2_knownFree : (Nat → Int32)} {x2_isKnown : Int32} {x3_lineCount : Int32} {x3_goodsCount : Int32} {x3_workCount : Int32} {x3_years : Int32} {x3_lines : (Nat → Int32)} {x3_goods : (Nat → Int32)} {x3_works : (Nat → Int32)} {x3_change : (Nat → Int32)} {x3_coin : (Nat → Int32)} {x3_knownFree : (Nat → Int32)} {x3_isKnown : Int32} {x4_left : (Nat → Int32)} {x4_earned : (Nat → Int32)} {x4_turnCost : Int32} {x4_turnWayless : Int32} {x5_edgeA : (Nat → Int32)} {x5_edgeB : (Nat → Int32)} {x5_edgeCost : (Nat → Int32)} {x5_edgeLine : (Nat → Int32)} {x5_change : (Nat → Int32)} {x5_away : (Nat → Int32)} {x5_steps : (Nat → Int32)} {x5_nodes : (Nat → Int32)} {x5_stepCount : Int32} {x5_open : (Nat → Int32)} {x5_openCount : Int32} {x5_seen : Int64} {x5_edgeCount : Int32} {x5_aim : Int32} {m_shelf : (Nat → Int32)} {m_rowSort : (Nat → Int32)} {m_rowSize : (Nat → Int32)} {m_rows : (Nat → Nat → Int64)} {m_moved : (Nat → Int64)} {m_shown : (Nat → Int32)} {m_tape : (Nat → Int32)} {m_tapeSize : Int32} {m_refused : (Nat → Int32)} {m_lines : Int32} {m_line : (Nat → Nat → Int32)} {m_changes : (Nat → Int32)} {m_coins : (Nat → Int32)} {m_goods : Int32} {m_good : (Nat → Nat → Int32)} {m_works : Int32} {m_work : (Nat → Nat → Int32)} {m_years : Int32} {m_gone : Int32} {m_spent : Int32} {m_at : Int32} {m_token : Int32} {m_from : Int32} {m_figures : Int64} {m_fault : Int32} {m_numbers : (Nat → Int32)} {m_statements : Int32} {m_left : (Nat → Int32)} {m_far : (Nat → Int32)} {m_tons : Int32} {m_way : (Nat → Int32)} {m_steps : Int32} {m_met : Int64} {m_queue : (Nat → Int32)} {m_totals : (Nat → Int32)} {t_shelf : (Nat → Int32)} {t_rowSort : (Nat → Int32)} {t_rowSize : (Nat → Int32)} {t_rows : (Nat → Nat → Int64)} {t_moved : (Nat → Int64)} {t_shown : (Nat → Int32)} {t_tape : (Nat → Int32)} {t_tapeSize : Int32} {t_refused : (Nat → Int32)} {t_lines : Int32} {t_line : (Nat → Nat → Int32)} {t_changes : (Nat → Int32)} {t_coins : (Nat → Int32)} {t_goods : Int32} {t_good : (Nat → Nat → Int32)} {t_works : Int32} {t_work : (Nat → Nat → Int32)} {t_years : Int32} {t_gone : Int32} {t_spent : Int32} {t_at : Int32} {t_token : Int32} {t_from : Int32} {t_figures : Int64} {t_fault : Int32} {t_numbers : (Nat → Int32)} {t_statements : Int32} {t_left : (Nat → Int32)} {t_far : (Nat → Int32)} {t_tons : Int32} {t_way : (Nat → Int32)} {t_steps : Int32} {t_met : Int64} {t_queue : (Nat → Int32)} {t_totals : (Nat → Int32)} {p1 p2 er fr : Int32} {A6 : (Nat → Int32) × (Int32 × Int32 × Int32 × Int32 × (Nat → Int32) × (Nat → Int32) × (Nat → Int32) × (Nat → Int32) × (Nat → Int32) × Int32) × ((Nat → Int32) × (Nat → Int32) × (Nat → Int32) × (Nat → Int32) × (Nat → Int32) × (Nat → Int32) × Int32 × Int32)} {B6 : (Nat → Int32) × (Int32 × (Nat → Nat → Int32) × (Nat → Int32) × (Nat → Int32) × Int32 × (Nat → Nat → Int32) × Int32 × (Nat → Nat → Int32) × Int32 × Int32 × Int32 × (Nat → Int32) × (Nat → Int32) × Int32)} (hn : 1000000000000 ≤ n) (h_x2_lineCount : (0 ≤ x2_lineCount ∧ x2_lineCount ≤ 20)) (h_x2_goodsCount : (0 ≤ x2_goodsCount ∧ x2_goodsCount ≤ 8)) (h_x2_workCount : (0 ≤ x2_workCount ∧ x2_workCount ≤ 7)) (h_x2_years : (1 ≤ x2_years ∧ x2_years ≤ 30)) (h_x2_lines : (LnOk x2_lines)) (h_x2_goods : (GdOk x2_goods)) (h_x2_works : (WkOk x2_works)) (h_x2_change : (AI 0 99 x2_change)) (h_x2_coin : (AI 0 9 x2_coin)) (h_x3_lineCount : (0 ≤ x3_lineCount ∧ x3_lineCount ≤ 20)) (h_x3_goodsCount : (0 ≤ x3_goodsCount ∧ x3_goodsCount ≤ 8)) (h_x3_workCount : (0 ≤ x3_workCount ∧ x3_workCount ≤ 7)) (h_x3_years : (1 ≤ x3_years ∧ x3_years ≤ 30)) (h_x3_lines : (LnOk x3_lines)) (h_x3_goods : (GdOk x3_goods)) (h_x3_works : (WkOk x3_works)) (h_x3_change : (AI 0 99 x3_change)) (h_x3_coin : (AI 0 9 x3_coin)) (h_x5_edgeA : (AI 0 35 x5_edgeA)) (h_x5_edgeB : (AI 0 35 x5_edgeB)) (h_x5_edgeLine : (AI 0 19 x5_edgeLine)) (h_x5_steps : (AI 0 22 x5_steps)) (h_x5_nodes : (AI 0 35 x5_nodes)) (h_x5_stepCount : (0 ≤ x5_stepCount ∧ x5_stepCount ≤ 36)) (h_x5_open : (AI 0 35 x5_open)) (h_x5_openCount : (0 ≤ x5_openCount ∧ x5_openCount ≤ 36)) (h_x5_edgeCount : (0 ≤ x5_edgeCount ∧ x5_edgeCount ≤ 60)) (h_m_shelf : (AI 0 2 m_shelf)) (h_m_rowSize : (AI 0 40 m_rowSize)) (h_m_tapeSize : (0 ≤ m_tapeSize ∧ m_tapeSize ≤ 250)) (h_m_lines : (0 ≤ m_lines ∧ m_lines ≤ 20)) (h_m_line : (LnM m_line)) (h_m_changes : (AI 0 99 m_changes)) (h_m_coins : (AI 0 9 m_coins)) (h_m_goods : (0 ≤ m_goods ∧ m_goods ≤ 8)) (h_m_good : (GdM m_good)) (h_m_works : (0 ≤ m_works ∧ m_works ≤ 7)) (h_m_work : (WkM m_work)) (h_m_years : (1 ≤ m_years ∧ m_years ≤ 30)) (h_m_from : (0 ≤ m_from ∧ m_from ≤ 250)) (h_m_far : (AI 0 1000000000 m_far)) (h_m_way : (AI 0 22 m_way)) (h_m_steps : (0 ≤ m_steps ∧ m_steps ≤ 37)) (h_m_queue : (AI 0 35 m_queue)) (h_t_shelf : (AI 0 2 t_shelf)) (h_t_rowSize : (AI 0 40 t_rowSize)) (h_t_tapeSize : (0 ≤ t_tapeSize ∧ t_tapeSize ≤ 250)) (h_t_lines : (0 ≤ t_lines ∧ t_lines ≤ 20)) (h_t_line : (LnM t_line)) (h_t_changes : (AI 0 99 t_changes)) (h_t_coins : (AI 0 9 t_coins)) (h_t_goods : (0 ≤ t_goods ∧ t_goods ≤ 8)) (h_t_good : (GdM t_good)) (h_t_works : (0 ≤ t_works ∧ t_works ≤ 7)) (h_t_work : (WkM t_work)) (h_t_years : (1 ≤ t_years ∧ t_years ≤ 30)) (h_t_from : (0 ≤ t_from ∧ t_from ≤ 250)) (h_t_far : (AI 0 1000000000 t_far)) (h_t_way : (AI 0 22 t_way)) (h_t_steps : (0 ≤ t_steps ∧ t_steps ≤ 37)) (h_t_queue : (AI 0 35 t_queue)) (hA : (LaD x3_lineCount x3_goodsCount x3_workCount x3_years x3_lines x3_goods x3_works x3_change x3_coin m_lines m_line m_changes m_coins m_goods m_good m_works m_work m_years)) (eqA : fX6_one n (x0_refused, x0_isKept, x0_gone, x0_spent) x1_gained (x2_lineCount, x2_goodsCount, x2_workCount, x2_years, x2_lines, x2_goods, x2_works, x2_change, x2_coin, x2_knownFree, x2_isKnown) (x3_lineCount, x3_goodsCount, x3_workCount, x3_years, x3_lines, x3_goods, x3_works, x3_change, x3_coin, x3_knownFree, x3_isKnown) (x4_left, x4_earned, x4_turnCost, x4_turnWayless) (x5_edgeA, x5_edgeB, x5_edgeCost, x5_edgeLine, x5_change, x5_away, x5_steps, x5_nodes, x5_stepCount, x5_open, x5_openCount, x5_seen, x5_edgeCount, x5_aim) p1 p2 = some (er, A6)) (eqB : fX7_one n (m_shelf, m_rowSort, m_rowSize, m_rows, m_moved, m_shown, m_tape, m_tapeSize, m_refused, m_lines, m_line, m_changes, m_coins, m_goods, m_good, m_works, m_work, m_years, m_gone, m_spent, m_at, m_token, m_from, m_figures, m_fault, m_numbers, m_statements, m_left, m_far, m_tons, m_way, m_steps, m_met, m_queue, m_totals) (t_shelf, t_rowSort, t_rowSize, t_rows, t_moved, t_shown, t_tape, t_tapeSize, t_refused, t_lines, t_line, t_changes, t_coins, t_goods, t_good, t_works, t_work, t_years, t_gone, t_spent, t_at, t_token, t_from, t_figures, t_fault, t_numbers, t_statements, t_left, t_far, t_tons, t_way, t_steps, t_met, t_queue, t_totals) p1 p2 = some (fr, B6)) : er = fr := by
  have a := (oneC hn h_x2_lineCount h_x2_goodsCount h_x2_workCount h_x2_years h_x2_lines h_x2_goods h_x2_works h_x2_change h_x2_coin h_x3_lineCount h_x3_goodsCount h_x3_workCount h_x3_years h_x3_lines h_x3_goods h_x3_works h_x3_change h_x3_coin h_x5_edgeA h_x5_edgeB h_x5_edgeLine h_x5_steps h_x5_nodes h_x5_stepCount h_x5_open h_x5_openCount h_x5_edgeCount).at eqA
  have b := (oneR hn h_m_shelf h_m_rowSize h_m_tapeSize h_m_lines h_m_line h_m_changes h_m_coins h_m_goods h_m_good h_m_works h_m_work h_m_years h_m_from h_m_far h_m_way h_m_steps h_m_queue h_t_shelf h_t_rowSize h_t_tapeSize h_t_lines h_t_line h_t_changes h_t_coins h_t_goods h_t_good h_t_works h_t_work h_t_years h_t_from h_t_far h_t_way h_t_steps h_t_queue).at eqB
  obtain ⟨⟨z1, z2, z3, z4⟩, z5, z6, z7, z8, z9, z10⟩ := id hA
  have hS := hA.s
  subst z1 z2 z3 z4
  rcases AP_eq a b with ⟨a1, b1⟩ | ⟨e, _, _⟩
  · exact (a1.trans (OneA_congr hS.1 z9 z6)).trans b1.symm
  · exact e
/-- which of three is least -/
def wh1 (c : Int32 → Int32) : Int32 := if c 0 ≤ c 1 then 0 else 1
def wh2 (c : Int32 → Int32) : Int32 := if c (wh1 c) ≤ c 2 then wh1 c else 2
theorem whichC {n : Nat} {x0_refused : (Nat → Int32)} {x0_isKept : Int32} {x0_gone : Int32} {x0_spent : Int32} {x1_gained : Nat → Int32} {x2_lineCount : Int32} {x2_goodsCount : Int32} {x2_workCount : Int32} {x2_years : Int32} {x2_lines : (Nat → Int32)} {x2_goods : (Nat → Int32)} {x2_works : (Nat → Int32)} {x2_change : (Nat → Int32)} {x2_coin : (Nat → Int32)} {x2_knownFree : (Nat → Int32)} {x2_isKnown : Int32} {x3_lineCount : Int32} {x3_goodsCount : Int32} {x3_workCount : Int32} {x3_years : Int32} {x3_lines : (Nat → Int32)} {x3_goods : (Nat → Int32)} {x3_works : (Nat → Int32)} {x3_change : (Nat → Int32)} {x3_coin : (Nat → Int32)} {x3_knownFree : (Nat → Int32)} {x3_isKnown : Int32} {x4_left : (Nat → Int32)} {x4_earned : (Nat → Int32)} {x4_turnCost : Int32} {x4_turnWayless : Int32} {x5_edgeA : (Nat → Int32)} {x5_edgeB : (Nat → Int32)} {x5_edgeCost : (Nat → Int32)} {x5_edgeLine : (Nat → Int32)} {x5_change : (Nat → Int32)} {x5_away : (Nat → Int32)} {x5_steps : (Nat → Int32)} {x5_nodes : (Nat → Int32)} {x5_stepCount : Int32} {x5_open : (Nat → Int32)} {x5_openCount : Int32} {x5_seen : Int64} {x5_edgeCount : Int32} {x5_aim : Int32} {p1 : Int32} (hn : 1000000000000 ≤ n) (h_x2_lineCount : (0 ≤ x2_lineCount ∧ x2_lineCount ≤ 20)) (h_x2_goodsCount : (0 ≤ x2_goodsCount ∧ x2_goodsCount ≤ 8)) (h_x2_workCount : (0 ≤ x2_workCount ∧ x2_workCount ≤ 7)) (h_x2_years : (1 ≤ x2_years ∧ x2_years ≤ 30)) (h_x2_lines : (LnOk x2_lines)) (h_x2_goods : (GdOk x2_goods)) (h_x2_works : (WkOk x2_works)) (h_x2_change : (AI 0 99 x2_change)) (h_x2_coin : (AI 0 9 x2_coin)) (h_x3_lineCount : (0 ≤ x3_lineCount ∧ x3_lineCount ≤ 20)) (h_x3_goodsCount : (0 ≤ x3_goodsCount ∧ x3_goodsCount ≤ 8)) (h_x3_workCount : (0 ≤ x3_workCount ∧ x3_workCount ≤ 7)) (h_x3_years : (1 ≤ x3_years ∧ x3_years ≤ 30)) (h_x3_lines : (LnOk x3_lines)) (h_x3_goods : (GdOk x3_goods)) (h_x3_works : (WkOk x3_works)) (h_x3_change : (AI 0 99 x3_change)) (h_x3_coin : (AI 0 9 x3_coin)) (h_x5_edgeA : (AI 0 35 x5_edgeA)) (h_x5_edgeB : (AI 0 35 x5_edgeB)) (h_x5_edgeLine : (AI 0 19 x5_edgeLine)) (h_x5_steps : (AI 0 22 x5_steps)) (h_x5_nodes : (AI 0 35 x5_nodes)) (h_x5_stepCount : (0 ≤ x5_stepCount ∧ x5_stepCount ≤ 36)) (h_x5_open : (AI 0 35 x5_open)) (h_x5_openCount : (0 ≤ x5_openCount ∧ x5_openCount ≤ 36)) (h_x5_edgeCount : (0 ≤ x5_edgeCount ∧ x5_edgeCount ≤ 60)) {c : Int32 → Int32} (hC : ∀ w, OneA (x3_lineCount, ro 7 x3_lines, x3_change) x3_coin (ro 3 x3_goods) x3_goodsCount x3_years w p1 = c w) : Sf (fX6_which n (x0_refused, x0_isKept, x0_gone, x0_spent) x1_gained (x2_lineCount, x2_goodsCount, x2_workCount, x2_years, x2_lines, x2_goods, x2_works, x2_change, x2_coin, x2_knownFree, x2_isKnown) (x3_lineCount, x3_goodsCount, x3_workCount, x3_years, x3_lines, x3_goods, x3_works, x3_change, x3_coin, x3_knownFree, x3_isKnown) (x4_left, x4_earned, x4_turnCost, x4_turnWayless) (x5_edgeA, x5_edgeB, x5_edgeCost, x5_edgeLine, x5_change, x5_away, x5_steps, x5_nodes, x5_stepCount, x5_open, x5_openCount, x5_seen, x5_edgeCount, x5_aim) p1) (fun r => AP (0 ≤ p1 ∧ p1 ≤ 99) r.1 (r.1 = wh2 c) True) := by
  unfold fX6_which
  dsimp only [u4, u14, u11]
  refine Sf.bind sX6_within (fun v1 h1 => Sf.ite (fun hz => ?_) (fun hz => ?_))
  · refine Sf.bind refC ?_
    rintro ⟨v, g⟩ e
    exact Sf.ok (Or.inr ⟨fun V => gd0 h1 hz V, e, trivial⟩)
  have c1 := gd1 h1 hz
  refine Sf.bind (Sf.and (sX0_costOfWidth hn h_x5_edgeA h_x5_edgeB h_x5_edgeLine h_x5_steps h_x5_nodes h_x5_stepCount h_x5_open h_x5_openCount h_x5_edgeCount h_x2_lineCount h_x2_goodsCount h_x2_workCount h_x2_years h_x2_lines h_x2_goods h_x2_works h_x2_change h_x2_coin h_x3_lineCount h_x3_goodsCount h_x3_workCount h_x3_years h_x3_lines h_x3_goods h_x3_works h_x3_change h_x3_coin (by decide)) (costWC hn h_x5_edgeA h_x5_edgeB h_x5_edgeLine h_x5_steps h_x5_nodes h_x5_stepCount h_x5_open h_x5_openCount h_x5_edgeCount h_x2_lineCount h_x2_goodsCount h_x2_workCount h_x2_years h_x2_lines h_x2_goods h_x2_works h_x2_change h_x2_coin h_x3_lineCount h_x3_goodsCount h_x3_workCount h_x3_years h_x3_lines h_x3_goods h_x3_works h_x3_change h_x3_coin (by decide))) ?_
  rintro ⟨v3, ⟨g5, g6, g7, g8, g9, g10, g11, g12⟩, ⟨g14, g15, g16, g17, g18, g19, g20, g21, g22, g23⟩⟩ ⟨⟨b1, b2, b3, b4, b5, b6, b7, b8, b9, b10, b11, b12, b13⟩, e3⟩
  have e3 : v3 = c 0 := e3.trans (hC 0)
  try dsimp only [u8, u10]
  refine Sf.bind (P := fun r => r.1 = wh2 c) ?_ ?_
  · refine Sf.loop21 (fun z26 z27 z28 z29 z30 z31 z32 z33 z34 z35 z36 z37 z38 z39 z40 z41 z42 z43 z44 z45 z46 => ((z28 = 1 ∧ z26 = 0 ∨ z28 = 2 ∧ z26 = wh1 c ∨ z28 = 3 ∧ z26 = wh2 c) ∧ z27 = c z26) ∧ StB z39 z40 z42 z45 z29 z30 z31 z32 z33 z34 z35 z36 z37) (fun z26 z27 z28 z29 z30 z31 z32 z33 z34 z35 z36 z37 z38 z39 z40 z41 z42 z43 z44 z45 z46 => muUp z28) (fun z26 z27 z28 z29 z30 z31 z32 z33 z34 z35 z36 z37 z38 z39 z40 z41 z42 z43 z44 z45 z46 h => ?_) ?_ (muUp_n hn)
    · obtain ⟨⟨i0, i1⟩, ⟨⟨j1, j2, j3, j4⟩, m1, m2, m3, m4, m5, m6, m7, m8, m9⟩⟩ := h
      unfold fX6_which_s36
      refine Sf.ite (fun hc => Sf.inr ?_) (fun hc => ?_)
      · rcases i0 with ⟨a, _⟩ | ⟨a, _⟩ | ⟨_, b⟩
        · rw [a] at hc; exact absurd hc (by decide)
        · rw [a] at hc; exact absurd hc (by decide)
        · exact b
      have hz2 : 0 ≤ z28 ∧ z28 ≤ 2 := by
        rcases i0 with ⟨a, _⟩ | ⟨a, _⟩ | ⟨a, _⟩
        · rw [a]; decide
        · rw [a]; decide
        · rw [a] at hc; exact absurd (by decide) hc
      refine Sf.bind (Sf.and (sX0_costOfWidth hn j1 j2 j3 h_x5_steps h_x5_nodes h_x5_stepCount h_x5_open h_x5_openCount j4 m1 m2 m3 m4 m5 m6 m7 m8 m9 h_x3_lineCount h_x3_goodsCount h_x3_workCount h_x3_years h_x3_lines h_x3_goods h_x3_works h_x3_change h_x3_coin hz2) (costWC hn j1 j2 j3 h_x5_steps h_x5_nodes h_x5_stepCount h_x5_open h_x5_openCount j4 m1 m2 m3 m4 m5 m6 m7 m8 m9 h_x3_lineCount h_x3_goodsCount h_x3_workCount h_x3_years h_x3_lines h_x3_goods h_x3_works h_x3_change h_x3_coin hz2)) ?_
      rintro ⟨v67, ⟨g69, g70, g71, g72, g73, g74, g75, g76⟩, ⟨g78, g79, g80, g81, g82, g83, g84, g85, g86, g87⟩⟩ ⟨⟨b1, b2, b3, b4, b5, b6, b7, b8, b9, b10, b11, b12, b13⟩, e67⟩
      have e67 : v67 = c z28 := e67.trans (hC z28)
      try dsimp only [u8, u10]
      refine Sf.ite (fun hle => ?_) (fun hle => ?_)
      · refine Sf.inl ⟨⟨?_, i1⟩, ⟨b1, b2, b3, b4⟩, b5, b6, b7, b8, b9, b10, b11, b12, b13⟩ (muUp_lt hc)
        rw [i1, e67] at hle
        rcases i0 with ⟨a, b⟩ | ⟨a, b⟩ | ⟨a, _⟩
        · refine Or.inr (Or.inl ⟨(by show _ + 1 = _; rw [a]; decide), ?_⟩)
          rw [a, b] at hle
          rw [b]; unfold wh1; rw [if_pos hle]
        · refine Or.inr (Or.inr ⟨(by show _ + 1 = _; rw [a]; decide), ?_⟩)
          rw [a, b] at hle
          rw [b]; unfold wh2; rw [if_pos hle]
        · rw [a] at hc; exact absurd (by decide) hc
      · refine Sf.inl ⟨⟨?_, e67⟩, ⟨b1, b2, b3, b4⟩, b5, b6, b7, b8, b9, b10, b11, b12, b13⟩ (muUp_lt hc)
        rw [i1, e67] at hle
        rcases i0 with ⟨a, b⟩ | ⟨a, b⟩ | ⟨a, _⟩
        · refine Or.inr (Or.inl ⟨(by show _ + 1 = _; rw [a]; decide), ?_⟩)
          rw [a, b] at hle
          rw [a]; unfold wh1; rw [if_neg hle]
        · refine Or.inr (Or.inr ⟨(by show _ + 1 = _; rw [a]; decide), ?_⟩)
          rw [a, b] at hle
          rw [a]; unfold wh2; rw [if_neg hle]
        · rw [a] at hc; exact absurd (by decide) hc
    · exact ⟨⟨Or.inl ⟨rfl, rfl⟩, e3⟩, ⟨b1, b2, b3, b4⟩, b5, b6, b7, b8, b9, b10, b11, b12, b13⟩
  · rintro ⟨w48, w49, w50, w51, w52, w53, w54, w55, w56, w57, w58, w59, w60, w61, w62, w63, w64, w65, w66⟩ h
    exact Sf.ok (Or.inl ⟨c1, h⟩)
theorem whichR {n : Nat} {x0_shelf : (Nat → Int32)} {x0_rowSort : (Nat → Int32)} {x0_rowSize : (Nat → Int32)} {x0_rows : (Nat → Nat → Int64)} {x0_moved : (Nat → Int64)} {x0_shown : (Nat → Int32)} {x0_tape : (Nat → Int32)} {x0_tapeSize : Int32} {x0_refused : (Nat → Int32)} {x0_lines : Int32} {x0_line : (Nat → Nat → Int32)} {x0_changes : (Nat → Int32)} {x0_coins : (Nat → Int32)} {x0_goods : Int32} {x0_good : (Nat → Nat → Int32)} {x0_works : Int32} {x0_work : (Nat → Nat → Int32)} {x0_years : Int32} {x0_gone : Int32} {x0_spent : Int32} {x0_at : Int32} {x0_token : Int32} {x0_from : Int32} {x0_figures : Int64} {x0_fault : Int32} {x0_numbers : (Nat → Int32)} {x0_statements : Int32} {x0_left : (Nat → Int32)} {x0_far : (Nat → Int32)} {x0_tons : Int32} {x0_way : (Nat → Int32)} {x0_steps : Int32} {x0_met : Int64} {x0_queue : (Nat → Int32)} {x0_totals : (Nat → Int32)} {x1_shelf : (Nat → Int32)} {x1_rowSort : (Nat → Int32)} {x1_rowSize : (Nat → Int32)} {x1_rows : (Nat → Nat → Int64)} {x1_moved : (Nat → Int64)} {x1_shown : (Nat → Int32)} {x1_tape : (Nat → Int32)} {x1_tapeSize : Int32} {x1_refused : (Nat → Int32)} {x1_lines : Int32} {x1_line : (Nat → Nat → Int32)} {x1_changes : (Nat → Int32)} {x1_coins : (Nat → Int32)} {x1_goods : Int32} {x1_good : (Nat → Nat → Int32)} {x1_works : Int32} {x1_work : (Nat → Nat → Int32)} {x1_years : Int32} {x1_gone : Int32} {x1_spent : Int32} {x1_at : Int32} {x1_token : Int32} {x1_from : Int32} {x1_figures : Int64} {x1_fault : Int32} {x1_numbers : (Nat → Int32)} {x1_statements : Int32} {x1_left : (Nat → Int32)} {x1_far : (Nat → Int32)} {x1_tons : Int32} {x1_way : (Nat → Int32)} {x1_steps : Int32} {x1_met : Int64} {x1_queue : (Nat → Int32)} {x1_totals : (Nat → Int32)} {p1 : Int32} (hn : 1000000000000 ≤ n) (h_x0_shelf : (AI 0 2 x0_shelf)) (h_x0_rowSize : (AI 0 40 x0_rowSize)) (h_x0_tapeSize : (0 ≤ x0_tapeSize ∧ x0_tapeSize ≤ 250)) (h_x0_lines : (0 ≤ x0_lines ∧ x0_lines ≤ 20)) (h_x0_line : (LnM x0_line)) (h_x0_changes : (AI 0 99 x0_changes)) (h_x0_coins : (AI 0 9 x0_coins)) (h_x0_goods : (0 ≤ x0_goods ∧ x0_goods ≤ 8)) (h_x0_good : (GdM x0_good)) (h_x0_works : (0 ≤ x0_works ∧ x0_works ≤ 7)) (h_x0_work : (WkM x0_work)) (h_x0_years : (1 ≤ x0_years ∧ x0_years ≤ 30)) (h_x0_from : (0 ≤ x0_from ∧ x0_from ≤ 250)) (h_x0_far : (AI 0 1000000000 x0_far)) (h_x0_way : (AI 0 22 x0_way)) (h_x0_steps : (0 ≤ x0_steps ∧ x0_steps ≤ 37)) (h_x0_queue : (AI 0 35 x0_queue)) (h_x1_shelf : (AI 0 2 x1_shelf)) (h_x1_rowSize : (AI 0 40 x1_rowSize)) (h_x1_tapeSize : (0 ≤ x1_tapeSize ∧ x1_tapeSize ≤ 250)) (h_x1_lines : (0 ≤ x1_lines ∧ x1_lines ≤ 20)) (h_x1_line : (LnM x1_line)) (h_x1_changes : (AI 0 99 x1_changes)) (h_x1_coins : (AI 0 9 x1_coins)) (h_x1_goods : (0 ≤ x1_goods ∧ x1_goods ≤ 8)) (h_x1_good : (GdM x1_good)) (h_x1_works : (0 ≤ x1_works ∧ x1_works ≤ 7)) (h_x1_work : (WkM x1_work)) (h_x1_years : (1 ≤ x1_years ∧ x1_years ≤ 30)) (h_x1_from : (0 ≤ x1_from ∧ x1_from ≤ 250)) (h_x1_far : (AI 0 1000000000 x1_far)) (h_x1_way : (AI 0 22 x1_way)) (h_x1_steps : (0 ≤ x1_steps ∧ x1_steps ≤ 37)) (h_x1_queue : (AI 0 35 x1_queue)) {c : Int32 → Int32} (hC : ∀ w, OneA (x0_lines, x0_line, x0_changes) x0_coins x0_good x0_goods x0_years w p1 = c w) : Sf (fX7_which n (x0_shelf, x0_rowSort, x0_rowSize, x0_rows, x0_moved, x0_shown, x0_tape, x0_tapeSize, x0_refused, x0_lines, x0_line, x0_changes, x0_coins, x0_goods, x0_good, x0_works, x0_work, x0_years, x0_gone, x0_spent, x0_at, x0_token, x0_from, x0_figures, x0_fault, x0_numbers, x0_statements, x0_left, x0_far, x0_tons, x0_way, x0_steps, x0_met, x0_queue, x0_totals) (x1_shelf, x1_rowSort, x1_rowSize, x1_rows, x1_moved, x1_shown, x1_tape, x1_tapeSize, x1_refused, x1_lines, x1_line, x1_changes, x1_coins, x1_goods, x1_good, x1_works, x1_work, x1_years, x1_gone, x1_spent, x1_at, x1_token, x1_from, x1_figures, x1_fault, x1_numbers, x1_statements, x1_left, x1_far, x1_tons, x1_way, x1_steps, x1_met, x1_queue, x1_totals) p1) (fun r => AP (0 ≤ p1 ∧ p1 ≤ 99) r.1 (r.1 = wh2 c) True) := by
  unfold fX7_which
  dsimp only [u35]
  refine Sf.bind (s_inq p1 0 99 (by decide) (by decide)) (fun v1 h1 => Sf.ite (fun hz => ?_) (fun hz => ?_))
  · refine Sf.bind (sX7_refuse h_x0_shelf h_x0_rowSize h_x0_tapeSize h_x0_lines h_x0_line h_x0_changes h_x0_coins h_x0_goods h_x0_good h_x0_works h_x0_work h_x0_years h_x0_from h_x0_far h_x0_way h_x0_steps h_x0_queue (by decide)) ?_
    rintro ⟨v, g⟩ e
    exact Sf.ok (Or.inr ⟨fun V => gd0 h1 hz V, e, trivial⟩)
  have c1 := gd1 h1 hz
  refine Sf.bind (P := fun r => r.1 = wh2 c) ?_ ?_
  · refine Sf.loop16 (fun z4 z5 z6 z7 z8 z9 z10 z11 z12 z13 z14 z15 z16 z17 z18 z19 => (z5 = 1 ∧ z4 = 0 ∨ z5 = 2 ∧ z4 = wh1 c ∨ z5 = 3 ∧ z4 = wh2 c) ∧ (0 ≤ z4 ∧ z4 ≤ 2) ∧ (0 ≤ z6 ∧ z6 ≤ 20) ∧ LnM z7 ∧ AI 0 99 z8 ∧ AI 0 9 z9 ∧ (0 ≤ z10 ∧ z10 ≤ 8) ∧ GdM z11 ∧ (0 ≤ z12 ∧ z12 ≤ 7) ∧ WkM z13 ∧ (1 ≤ z14 ∧ z14 ≤ 30) ∧ AI 0 1000000000 z18) (fun z4 z5 z6 z7 z8 z9 z10 z11 z12 z13 z14 z15 z16 z17 z18 z19 => muUp z5) (fun z4 z5 z6 z7 z8 z9 z10 z11 z12 z13 z14 z15 z16 z17 z18 z19 h => ?_) ?_ (muUp_n hn)
    · obtain ⟨i0, i4, m1, m2, m3, m4, m5, m6, m7, m8, m9, m10⟩ := h
      unfold fX7_which_s23
      refine Sf.ite (fun hc => Sf.inr ?_) (fun hc => ?_)
      · rcases i0 with ⟨a, _⟩ | ⟨a, _⟩ | ⟨_, b⟩
        · rw [a] at hc; exact absurd hc (by decide)
        · rw [a] at hc; exact absurd hc (by decide)
        · exact b
      have hz2 : 0 ≤ z5 ∧ z5 ≤ 2 := by
        rcases i0 with ⟨a, _⟩ | ⟨a, _⟩ | ⟨a, _⟩
        · rw [a]; decide
        · rw [a]; decide
        · rw [a] at hc; exact absurd (by decide) hc
      refine Sf.bind (Sf.and (sX7_oneWidth hn h_x0_shelf h_x0_rowSize h_x0_tapeSize h_x0_lines h_x0_line h_x0_changes h_x0_coins h_x0_goods h_x0_good h_x0_works h_x0_work h_x0_years h_x0_from h_x0_far h_x0_way h_x0_steps h_x0_queue h_x1_shelf h_x1_rowSize h_x1_tapeSize m1 m2 m3 m4 m5 m6 m7 m8 m9 h_x1_from m10 h_x1_way h_x1_steps h_x1_queue hz2) (oneWR hn h_x0_shelf h_x0_rowSize h_x0_tapeSize h_x0_lines h_x0_line h_x0_changes h_x0_coins h_x0_goods h_x0_good h_x0_works h_x0_work h_x0_years h_x0_from h_x0_far h_x0_way h_x0_steps h_x0_queue h_x1_shelf h_x1_rowSize h_x1_tapeSize m1 m2 m3 m4 m5 m6 m7 m8 m9 h_x1_from m10 h_x1_way h_x1_steps h_x1_queue hz2)) ?_
      rintro ⟨v36, g38, g39, g40, g41, g42, g43, g44, g45, g46, g47, g48, g49, g50, g51⟩ ⟨⟨b1, b2, b3, b4, b5, b6, b7, b8, b9, b10⟩, e36⟩
      have e36 : v36 = c z5 := e36.trans (hC z5)
      try dsimp only [u14]
      refine Sf.bind (Sf.and (sX7_oneWidth hn h_x0_shelf h_x0_rowSize h_x0_tapeSize h_x0_lines h_x0_line h_x0_changes h_x0_coins h_x0_goods h_x0_good h_x0_works h_x0_work h_x0_years h_x0_from h_x0_far h_x0_way h_x0_steps h_x0_queue h_x1_shelf h_x1_rowSize h_x1_tapeSize b1 b2 b3 b4 b5 b6 b7 b8 b9 h_x1_from b10 h_x1_way h_x1_steps h_x1_queue i4) (oneWR hn h_x0_shelf h_x0_rowSize h_x0_tapeSize h_x0_lines h_x0_line h_x0_changes h_x0_coins h_x0_goods h_x0_good h_x0_works h_x0_work h_x0_years h_x0_from h_x0_far h_x0_way h_x0_steps h_x0_queue h_x1_shelf h_x1_rowSize h_x1_tapeSize b1 b2 b3 b4 b5 b6 b7 b8 b9 h_x1_from b10 h_x1_way h_x1_steps h_x1_queue i4)) ?_
      rintro ⟨v53, g55, g56, g57, g58, g59, g60, g61, g62, g63, g64, g65, g66, g67, g68⟩ ⟨⟨d1, d2, d3, d4, d5, d6, d7, d8, d9, d10⟩, e53⟩
      have e53 : v53 = c z4 := e53.trans (hC z4)
      try dsimp only [u14]
      refine Sf.ite (fun hle => ?_) (fun hle => ?_)
      · refine Sf.inl ⟨?_, i4, d1, d2, d3, d4, d5, d6, d7, d8, d9, d10⟩ (muUp_lt hc)
        rw [e53, e36] at hle
        rcases i0 with ⟨a, b⟩ | ⟨a, b⟩ | ⟨a, _⟩
        · refine Or.inr (Or.inl ⟨(by show _ + 1 = _; rw [a]; decide), ?_⟩)
          rw [a, b] at hle
          rw [b]; unfold wh1; rw [if_pos hle]
        · refine Or.inr (Or.inr ⟨(by show _ + 1 = _; rw [a]; decide), ?_⟩)
          rw [a, b] at hle
          rw [b]; unfold wh2; rw [if_pos hle]
        · rw [a] at hc; exact absurd (by decide) hc
      · refine Sf.inl ⟨?_, hz2, d1, d2, d3, d4, d5, d6, d7, d8, d9, d10⟩ (muUp_lt hc)
        rw [e53, e36] at hle
        rcases i0 with ⟨a, b⟩ | ⟨a, b⟩ | ⟨a, _⟩
        · refine Or.inr (Or.inl ⟨(by show _ + 1 = _; rw [a]; decide), ?_⟩)
          rw [a, b] at hle
          rw [a]; unfold wh1; rw [if_neg hle]
        · refine Or.inr (Or.inr ⟨(by show _ + 1 = _; rw [a]; decide), ?_⟩)
          rw [a, b] at hle
          rw [a]; unfold wh2; rw [if_neg hle]
        · rw [a] at hc; exact absurd (by decide) hc
    · exact ⟨Or.inl ⟨rfl, rfl⟩, ⟨(show (0 : Int32) ≤ 0 by decide), (show (0 : Int32) ≤ 2 by decide)⟩, h_x1_lines, h_x1_line, h_x1_changes, h_x1_coins, h_x1_goods, h_x1_good, h_x1_works, h_x1_work, h_x1_years, h_x1_far⟩
  · rintro ⟨w21, w22, w23, w24, w25, w26, w27, w28, w29, w30, w31, w32, w33, w34, w35⟩ h
    exact Sf.ok (Or.inl ⟨c1, h⟩)
theorem dWhich {n : Nat} {x0_refused : (Nat → Int32)} {x0_isKept : Int32} {x0_gone : Int32} {x0_spent : Int32} {x1_gained : Nat → Int32} {x2_lineCount : Int32} {x2_goodsCount : Int32} {x2_workCount : Int32} {x2_years : Int32} {x2_lines : (Nat → Int32)} {x2_goods : (Nat → Int32)} {x2_works : (Nat → Int32)} {x2_change : (Nat → Int32)} {x2_coin : (Nat → Int32)} {x2_knownFree : (Nat → Int32)} {x2_isKnown : Int32} {x3_lineCount : Int32} {x3_goodsCount : Int32} {x3_workCount : Int32} {x3_years : Int32} {x3_lines : (Nat → Int32)} {x3_goods : (Nat → Int32)} {x3_works : (Nat → Int32)} {x3_change : (Nat → Int32)} {x3_coin : (Nat → Int32)} {x3_knownFree : (Nat → Int32)} {x3_isKnown : Int32} {x4_left : (Nat → Int32)} {x4_earned : (Nat → Int32)} {x4_turnCost : Int32} {x4_turnWayless : Int32} {x5_edgeA : (Nat → Int32)} {x5_edgeB : (Nat → Int32)} {x5_edgeCost : (Nat → Int32)} {x5_edgeLine : (Nat → Int32)} {x5_change : (Nat → Int32)} {x5_away : (Nat → Int32)} {x5_steps : (Nat → Int32)} {x5_nodes : (Nat → Int32)} {x5_stepCount : Int32} {x5_open : (Nat → Int32)} {x5_openCount : Int32} {x5_seen : Int64} {x5_edgeCount : Int32} {x5_aim : Int32} {m_shelf : (Nat → Int32)} {m_rowSort : (Nat → Int32)} {m_rowSize : (Nat → Int32)} {m_rows : (Nat → Nat → Int64)} {m_moved : (Nat → Int64)} {m_shown : (Nat → Int32)} {m_tape : (Nat → Int32)} {m_tapeSize : Int32} {m_refused : (Nat → Int32)} {m_lines : Int32} {m_line : (Nat → Nat → Int32)} {m_changes : (Nat → Int32)} {m_coins : (Nat → Int32)} {m_goods : Int32} {m_good : (Nat → Nat → Int32)} {m_works : Int32} {m_work : (Nat → Nat → Int32)} {m_years : Int32} {m_gone : Int32} {m_spent : Int32} {m_at : Int32} {m_token : Int32} {m_from : Int32} {m_figures : Int64} {m_fault : Int32} {m_numbers : (Nat → Int32)} {m_statements : Int32} {m_left : (Nat → Int32)} {m_far : (Nat → Int32)} {m_tons : Int32} {m_way : (Nat → Int32)} {m_steps : Int32} {m_met : Int64} {m_queue : (Nat → Int32)} {m_totals : (Nat → Int32)} {t_shelf : (Nat → Int32)} {t_rowSort : (Nat → Int32)} {t_rowSize : (Nat → Int32)} {t_rows : (Nat → Nat → Int64)} {t_moved : (Nat → Int64)} {t_shown : (Nat → Int32)} {t_tape : (Nat → Int32)} {t_tapeSize : Int32} {t_refused : (Nat → Int32)} {t_lines : Int32} {t_line : (Nat → Nat → Int32)} {t_changes : (Nat → Int32)} {t_coins : (Nat → Int32)} {t_goods : Int32} {t_good : (Nat → Nat → Int32)} {t_works : Int32} {t_work : (Nat → Nat → Int32)} {t_years : Int32} {t_gone : Int32} {t_spent : Int32} {t_at : Int32} {t_token : Int32} {t_from : Int32} {t_figures : Int64} {t_fault : Int32} {t_numbers : (Nat → Int32)} {t_statements : Int32} {t_left : (Nat → Int32)} {t_far : (Nat → Int32)} {t_tons : Int32} {t_way : (Nat → Int32)} {t_steps : Int32} {t_met : Int64} {t_queue : (Nat → Int32)} {t_totals : (Nat → Int32)} {p1 er fr : Int32} {A6 : (Nat → Int32) × (Int32 × Int32 × Int32 × Int32 × (Nat → Int32) × (Nat → Int32) × (Nat → Int32) × (Nat → Int32) × (Nat → Int32) × Int32) × ((Nat → Int32) × (Nat → Int32) × (Nat → Int32) × (Nat → Int32) × (Nat → Int32) × (Nat → Int32) × Int32 × Int32)} {B6 : (Nat → Int32) × (Int32 × (Nat → Nat → Int32) × (Nat → Int32) × (Nat → Int32) × Int32 × (Nat → Nat → Int32) × Int32 × (Nat → Nat → Int32) × Int32 × Int32 × Int32 × (Nat → Int32) × (Nat → Int32) × Int32)} (hn : 1000000000000 ≤ n) (h_x2_lineCount : (0 ≤ x2_lineCount ∧ x2_lineCount ≤ 20)) (h_x2_goodsCount : (0 ≤ x2_goodsCount ∧ x2_goodsCount ≤ 8)) (h_x2_workCount : (0 ≤ x2_workCount ∧ x2_workCount ≤ 7)) (h_x2_years : (1 ≤ x2_years ∧ x2_years ≤ 30)) (h_x2_lines : (LnOk x2_lines)) (h_x2_goods : (GdOk x2_goods)) (h_x2_works : (WkOk x2_works)) (h_x2_change : (AI 0 99 x2_change)) (h_x2_coin : (AI 0 9 x2_coin)) (h_x3_lineCount : (0 ≤ x3_lineCount ∧ x3_lineCount ≤ 20)) (h_x3_goodsCount : (0 ≤ x3_goodsCount ∧ x3_goodsCount ≤ 8)) (h_x3_workCount : (0 ≤ x3_workCount ∧ x3_workCount ≤ 7)) (h_x3_years : (1 ≤ x3_years ∧ x3_years ≤ 30)) (h_x3_lines : (LnOk x3_lines)) (h_x3_goods : (GdOk x3_goods)) (h_x3_works : (WkOk x3_works)) (h_x3_change : (AI 0 99 x3_change)) (h_x3_coin : (AI 0 9 x3_coin)) (h_x5_edgeA : (AI 0 35 x5_edgeA)) (h_x5_edgeB : (AI 0 35 x5_edgeB)) (h_x5_edgeLine : (AI 0 19 x5_edgeLine)) (h_x5_steps : (AI 0 22 x5_steps)) (h_x5_nodes : (AI 0 35 x5_nodes)) (h_x5_stepCount : (0 ≤ x5_stepCount ∧ x5_stepCount ≤ 36)) (h_x5_open : (AI 0 35 x5_open)) (h_x5_openCount : (0 ≤ x5_openCount ∧ x5_openCount ≤ 36)) (h_x5_edgeCount : (0 ≤ x5_edgeCount ∧ x5_edgeCount ≤ 60)) (h_m_shelf : (AI 0 2 m_shelf)) (h_m_rowSize : (AI 0 40 m_rowSize)) (h_m_tapeSize : (0 ≤ m_tapeSize ∧ m_tapeSize ≤ 250)) (h_m_lines : (0 ≤ m_lines ∧ m_lines ≤ 20)) (h_m_line : (LnM m_line)) (h_m_changes : (AI 0 99 m_changes)) (h_m_coins : (AI 0 9 m_coins)) (h_m_goods : (0 ≤ m_goods ∧ m_goods ≤ 8)) (h_m_good : (GdM m_good)) (h_m_works : (0 ≤ m_works ∧ m_works ≤ 7)) (h_m_work : (WkM m_work)) (h_m_years : (1 ≤ m_years ∧ m_years ≤ 30)) (h_m_from : (0 ≤ m_from ∧ m_from ≤ 250)) (h_m_far : (AI 0 1000000000 m_far)) (h_m_way : (AI 0 22 m_way)) (h_m_steps : (0 ≤ m_steps ∧ m_steps ≤ 37)) (h_m_queue : (AI 0 35 m_queue)) (h_t_shelf : (AI 0 2 t_shelf)) (h_t_rowSize : (AI 0 40 t_rowSize)) (h_t_tapeSize : (0 ≤ t_tapeSize ∧ t_tapeSize ≤ 250)) (h_t_lines : (0 ≤ t_lines ∧ t_lines ≤ 20)) (h_t_line : (LnM t_line)) (h_t_changes : (AI 0 99 t_changes)) (h_t_coins : (AI 0 9 t_coins)) (h_t_goods : (0 ≤ t_goods ∧ t_goods ≤ 8)) (h_t_good : (GdM t_good)) (h_t_works : (0 ≤ t_works ∧ t_works ≤ 7)) (h_t_work : (WkM t_work)) (h_t_years : (1 ≤ t_years ∧ t_years ≤ 30)) (h_t_from : (0 ≤ t_from ∧ t_from ≤ 250)) (h_t_far : (AI 0 1000000000 t_far)) (h_t_way : (AI 0 22 t_way)) (h_t_steps : (0 ≤ t_steps ∧ t_steps ≤ 37)) (h_t_queue : (AI 0 35 t_queue)) (hA : (LaD x3_lineCount x3_goodsCount x3_workCount x3_years x3_lines x3_goods x3_works x3_change x3_coin m_lines m_line m_changes m_coins m_goods m_good m_works m_work m_years)) (eqA : fX6_which n (x0_refused, x0_isKept, x0_gone, x0_spent) x1_gained (x2_lineCount, x2_goodsCount, x2_workCount, x2_years, x2_lines, x2_goods, x2_works, x2_change, x2_coin, x2_knownFree, x2_isKnown) (x3_lineCount, x3_goodsCount, x3_workCount, x3_years, x3_lines, x3_goods, x3_works, x3_change, x3_coin, x3_knownFree, x3_isKnown) (x4_left, x4_earned, x4_turnCost, x4_turnWayless) (x5_edgeA, x5_edgeB, x5_edgeCost, x5_edgeLine, x5_change, x5_away, x5_steps, x5_nodes, x5_stepCount, x5_open, x5_openCount, x5_seen, x5_edgeCount, x5_aim) p1 = some (er, A6)) (eqB : fX7_which n (m_shelf, m_rowSort, m_rowSize, m_rows, m_moved, m_shown, m_tape, m_tapeSize, m_refused, m_lines, m_line, m_changes, m_coins, m_goods, m_good, m_works, m_work, m_years, m_gone, m_spent, m_at, m_token, m_from, m_figures, m_fault, m_numbers, m_statements, m_left, m_far, m_tons, m_way, m_steps, m_met, m_queue, m_totals) (t_shelf, t_rowSort, t_rowSize, t_rows, t_moved, t_shown, t_tape, t_tapeSize, t_refused, t_lines, t_line, t_changes, t_coins, t_goods, t_good, t_works, t_work, t_years, t_gone, t_spent, t_at, t_token, t_from, t_figures, t_fault, t_numbers, t_statements, t_left, t_far, t_tons, t_way, t_steps, t_met, t_queue, t_totals) p1 = some (fr, B6)) : er = fr := by
  have a := (whichC hn h_x2_lineCount h_x2_goodsCount h_x2_workCount h_x2_years h_x2_lines h_x2_goods h_x2_works h_x2_change h_x2_coin h_x3_lineCount h_x3_goodsCount h_x3_workCount h_x3_years h_x3_lines h_x3_goods h_x3_works h_x3_change h_x3_coin h_x5_edgeA h_x5_edgeB h_x5_edgeLine h_x5_steps h_x5_nodes h_x5_stepCount h_x5_open h_x5_openCount h_x5_edgeCount (c := fun w => OneA (x3_lineCount, ro 7 x3_lines, x3_change) x3_coin (ro 3 x3_goods) x3_goodsCount x3_years w p1) (fun _ => rfl)).at eqA
  obtain ⟨⟨z1, z2, z3, z4⟩, z5, z6, z7, z8, z9, z10⟩ := id hA
  have hS := hA.s
  subst z1 z2 z3 z4
  have b := (whichR hn h_m_shelf h_m_rowSize h_m_tapeSize h_x3_lineCount h_m_line h_m_changes h_m_coins h_x3_goodsCount h_m_good h_x3_workCount h_m_work h_x3_years h_m_from h_m_far h_m_way h_m_steps h_m_queue h_t_shelf h_t_rowSize h_t_tapeSize h_t_lines h_t_line h_t_changes h_t_coins h_t_goods h_t_good h_t_works h_t_work h_t_years h_t_from h_t_far h_t_way h_t_steps h_t_queue (c := fun w => OneA (x3_lineCount, ro 7 x3_lines, x3_change) x3_coin (ro 3 x3_goods) x3_goodsCount x3_years w p1) (fun w => (OneA_congr hS.1 z9 z6).symm)).at eqB
  rcases AP_eq a b with ⟨a1, b1⟩ | ⟨e, _, _⟩
  · exact a1.trans b1.symm
  · exact e
end

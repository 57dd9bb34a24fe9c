section
/-! what lineOf, goodsOf, workOf, free, first, worth answer -/
theorem hasGoodsS {x0_lineCount : Int32} {x0_goodsCount : Int32} {x0_workCount : Int32} {x0_years : Int32} {x0_lines : (Nat → Int32)} {x0_goods : (Nat → Int32)} {x0_works : (Nat → Int32)} {x0_change : (Nat → Int32)} {x0_coin : (Nat → Int32)} {x0_knownFree : (Nat → Int32)} {x0_isKnown : Int32} {p1 : Int32} : Sf (fX1_hasGoods (x0_lineCount, x0_goodsCount, x0_workCount, x0_years, x0_lines, x0_goods, x0_works, x0_change, x0_coin, x0_knownFree, x0_isKnown) p1) (fun r => (r = 1 ∧ 0 ≤ p1 ∧ p1 ≤ x0_goodsCount - 1) ∨ (r = 0 ∧ (p1 < 0 ∨ x0_goodsCount - 1 < p1))) := by
  unfold fX1_hasGoods
  dsimp only [u11]
  refine Sf.bind sX6_within (fun v h => ?_)
  exact Sf.zbb (by rcases h with h | h; exact Or.inr h.1; exact Or.inl h.1) (fun r e => Sf.ok (by rw [e]; exact h))
theorem LineOfC {x0_refused : (Nat → Int32)} {x0_isKept : Int32} {x0_gone : Int32} {x0_spent : Int32} {x1_lineCount : Int32} {x1_goodsCount : Int32} {x1_workCount : Int32} {x1_years : Int32} {x1_lines : (Nat → Int32)} {x1_goods : (Nat → Int32)} {x1_works : (Nat → Int32)} {x1_change : (Nat → Int32)} {x1_coin : (Nat → Int32)} {x1_knownFree : (Nat → Int32)} {x1_isKnown : Int32} {p1 p2 : Int32} (h_x1_lineCount : (0 ≤ x1_lineCount ∧ x1_lineCount ≤ 20)) (h_x1_goodsCount : (0 ≤ x1_goodsCount ∧ x1_goodsCount ≤ 8)) (h_x1_workCount : (0 ≤ x1_workCount ∧ x1_workCount ≤ 7)) (h_x1_years : (1 ≤ x1_years ∧ x1_years ≤ 30)) (h_x1_lines : (LnOk x1_lines)) (h_x1_goods : (GdOk x1_goods)) (h_x1_works : (WkOk x1_works)) (h_x1_change : (AI 0 99 x1_change)) (h_x1_coin : (AI 0 9 x1_coin)) : Sf (fX6_lineOf (x0_refused, x0_isKept, x0_gone, x0_spent) (x1_lineCount, x1_goodsCount, x1_workCount, x1_years, x1_lines, x1_goods, x1_works, x1_change, x1_coin, x1_knownFree, x1_isKnown) p1 p2) (fun r => AP ((0 ≤ p1 ∧ p1 < x1_lineCount) ∧ (0 ≤ p2 ∧ p2 ≤ 6)) r.1 (((0 ≤ p1 ∧ p1 < x1_lineCount) ∧ (0 ≤ p2 ∧ p2 ≤ 6)) ∧ r.1 = ro 7 x1_lines p1.toNatClampNeg p2.toNatClampNeg) True) := by
  unfold fX6_lineOf
  dsimp only [u4, u11]
  have no : ¬ ((0 ≤ p1 ∧ p1 < x1_lineCount) ∧ (0 ≤ p2 ∧ p2 ≤ 6)) → Sf ((fX6_refuse (x0_refused, x0_isKept, x0_gone, x0_spent) (-2)).bind (u2 fun v g => some (v, g))) (fun r => AP ((0 ≤ p1 ∧ p1 < x1_lineCount) ∧ (0 ≤ p2 ∧ p2 ≤ 6)) r.1 (((0 ≤ p1 ∧ p1 < x1_lineCount) ∧ (0 ≤ p2 ∧ p2 ≤ 6)) ∧ r.1 = ro 7 x1_lines p1.toNatClampNeg p2.toNatClampNeg) True) := by
    intro hV
    refine Sf.bind refC ?_
    rintro ⟨v, g⟩ e
    exact Sf.ok (Or.inr ⟨hV, e, trivial⟩)
  refine Sf.bind hasLineS (fun v1 h1 => Sf.ite (fun hz => no (fun V => gd0 h1 hz ⟨V.1.1, by have h := V.1; have q := h_x1_lineCount; clear V no h1; grind⟩)) (fun hz => ?_))
  have c0 := gd1 h1 hz
  have c1 : 0 ≤ p1 ∧ p1 < x1_lineCount := ⟨c0.1, by have q := h_x1_lineCount; clear no h1; grind⟩
  refine Sf.bind sX6_within (fun v6 h6 => Sf.ite (fun hz => no (fun V => gd0 h6 hz V.2)) (fun hz => ?_))
  have c2 := gd1 h6 hz
  refine Sf.bind (ofLineV ⟨c1.1, Int32.lt_of_lt_of_le c1.2 h_x1_lineCount.2⟩ ⟨c2.1, Int32.lt_of_le_of_lt c2.2 (by decide)⟩) (fun v8 e8 => ?_)
  have hq : p2.toNatClampNeg < 7 := i32_lt (M := 7) (N := 7) rfl ⟨c2.1, Int32.lt_of_le_of_lt c2.2 (by decide)⟩
  have e8 : v8 = ro 7 x1_lines p1.toNatClampNeg p2.toNatClampNeg := by rw [e8, ro_eq hq]
  exact Sf.ok (Or.inl ⟨⟨c1, c2⟩, ⟨c1, c2⟩, e8⟩)
theorem LineOfR {x0_shelf : (Nat → Int32)} {x0_rowSort : (Nat → Int32)} {x0_rowSize : (Nat → Int32)} {x0_rows : (Nat → Nat → Int64)} {x0_moved : (Nat → Int64)} {x0_shown : (Nat → Int32)} {x0_tape : (Nat → Int32)} {x0_tapeSize : Int32} {x0_refused : (Nat → Int32)} {x0_lines : Int32} {x0_line : (Nat → Nat → Int32)} {x0_changes : (Nat → Int32)} {x0_coins : (Nat → Int32)} {x0_goods : Int32} {x0_good : (Nat → Nat → Int32)} {x0_works : Int32} {x0_work : (Nat → Nat → Int32)} {x0_years : Int32} {x0_gone : Int32} {x0_spent : Int32} {x0_at : Int32} {x0_token : Int32} {x0_from : Int32} {x0_figures : Int64} {x0_fault : Int32} {x0_numbers : (Nat → Int32)} {x0_statements : Int32} {x0_left : (Nat → Int32)} {x0_far : (Nat → Int32)} {x0_tons : Int32} {x0_way : (Nat → Int32)} {x0_steps : Int32} {x0_met : Int64} {x0_queue : (Nat → Int32)} {x0_totals : (Nat → Int32)} {p1 p2 : Int32} (h_x0_shelf : (AI 0 2 x0_shelf)) (h_x0_rowSize : (AI 0 40 x0_rowSize)) (h_x0_tapeSize : (0 ≤ x0_tapeSize ∧ x0_tapeSize ≤ 250)) (h_x0_lines : (0 ≤ x0_lines ∧ x0_lines ≤ 20)) (h_x0_line : (LnM x0_line)) (h_x0_changes : (AI 0 99 x0_changes)) (h_x0_coins : (AI 0 9 x0_coins)) (h_x0_goods : (0 ≤ x0_goods ∧ x0_goods ≤ 8)) (h_x0_good : (GdM x0_good)) (h_x0_works : (0 ≤ x0_works ∧ x0_works ≤ 7)) (h_x0_work : (WkM x0_work)) (h_x0_years : (1 ≤ x0_years ∧ x0_years ≤ 30)) (h_x0_from : (0 ≤ x0_from ∧ x0_from ≤ 250)) (h_x0_far : (AI 0 1000000000 x0_far)) (h_x0_way : (AI 0 22 x0_way)) (h_x0_steps : (0 ≤ x0_steps ∧ x0_steps ≤ 37)) (h_x0_queue : (AI 0 35 x0_queue)) : Sf (fX7_lineOf (x0_shelf, x0_rowSort, x0_rowSize, x0_rows, x0_moved, x0_shown, x0_tape, x0_tapeSize, x0_refused, x0_lines, x0_line, x0_changes, x0_coins, x0_goods, x0_good, x0_works, x0_work, x0_years, x0_gone, x0_spent, x0_at, x0_token, x0_from, x0_figures, x0_fault, x0_numbers, x0_statements, x0_left, x0_far, x0_tons, x0_way, x0_steps, x0_met, x0_queue, x0_totals) p1 p2) (fun r => AP ((0 ≤ p1 ∧ p1 < x0_lines) ∧ (0 ≤ p2 ∧ p2 ≤ 6)) r.1 (r.1 = x0_line p1.toNatClampNeg p2.toNatClampNeg) True) := by
  unfold fX7_lineOf
  dsimp only [u35]
  have no : ¬ ((0 ≤ p1 ∧ p1 < x0_lines) ∧ (0 ≤ p2 ∧ p2 ≤ 6)) → Sf ((fX7_refuse (x0_shelf, x0_rowSort, x0_rowSize, x0_rows, x0_moved, x0_shown, x0_tape, x0_tapeSize, x0_refused, x0_lines, x0_line, x0_changes, x0_coins, x0_goods, x0_good, x0_works, x0_work, x0_years, x0_gone, x0_spent, x0_at, x0_token, x0_from, x0_figures, x0_fault, x0_numbers, x0_statements, x0_left, x0_far, x0_tons, x0_way, x0_steps, x0_met, x0_queue, x0_totals) (-2)).bind (u2 fun v g => some (v, g))) (fun r => AP ((0 ≤ p1 ∧ p1 < x0_lines) ∧ (0 ≤ p2 ∧ p2 ≤ 6)) r.1 (r.1 = x0_line p1.toNatClampNeg p2.toNatClampNeg) True) := by
    intro hV
    refine Sf.bind (sX7_refuse h_x0_shelf h_x0_rowSize h_x0_tapeSize h_x0_lines h_x0_line h_x0_changes h_x0_coins h_x0_goods h_x0_good h_x0_works h_x0_work h_x0_years h_x0_from h_x0_far h_x0_way h_x0_steps h_x0_queue (by decide)) ?_
    rintro ⟨v, g⟩ e
    exact Sf.ok (Or.inr ⟨hV, e, trivial⟩)
  have isl : Sf (fX7_isLine (x0_shelf, x0_rowSort, x0_rowSize, x0_rows, x0_moved, x0_shown, x0_tape, x0_tapeSize, x0_refused, x0_lines, x0_line, x0_changes, x0_coins, x0_goods, x0_good, x0_works, x0_work, x0_years, x0_gone, x0_spent, x0_at, x0_token, x0_from, x0_figures, x0_fault, x0_numbers, x0_statements, x0_left, x0_far, x0_tons, x0_way, x0_steps, x0_met, x0_queue, x0_totals) p1) (fun r => (r = 1 ∧ 0 ≤ p1 ∧ p1 < x0_lines) ∨ (r = 0 ∧ ¬ (0 ≤ p1 ∧ p1 < x0_lines))) := sX7_isLine h_x0_shelf h_x0_rowSize h_x0_tapeSize h_x0_lines h_x0_line h_x0_changes h_x0_coins h_x0_goods h_x0_good h_x0_works h_x0_work h_x0_years h_x0_from h_x0_far h_x0_way h_x0_steps h_x0_queue
  refine Sf.bind isl (fun v1 h1 => Sf.ite (fun hz => no (fun V => ?_)) (fun hz => ?_))
  · rcases h1 with h1 | h1
    · rw [h1.1] at hz; exact absurd hz (by decide)
    · exact h1.2 V.1
  have c1 : 0 ≤ p1 ∧ p1 < x0_lines := by
    rcases h1 with h1 | h1
    · exact h1.2
    · exact absurd h1.1 hz
  refine Sf.bind (s_inq p2 0 6 (by decide) (by decide)) (fun v6 h6 => Sf.ite (fun hz => no (fun V => gd0 h6 hz V.2)) (fun hz => ?_))
  have c2 := gd1 h6 hz
  refine Sf.ckb 20 rfl ⟨c1.1, Int32.lt_of_lt_of_le c1.2 h_x0_lines.2⟩ (fun q11 e11 _ => ?_)
  refine Sf.rdb 7 rfl ⟨c2.1, Int32.lt_of_le_of_lt c2.2 (by decide)⟩ (fun v12 e12 => ?_)
  refine Sf.ok (Or.inl ⟨⟨c1, c2⟩, ?_⟩)
  show v12 = _
  rw [e12, e11]
theorem dLineOf {x0_refused : (Nat → Int32)} {x0_isKept : Int32} {x0_gone : Int32} {x0_spent : Int32} {x1_lineCount : Int32} {x1_goodsCount : Int32} {x1_workCount : Int32} {x1_years : Int32} {x1_lines : (Nat → Int32)} {x1_goods : (Nat → Int32)} {x1_works : (Nat → Int32)} {x1_change : (Nat → Int32)} {x1_coin : (Nat → Int32)} {x1_knownFree : (Nat → Int32)} {x1_isKnown : Int32} {m_shelf : (Nat → Int32)} {m_rowSort : (Nat → Int32)} {m_rowSize : (Nat → Int32)} {m_rows : (Nat → Nat → Int64)} {m_moved : (Nat → Int64)} {m_shown : (Nat → Int32)} {m_tape : (Nat → Int32)} {m_tapeSize : Int32} {m_refused : (Nat → Int32)} {m_lines : Int32} {m_line : (Nat → Nat → Int32)} {m_changes : (Nat → Int32)} {m_coins : (Nat → Int32)} {m_goods : Int32} {m_good : (Nat → Nat → Int32)} {m_works : Int32} {m_work : (Nat → Nat → Int32)} {m_years : Int32} {m_gone : Int32} {m_spent : Int32} {m_at : Int32} {m_token : Int32} {m_from : Int32} {m_figures : Int64} {m_fault : Int32} {m_numbers : (Nat → Int32)} {m_statements : Int32} {m_left : (Nat → Int32)} {m_far : (Nat → Int32)} {m_tons : Int32} {m_way : (Nat → Int32)} {m_steps : Int32} {m_met : Int64} {m_queue : (Nat → Int32)} {m_totals : (Nat → Int32)} {p1 p2 er fr : Int32} {e0 f0 : Nat → Int32} (h_x1_lineCount : (0 ≤ x1_lineCount ∧ x1_lineCount ≤ 20)) (h_x1_goodsCount : (0 ≤ x1_goodsCount ∧ x1_goodsCount ≤ 8)) (h_x1_workCount : (0 ≤ x1_workCount ∧ x1_workCount ≤ 7)) (h_x1_years : (1 ≤ x1_years ∧ x1_years ≤ 30)) (h_x1_lines : (LnOk x1_lines)) (h_x1_goods : (GdOk x1_goods)) (h_x1_works : (WkOk x1_works)) (h_x1_change : (AI 0 99 x1_change)) (h_x1_coin : (AI 0 9 x1_coin)) (h_m_shelf : (AI 0 2 m_shelf)) (h_m_rowSize : (AI 0 40 m_rowSize)) (h_m_tapeSize : (0 ≤ m_tapeSize ∧ m_tapeSize ≤ 250)) (h_m_lines : (0 ≤ m_lines ∧ m_lines ≤ 20)) (h_m_line : (LnM m_line)) (h_m_changes : (AI 0 99 m_changes)) (h_m_coins : (AI 0 9 m_coins)) (h_m_goods : (0 ≤ m_goods ∧ m_goods ≤ 8)) (h_m_good : (GdM m_good)) (h_m_works : (0 ≤ m_works ∧ m_works ≤ 7)) (h_m_work : (WkM m_work)) (h_m_years : (1 ≤ m_years ∧ m_years ≤ 30)) (h_m_from : (0 ≤ m_from ∧ m_from ≤ 250)) (h_m_far : (AI 0 1000000000 m_far)) (h_m_way : (AI 0 22 m_way)) (h_m_steps : (0 ≤ m_steps ∧ m_steps ≤ 37)) (h_m_queue : (AI 0 35 m_queue)) (hA : (LaD x1_lineCount x1_goodsCount x1_workCount x1_years x1_lines x1_goods x1_works x1_change x1_coin m_lines m_line m_changes m_coins m_goods m_good m_works m_work m_years)) (eqA : fX6_lineOf (x0_refused, x0_isKept, x0_gone, x0_spent) (x1_lineCount, x1_goodsCount, x1_workCount, x1_years, x1_lines, x1_goods, x1_works, x1_change, x1_coin, x1_knownFree, x1_isKnown) p1 p2 = some (er, e0)) (eqB : fX7_lineOf (m_shelf, m_rowSort, m_rowSize, m_rows, m_moved, m_shown, m_tape, m_tapeSize, m_refused, m_lines, m_line, m_changes, m_coins, m_goods, m_good, m_works, m_work, m_years, m_gone, m_spent, m_at, m_token, m_from, m_figures, m_fault, m_numbers, m_statements, m_left, m_far, m_tons, m_way, m_steps, m_met, m_queue, m_totals) p1 p2 = some (fr, f0)) : er = fr := by
  have a := (LineOfC h_x1_lineCount h_x1_goodsCount h_x1_workCount h_x1_years h_x1_lines h_x1_goods h_x1_works h_x1_change h_x1_coin).at eqA
  have b := (LineOfR h_m_shelf h_m_rowSize h_m_tapeSize h_m_lines h_m_line h_m_changes h_m_coins h_m_goods h_m_good h_m_works h_m_work h_m_years h_m_from h_m_far h_m_way h_m_steps h_m_queue).at eqB
  have ec : x1_lineCount = m_lines := hA.1.1
  rw [← ec] at b
  rcases AP_eq a b with ⟨⟨⟨c1, c2⟩, a1⟩, b1⟩ | ⟨e, _⟩
  · have hp : p1.toNatClampNeg < x1_lineCount.toNatClampNeg := by
      have x := i32_cl c1.1
      have y := i32_cl h_x1_lineCount.1
      have z := Int32.lt_iff_toInt_lt.mp c1.2
      omega
    have hq : p2.toNatClampNeg < 7 := i32_lt (M := 7) (N := 7) rfl ⟨c2.1, Int32.lt_of_le_of_lt c2.2 (by decide)⟩
    exact (a1.trans (hA.2.1 _ hp _ hq)).trans b1.symm
  · exact e
theorem GoodsOfC {x0_refused : (Nat → Int32)} {x0_isKept : Int32} {x0_gone : Int32} {x0_spent : Int32} {x1_lineCount : Int32} {x1_goodsCount : Int32} {x1_workCount : Int32} {x1_years : Int32} {x1_lines : (Nat → Int32)} {x1_goods : (Nat → Int32)} {x1_works : (Nat → Int32)} {x1_change : (Nat → Int32)} {x1_coin : (Nat → Int32)} {x1_knownFree : (Nat → Int32)} {x1_isKnown : Int32} {p1 p2 : Int32} (h_x1_lineCount : (0 ≤ x1_lineCount ∧ x1_lineCount ≤ 20)) (h_x1_goodsCount : (0 ≤ x1_goodsCount ∧ x1_goodsCount ≤ 8)) (h_x1_workCount : (0 ≤ x1_workCount ∧ x1_workCount ≤ 7)) (h_x1_years : (1 ≤ x1_years ∧ x1_years ≤ 30)) (h_x1_lines : (LnOk x1_lines)) (h_x1_goods : (GdOk x1_goods)) (h_x1_works : (WkOk x1_works)) (h_x1_change : (AI 0 99 x1_change)) (h_x1_coin : (AI 0 9 x1_coin)) : Sf (fX6_goodsOf (x0_refused, x0_isKept, x0_gone, x0_spent) (x1_lineCount, x1_goodsCount, x1_workCount, x1_years, x1_lines, x1_goods, x1_works, x1_change, x1_coin, x1_knownFree, x1_isKnown) p1 p2) (fun r => AP ((0 ≤ p1 ∧ p1 < x1_goodsCount) ∧ (0 ≤ p2 ∧ p2 ≤ 2)) r.1 (((0 ≤ p1 ∧ p1 < x1_goodsCount) ∧ (0 ≤ p2 ∧ p2 ≤ 2)) ∧ r.1 = ro 3 x1_goods p1.toNatClampNeg p2.toNatClampNeg) True) := by
  unfold fX6_goodsOf
  dsimp only [u4, u11]
  have no : ¬ ((0 ≤ p1 ∧ p1 < x1_goodsCount) ∧ (0 ≤ p2 ∧ p2 ≤ 2)) → Sf ((fX6_refuse (x0_refused, x0_isKept, x0_gone, x0_spent) (-2)).bind (u2 fun v g => some (v, g))) (fun r => AP ((0 ≤ p1 ∧ p1 < x1_goodsCount) ∧ (0 ≤ p2 ∧ p2 ≤ 2)) r.1 (((0 ≤ p1 ∧ p1 < x1_goodsCount) ∧ (0 ≤ p2 ∧ p2 ≤ 2)) ∧ r.1 = ro 3 x1_goods p1.toNatClampNeg p2.toNatClampNeg) True) := by
    intro hV
    refine Sf.bind refC ?_
    rintro ⟨v, g⟩ e
    exact Sf.ok (Or.inr ⟨hV, e, trivial⟩)
  refine Sf.bind hasGoodsS (fun v1 h1 => Sf.ite (fun hz => no (fun V => gd0 h1 hz ⟨V.1.1, by have h := V.1; have q := h_x1_goodsCount; clear V no h1; grind⟩)) (fun hz => ?_))
  have c0 := gd1 h1 hz
  have c1 : 0 ≤ p1 ∧ p1 < x1_goodsCount := ⟨c0.1, by have q := h_x1_goodsCount; clear no h1; grind⟩
  refine Sf.bind sX6_within (fun v6 h6 => Sf.ite (fun hz => no (fun V => gd0 h6 hz V.2)) (fun hz => ?_))
  have c2 := gd1 h6 hz
  refine Sf.bind (ofGoodsV ⟨c1.1, Int32.lt_of_lt_of_le c1.2 h_x1_goodsCount.2⟩ ⟨c2.1, Int32.lt_of_le_of_lt c2.2 (by decide)⟩) (fun v8 e8 => ?_)
  have hq : p2.toNatClampNeg < 3 := i32_lt (M := 3) (N := 3) rfl ⟨c2.1, Int32.lt_of_le_of_lt c2.2 (by decide)⟩
  have e8 : v8 = ro 3 x1_goods p1.toNatClampNeg p2.toNatClampNeg := by rw [e8, ro_eq hq]
  exact Sf.ok (Or.inl ⟨⟨c1, c2⟩, ⟨c1, c2⟩, e8⟩)
theorem GoodsOfR {x0_shelf : (Nat → Int32)} {x0_rowSort : (Nat → Int32)} {x0_rowSize : (Nat → Int32)} {x0_rows : (Nat → Nat → Int64)} {x0_moved : (Nat → Int64)} {x0_shown : (Nat → Int32)} {x0_tape : (Nat → Int32)} {x0_tapeSize : Int32} {x0_refused : (Nat → Int32)} {x0_lines : Int32} {x0_line : (Nat → Nat → Int32)} {x0_changes : (Nat → Int32)} {x0_coins : (Nat → Int32)} {x0_goods : Int32} {x0_good : (Nat → Nat → Int32)} {x0_works : Int32} {x0_work : (Nat → Nat → Int32)} {x0_years : Int32} {x0_gone : Int32} {x0_spent : Int32} {x0_at : Int32} {x0_token : Int32} {x0_from : Int32} {x0_figures : Int64} {x0_fault : Int32} {x0_numbers : (Nat → Int32)} {x0_statements : Int32} {x0_left : (Nat → Int32)} {x0_far : (Nat → Int32)} {x0_tons : Int32} {x0_way : (Nat → Int32)} {x0_steps : Int32} {x0_met : Int64} {x0_queue : (Nat → Int32)} {x0_totals : (Nat → Int32)} {p1 p2 : Int32} (h_x0_shelf : (AI 0 2 x0_shelf)) (h_x0_rowSize : (AI 0 40 x0_rowSize)) (h_x0_tapeSize : (0 ≤ x0_tapeSize ∧ x0_tapeSize ≤ 250)) (h_x0_lines : (0 ≤ x0_lines ∧ x0_lines ≤ 20)) (h_x0_line : (LnM x0_line)) (h_x0_changes : (AI 0 99 x0_changes)) (h_x0_coins : (AI 0 9 x0_coins)) (h_x0_goods : (0 ≤ x0_goods ∧ x0_goods ≤ 8)) (h_x0_good : (GdM x0_good)) (h_x0_works : (0 ≤ x0_works ∧ x0_works ≤ 7)) (h_x0_work : (WkM x0_work)) (h_x0_years : (1 ≤ x0_years ∧ x0_years ≤ 30)) (h_x0_from : (0 ≤ x0_from ∧ x0_from ≤ 250)) (h_x0_far : (AI 0 1000000000 x0_far)) (h_x0_way : (AI 0 22 x0_way)) (h_x0_steps : (0 ≤ x0_steps ∧ x0_steps ≤ 37)) (h_x0_queue : (AI 0 35 x0_queue)) : Sf (fX7_goodsOf (x0_shelf, x0_rowSort, x0_rowSize, x0_rows, x0_moved, x0_shown, x0_tape, x0_tapeSize, x0_refused, x0_lines, x0_line, x0_changes, x0_coins, x0_goods, x0_good, x0_works, x0_work, x0_years, x0_gone, x0_spent, x0_at, x0_token, x0_from, x0_figures, x0_fault, x0_numbers, x0_statements, x0_left, x0_far, x0_tons, x0_way, x0_steps, x0_met, x0_queue, x0_totals) p1 p2) (fun r => AP ((0 ≤ p1 ∧ p1 < x0_goods) ∧ (0 ≤ p2 ∧ p2 ≤ 2)) r.1 (r.1 = x0_good p1.toNatClampNeg p2.toNatClampNeg) True) := by
  unfold fX7_goodsOf
  dsimp only [u35]
  have no : ¬ ((0 ≤ p1 ∧ p1 < x0_goods) ∧ (0 ≤ p2 ∧ p2 ≤ 2)) → Sf ((fX7_refuse (x0_shelf, x0_rowSort, x0_rowSize, x0_rows, x0_moved, x0_shown, x0_tape, x0_tapeSize, x0_refused, x0_lines, x0_line, x0_changes, x0_coins, x0_goods, x0_good, x0_works, x0_work, x0_years, x0_gone, x0_spent, x0_at, x0_token, x0_from, x0_figures, x0_fault, x0_numbers, x0_statements, x0_left, x0_far, x0_tons, x0_way, x0_steps, x0_met, x0_queue, x0_totals) (-2)).bind (u2 fun v g => some (v, g))) (fun r => AP ((0 ≤ p1 ∧ p1 < x0_goods) ∧ (0 ≤ p2 ∧ p2 ≤ 2)) r.1 (r.1 = x0_good p1.toNatClampNeg p2.toNatClampNeg) True) := by
    intro hV
    refine Sf.bind (sX7_refuse h_x0_shelf h_x0_rowSize h_x0_tapeSize h_x0_lines h_x0_line h_x0_changes h_x0_coins h_x0_goods h_x0_good h_x0_works h_x0_work h_x0_years h_x0_from h_x0_far h_x0_way h_x0_steps h_x0_queue (by decide)) ?_
    rintro ⟨v, g⟩ e
    exact Sf.ok (Or.inr ⟨hV, e, trivial⟩)
  refine Sf.bind (s_inq p1 0 (x0_goods - 1) (by decide) rfl) (fun v1 h1 => Sf.ite (fun hz => no (fun V => gd0 h1 hz ⟨V.1.1, by have h := V.1; have q := h_x0_goods; clear V no h1; grind⟩)) (fun hz => ?_))
  have c0 := gd1 h1 hz
  have c1 : 0 ≤ p1 ∧ p1 < x0_goods := ⟨c0.1, by have q := h_x0_goods; clear no h1; grind⟩
  refine Sf.bind (s_inq p2 0 2 (by decide) (by decide)) (fun v6 h6 => Sf.ite (fun hz => no (fun V => gd0 h6 hz V.2)) (fun hz => ?_))
  have c2 := gd1 h6 hz
  refine Sf.ckb 8 rfl ⟨c1.1, Int32.lt_of_lt_of_le c1.2 h_x0_goods.2⟩ (fun q11 e11 _ => ?_)
  refine Sf.rdb 3 rfl ⟨c2.1, Int32.lt_of_le_of_lt c2.2 (by decide)⟩ (fun v12 e12 => ?_)
  refine Sf.ok (Or.inl ⟨⟨c1, c2⟩, ?_⟩)
  show v12 = _
  rw [e12, e11]
theorem dGoodsOf {x0_refused : (Nat → Int32)} {x0_isKept : Int32} {x0_gone : Int32} {x0_spent : Int32} {x1_lineCount : Int32} {x1_goodsCount : Int32} {x1_workCount : Int32} {x1_years : Int32} {x1_lines : (Nat → Int32)} {x1_goods : (Nat → Int32)} {x1_works : (Nat → Int32)} {x1_change : (Nat → Int32)} {x1_coin : (Nat → Int32)} {x1_knownFree : (Nat → Int32)} {x1_isKnown : Int32} {m_shelf : (Nat → Int32)} {m_rowSort : (Nat → Int32)} {m_rowSize : (Nat → Int32)} {m_rows : (Nat → Nat → Int64)} {m_moved : (Nat → Int64)} {m_shown : (Nat → Int32)} {m_tape : (Nat → Int32)} {m_tapeSize : Int32} {m_refused : (Nat → Int32)} {m_lines : Int32} {m_line : (Nat → Nat → Int32)} {m_changes : (Nat → Int32)} {m_coins : (Nat → Int32)} {m_goods : Int32} {m_good : (Nat → Nat → Int32)} {m_works : Int32} {m_work : (Nat → Nat → Int32)} {m_years : Int32} {m_gone : Int32} {m_spent : Int32} {m_at : Int32} {m_token : Int32} {m_from : Int32} {m_figures : Int64} {m_fault : Int32} {m_numbers : (Nat → Int32)} {m_statements : Int32} {m_left : (Nat → Int32)} {m_far : (Nat → Int32)} {m_tons : Int32} {m_way : (Nat → Int32)} {m_steps : Int32} {m_met : Int64} {m_queue : (Nat → Int32)} {m_totals : (Nat → Int32)} {p1 p2 er fr : Int32} {e0 f0 : Nat → Int32} (h_x1_lineCount : (0 ≤ x1_lineCount ∧ x1_lineCount ≤ 20)) (h_x1_goodsCount : (0 ≤ x1_goodsCount ∧ x1_goodsCount ≤ 8)) (h_x1_workCount : (0 ≤ x1_workCount ∧ x1_workCount ≤ 7)) (h_x1_years : (1 ≤ x1_years ∧ x1_years ≤ 30)) (h_x1_lines : (LnOk x1_lines)) (h_x1_goods : (GdOk x1_goods)) (h_x1_works : (WkOk x1_works)) (h_x1_change : (AI 0 99 x1_change)) (h_x1_coin : (AI 0 9 x1_coin)) (h_m_shelf : (AI 0 2 m_shelf)) (h_m_rowSize : (AI 0 40 m_rowSize)) (h_m_tapeSize : (0 ≤ m_tapeSize ∧ m_tapeSize ≤ 250)) (h_m_lines : (0 ≤ m_lines ∧ m_lines ≤ 20)) (h_m_line : (LnM m_line)) (h_m_changes : (AI 0 99 m_changes)) (h_m_coins : (AI 0 9 m_coins)) (h_m_goods : (0 ≤ m_goods ∧ m_goods ≤ 8)) (h_m_good : (GdM m_good)) (h_m_works : (0 ≤ m_works ∧ m_works ≤ 7)) (h_m_work : (WkM m_work)) (h_m_years : (1 ≤ m_years ∧ m_years ≤ 30)) (h_m_from : (0 ≤ m_from ∧ m_from ≤ 250)) (h_m_far : (AI 0 1000000000 m_far)) (h_m_way : (AI 0 22 m_way)) (h_m_steps : (0 ≤ m_steps ∧ m_steps ≤ 37)) (h_m_queue : (AI 0 35 m_queue)) (hA : (LaD x1_lineCount x1_goodsCount x1_workCount x1_years x1_lines x1_goods x1_works x1_change x1_coin m_lines m_line m_changes m_coins m_goods m_good m_works m_work m_years)) (eqA : fX6_goodsOf (x0_refused, x0_isKept, x0_gone, x0_spent) (x1_lineCount, x1_goodsCount, x1_workCount, x1_years, x1_lines, x1_goods, x1_works, x1_change, x1_coin, x1_knownFree, x1_isKnown) p1 p2 = some (er, e0)) (eqB : fX7_goodsOf (m_shelf, m_rowSort, m_rowSize, m_rows, m_moved, m_shown, m_tape, m_tapeSize, m_refused, m_lines, m_line, m_changes, m_coins, m_goods, m_good, m_works, m_work, m_years, m_gone, m_spent, m_at, m_token, m_from, m_figures, m_fault, m_numbers, m_statements, m_left, m_far, m_tons, m_way, m_steps, m_met, m_queue, m_totals) p1 p2 = some (fr, f0)) : er = fr := by
  have a := (GoodsOfC h_x1_lineCount h_x1_goodsCount h_x1_workCount h_x1_years h_x1_lines h_x1_goods h_x1_works h_x1_change h_x1_coin).at eqA
  have b := (GoodsOfR h_m_shelf h_m_rowSize h_m_tapeSize h_m_lines h_m_line h_m_changes h_m_coins h_m_goods h_m_good h_m_works h_m_work h_m_years h_m_from h_m_far h_m_way h_m_steps h_m_queue).at eqB
  have ec : x1_goodsCount = m_goods := hA.1.2.1
  rw [← ec] at b
  rcases AP_eq a b with ⟨⟨⟨c1, c2⟩, a1⟩, b1⟩ | ⟨e, _⟩
  · have hp : p1.toNatClampNeg < x1_goodsCount.toNatClampNeg := by
      have x := i32_cl c1.1
      have y := i32_cl h_x1_goodsCount.1
      have z := Int32.lt_iff_toInt_lt.mp c1.2
      omega
    have hq : p2.toNatClampNeg < 3 := i32_lt (M := 3) (N := 3) rfl ⟨c2.1, Int32.lt_of_le_of_lt c2.2 (by decide)⟩
    exact (a1.trans (hA.2.2.1 _ hp _ hq)).trans b1.symm
  · exact e
theorem WorkOfC {x0_refused : (Nat → Int32)} {x0_isKept : Int32} {x0_gone : Int32} {x0_spent : Int32} {x1_lineCount : Int32} {x1_goodsCount : Int32} {x1_workCount : Int32} {x1_years : Int32} {x1_lines : (Nat → Int32)} {x1_goods : (Nat → Int32)} {x1_works : (Nat → Int32)} {x1_change : (Nat → Int32)} {x1_coin : (Nat → Int32)} {x1_knownFree : (Nat → Int32)} {x1_isKnown : Int32} {p1 p2 : Int32} (h_x1_lineCount : (0 ≤ x1_lineCount ∧ x1_lineCount ≤ 20)) (h_x1_goodsCount : (0 ≤ x1_goodsCount ∧ x1_goodsCount ≤ 8)) (h_x1_workCount : (0 ≤ x1_workCount ∧ x1_workCount ≤ 7)) (h_x1_years : (1 ≤ x1_years ∧ x1_years ≤ 30)) (h_x1_lines : (LnOk x1_lines)) (h_x1_goods : (GdOk x1_goods)) (h_x1_works : (WkOk x1_works)) (h_x1_change : (AI 0 99 x1_change)) (h_x1_coin : (AI 0 9 x1_coin)) : Sf (fX6_workOf (x0_refused, x0_isKept, x0_gone, x0_spent) (x1_lineCount, x1_goodsCount, x1_workCount, x1_years, x1_lines, x1_goods, x1_works, x1_change, x1_coin, x1_knownFree, x1_isKnown) p1 p2) (fun r => AP ((0 ≤ p1 ∧ p1 < x1_workCount) ∧ (0 ≤ p2 ∧ p2 ≤ 4)) r.1 (((0 ≤ p1 ∧ p1 < x1_workCount) ∧ (0 ≤ p2 ∧ p2 ≤ 4)) ∧ r.1 = ro 5 x1_works p1.toNatClampNeg p2.toNatClampNeg) True) := by
  unfold fX6_workOf
  dsimp only [u4, u11]
  have no : ¬ ((0 ≤ p1 ∧ p1 < x1_workCount) ∧ (0 ≤ p2 ∧ p2 ≤ 4)) → Sf ((fX6_refuse (x0_refused, x0_isKept, x0_gone, x0_spent) (-2)).bind (u2 fun v g => some (v, g))) (fun r => AP ((0 ≤ p1 ∧ p1 < x1_workCount) ∧ (0 ≤ p2 ∧ p2 ≤ 4)) r.1 (((0 ≤ p1 ∧ p1 < x1_workCount) ∧ (0 ≤ p2 ∧ p2 ≤ 4)) ∧ r.1 = ro 5 x1_works p1.toNatClampNeg p2.toNatClampNeg) True) := by
    intro hV
    refine Sf.bind refC ?_
    rintro ⟨v, g⟩ e
    exact Sf.ok (Or.inr ⟨hV, e, trivial⟩)
  refine Sf.bind hasWorkS (fun v1 h1 => Sf.ite (fun hz => no (fun V => gd0 h1 hz ⟨V.1.1, by have h := V.1; have q := h_x1_workCount; clear V no h1; grind⟩)) (fun hz => ?_))
  have c0 := gd1 h1 hz
  have c1 : 0 ≤ p1 ∧ p1 < x1_workCount := ⟨c0.1, by have q := h_x1_workCount; clear no h1; grind⟩
  refine Sf.bind sX6_within (fun v6 h6 => Sf.ite (fun hz => no (fun V => gd0 h6 hz V.2)) (fun hz => ?_))
  have c2 := gd1 h6 hz
  have hp6 : 0 ≤ p1 ∧ p1 ≤ 6 := ⟨c1.1, by have q := h_x1_workCount; clear no h1 h6; grind⟩
  refine Sf.bind (ofWorkV h_x1_works hp6 ⟨c2.1, Int32.lt_of_le_of_lt c2.2 (by decide)⟩) (fun v8 e8 => ?_)
  exact Sf.ok (Or.inl ⟨⟨c1, c2⟩, ⟨c1, c2⟩, e8⟩)
theorem WorkOfR {x0_shelf : (Nat → Int32)} {x0_rowSort : (Nat → Int32)} {x0_rowSize : (Nat → Int32)} {x0_rows : (Nat → Nat → Int64)} {x0_moved : (Nat → Int64)} {x0_shown : (Nat → Int32)} {x0_tape : (Nat → Int32)} {x0_tapeSize : Int32} {x0_refused : (Nat → Int32)} {x0_lines : Int32} {x0_line : (Nat → Nat → Int32)} {x0_changes : (Nat → Int32)} {x0_coins : (Nat → Int32)} {x0_goods : Int32} {x0_good : (Nat → Nat → Int32)} {x0_works : Int32} {x0_work : (Nat → Nat → Int32)} {x0_years : Int32} {x0_gone : Int32} {x0_spent : Int32} {x0_at : Int32} {x0_token : Int32} {x0_from : Int32} {x0_figures : Int64} {x0_fault : Int32} {x0_numbers : (Nat → Int32)} {x0_statements : Int32} {x0_left : (Nat → Int32)} {x0_far : (Nat → Int32)} {x0_tons : Int32} {x0_way : (Nat → Int32)} {x0_steps : Int32} {x0_met : Int64} {x0_queue : (Nat → Int32)} {x0_totals : (Nat → Int32)} {p1 p2 : Int32} (h_x0_shelf : (AI 0 2 x0_shelf)) (h_x0_rowSize : (AI 0 40 x0_rowSize)) (h_x0_tapeSize : (0 ≤ x0_tapeSize ∧ x0_tapeSize ≤ 250)) (h_x0_lines : (0 ≤ x0_lines ∧ x0_lines ≤ 20)) (h_x0_line : (LnM x0_line)) (h_x0_changes : (AI 0 99 x0_changes)) (h_x0_coins : (AI 0 9 x0_coins)) (h_x0_goods : (0 ≤ x0_goods ∧ x0_goods ≤ 8)) (h_x0_good : (GdM x0_good)) (h_x0_works : (0 ≤ x0_works ∧ x0_works ≤ 7)) (h_x0_work : (WkM x0_work)) (h_x0_years : (1 ≤ x0_years ∧ x0_years ≤ 30)) (h_x0_from : (0 ≤ x0_from ∧ x0_from ≤ 250)) (h_x0_far : (AI 0 1000000000 x0_far)) (h_x0_way : (AI 0 22 x0_way)) (h_x0_steps : (0 ≤ x0_steps ∧ x0_steps ≤ 37)) (h_x0_queue : (AI 0 35 x0_queue)) : Sf (fX7_workOf (x0_shelf, x0_rowSort, x0_rowSize, x0_rows, x0_moved, x0_shown, x0_tape, x0_tapeSize, x0_refused, x0_lines, x0_line, x0_changes, x0_coins, x0_goods, x0_good, x0_works, x0_work, x0_years, x0_gone, x0_spent, x0_at, x0_token, x0_from, x0_figures, x0_fault, x0_numbers, x0_statements, x0_left, x0_far, x0_tons, x0_way, x0_steps, x0_met, x0_queue, x0_totals) p1 p2) (fun r => AP ((0 ≤ p1 ∧ p1 < x0_works) ∧ (0 ≤ p2 ∧ p2 ≤ 4)) r.1 (r.1 = x0_work p1.toNatClampNeg p2.toNatClampNeg) True) := by
  unfold fX7_workOf
  dsimp only [u35]
  have no : ¬ ((0 ≤ p1 ∧ p1 < x0_works) ∧ (0 ≤ p2 ∧ p2 ≤ 4)) → Sf ((fX7_refuse (x0_shelf, x0_rowSort, x0_rowSize, x0_rows, x0_moved, x0_shown, x0_tape, x0_tapeSize, x0_refused, x0_lines, x0_line, x0_changes, x0_coins, x0_goods, x0_good, x0_works, x0_work, x0_years, x0_gone, x0_spent, x0_at, x0_token, x0_from, x0_figures, x0_fault, x0_numbers, x0_statements, x0_left, x0_far, x0_tons, x0_way, x0_steps, x0_met, x0_queue, x0_totals) (-2)).bind (u2 fun v g => some (v, g))) (fun r => AP ((0 ≤ p1 ∧ p1 < x0_works) ∧ (0 ≤ p2 ∧ p2 ≤ 4)) r.1 (r.1 = x0_work p1.toNatClampNeg p2.toNatClampNeg) True) := by
    intro hV
    refine Sf.bind (sX7_refuse h_x0_shelf h_x0_rowSize h_x0_tapeSize h_x0_lines h_x0_line h_x0_changes h_x0_coins h_x0_goods h_x0_good h_x0_works h_x0_work h_x0_years h_x0_from h_x0_far h_x0_way h_x0_steps h_x0_queue (by decide)) ?_
    rintro ⟨v, g⟩ e
    exact Sf.ok (Or.inr ⟨hV, e, trivial⟩)
  have isl : Sf (fX7_isWork (x0_shelf, x0_rowSort, x0_rowSize, x0_rows, x0_moved, x0_shown, x0_tape, x0_tapeSize, x0_refused, x0_lines, x0_line, x0_changes, x0_coins, x0_goods, x0_good, x0_works, x0_work, x0_years, x0_gone, x0_spent, x0_at, x0_token, x0_from, x0_figures, x0_fault, x0_numbers, x0_statements, x0_left, x0_far, x0_tons, x0_way, x0_steps, x0_met, x0_queue, x0_totals) p1) (fun r => (r = 1 ∧ 0 ≤ p1 ∧ p1 < x0_works) ∨ (r = 0 ∧ ¬ (0 ≤ p1 ∧ p1 < x0_works))) := sX7_isWork h_x0_shelf h_x0_rowSize h_x0_tapeSize h_x0_lines h_x0_line h_x0_changes h_x0_coins h_x0_goods h_x0_good h_x0_works h_x0_work h_x0_years h_x0_from h_x0_far h_x0_way h_x0_steps h_x0_queue
  refine Sf.bind isl (fun v1 h1 => Sf.ite (fun hz => no (fun V => ?_)) (fun hz => ?_))
  · rcases h1 with h1 | h1
    · rw [h1.1] at hz; exact absurd hz (by decide)
    · exact h1.2 V.1
  have c1 : 0 ≤ p1 ∧ p1 < x0_works := by
    rcases h1 with h1 | h1
    · exact h1.2
    · exact absurd h1.1 hz
  refine Sf.bind (s_inq p2 0 4 (by decide) (by decide)) (fun v6 h6 => Sf.ite (fun hz => no (fun V => gd0 h6 hz V.2)) (fun hz => ?_))
  have c2 := gd1 h6 hz
  refine Sf.ckb 7 rfl ⟨c1.1, Int32.lt_of_lt_of_le c1.2 h_x0_works.2⟩ (fun q11 e11 _ => ?_)
  refine Sf.rdb 5 rfl ⟨c2.1, Int32.lt_of_le_of_lt c2.2 (by decide)⟩ (fun v12 e12 => ?_)
  refine Sf.ok (Or.inl ⟨⟨c1, c2⟩, ?_⟩)
  show v12 = _
  rw [e12, e11]
theorem dWorkOf {x0_refused : (Nat → Int32)} {x0_isKept : Int32} {x0_gone : Int32} {x0_spent : Int32} {x1_lineCount : Int32} {x1_goodsCount : Int32} {x1_workCount : Int32} {x1_years : Int32} {x1_lines : (Nat → Int32)} {x1_goods : (Nat → Int32)} {x1_works : (Nat → Int32)} {x1_change : (Nat → Int32)} {x1_coin : (Nat → Int32)} {x1_knownFree : (Nat → Int32)} {x1_isKnown : Int32} {m_shelf : (Nat → Int32)} {m_rowSort : (Nat → Int32)} {m_rowSize : (Nat → Int32)} {m_rows : (Nat → Nat → Int64)} {m_moved : (Nat → Int64)} {m_shown : (Nat → Int32)} {m_tape : (Nat → Int32)} {m_tapeSize : Int32} {m_refused : (Nat → Int32)} {m_lines : Int32} {m_line : (Nat → Nat → Int32)} {m_changes : (Nat → Int32)} {m_coins : (Nat → Int32)} {m_goods : Int32} {m_good : (Nat → Nat → Int32)} {m_works : Int32} {m_work : (Nat → Nat → Int32)} {m_years : Int32} {m_gone : Int32} {m_spent : Int32} {m_at : Int32} {m_token : Int32} {m_from : Int32} {m_figures : Int64} {m_fault : Int32} {m_numbers : (Nat → Int32)} {m_statements : Int32} {m_left : (Nat → Int32)} {m_far : (Nat → Int32)} {m_tons : Int32} {m_way : (Nat → Int32)} {m_steps : Int32} {m_met : Int64} {m_queue : (Nat → Int32)} {m_totals : (Nat → Int32)} {p1 p2 er fr : Int32} {e0 f0 : Nat → Int32} (h_x1_lineCount : (0 ≤ x1_lineCount ∧ x1_lineCount ≤ 20)) (h_x1_goodsCount : (0 ≤ x1_goodsCount ∧ x1_goodsCount ≤ 8)) (h_x1_workCount : (0 ≤ x1_workCount ∧ x1_workCount ≤ 7)) (h_x1_years : (1 ≤ x1_years ∧ x1_years ≤ 30)) (h_x1_lines : (LnOk x1_lines)) (h_x1_goods : (GdOk x1_goods)) (h_x1_works : (WkOk x1_works)) (h_x1_change : (AI 0 99 x1_change)) (h_x1_coin : (AI 0 9 x1_coin)) (h_m_shelf : (AI 0 2 m_shelf)) (h_m_rowSize : (AI 0 40 m_rowSize)) (h_m_tapeSize : (0 ≤ m_tapeSize ∧ m_tapeSize ≤ 250)) (h_m_lines : (0 ≤ m_lines ∧ m_lines ≤ 20)) (h_m_line : (LnM m_line)) (h_m_changes : (AI 0 99 m_changes)) (h_m_coins : (AI 0 9 m_coins)) (h_m_goods : (0 ≤ m_goods ∧ m_goods ≤ 8)) (h_m_good : (GdM m_good)) (h_m_works : (0 ≤ m_works ∧ m_works ≤ 7)) (h_m_work : (WkM m_work)) (h_m_years : (1 ≤ m_years ∧ m_years ≤ 30)) (h_m_from : (0 ≤ m_from ∧ m_from ≤ 250)) (h_m_far : (AI 0 1000000000 m_far)) (h_m_way : (AI 0 22 m_way)) (h_m_steps : (0 ≤ m_steps ∧ m_steps ≤ 37)) (h_m_queue : (AI 0 35 m_queue)) (hA : (LaD x1_lineCount x1_goodsCount x1_workCount x1_years x1_lines x1_goods x1_works x1_change x1_coin m_lines m_line m_changes m_coins m_goods m_good m_works m_work m_years)) (eqA : fX6_workOf (x0_refused, x0_isKept, x0_gone, x0_spent) (x1_lineCount, x1_goodsCount, x1_workCount, x1_years, x1_lines, x1_goods, x1_works, x1_change, x1_coin, x1_knownFree, x1_isKnown) p1 p2 = some (er, e0)) (eqB : fX7_workOf (m_shelf, m_rowSort, m_rowSize, m_rows, m_moved, m_shown, m_tape, m_tapeSize, m_refused, m_lines, m_line, m_changes, m_coins, m_goods, m_good, m_works, m_work, m_years, m_gone, m_spent, m_at, m_token, m_from, m_figures, m_fault, m_numbers, m_statements, m_left, m_far, m_tons, m_way, m_steps, m_met, m_queue, m_totals) p1 p2 = some (fr, f0)) : er = fr := by
  have a := (WorkOfC h_x1_lineCount h_x1_goodsCount h_x1_workCount h_x1_years h_x1_lines h_x1_goods h_x1_works h_x1_change h_x1_coin).at eqA
  have b := (WorkOfR h_m_shelf h_m_rowSize h_m_tapeSize h_m_lines h_m_line h_m_changes h_m_coins h_m_goods h_m_good h_m_works h_m_work h_m_years h_m_from h_m_far h_m_way h_m_steps h_m_queue).at eqB
  have ec : x1_workCount = m_works := hA.1.2.2.1
  rw [← ec] at b
  rcases AP_eq a b with ⟨⟨⟨c1, c2⟩, a1⟩, b1⟩ | ⟨e, _⟩
  · have hp : p1.toNatClampNeg < x1_workCount.toNatClampNeg := by
      have x := i32_cl c1.1
      have y := i32_cl h_x1_workCount.1
      have z := Int32.lt_iff_toInt_lt.mp c1.2
      omega
    have hq : p2.toNatClampNeg < 5 := i32_lt (M := 5) (N := 5) rfl ⟨c2.1, Int32.lt_of_le_of_lt c2.2 (by decide)⟩
    exact (a1.trans (hA.2.2.2.1 _ hp _ hq)).trans b1.symm
  · exact e
theorem dFree {n : Nat} {x0_refused : (Nat → Int32)} {x0_isKept : Int32} {x0_gone : Int32} {x0_spent : Int32} {x1_gained : Nat → Int32} {x2_lineCount : Int32} {x2_goodsCount : Int32} {x2_workCount : Int32} {x2_years : Int32} {x2_lines : (Nat → Int32)} {x2_goods : (Nat → Int32)} {x2_works : (Nat → Int32)} {x2_change : (Nat → Int32)} {x2_coin : (Nat → Int32)} {x2_knownFree : (Nat → Int32)} {x2_isKnown : Int32} {x3_lineCount : Int32} {x3_goodsCount : Int32} {x3_workCount : Int32} {x3_years : Int32} {x3_lines : (Nat → Int32)} {x3_goods : (Nat → Int32)} {x3_works : (Nat → Int32)} {x3_change : (Nat → Int32)} {x3_coin : (Nat → Int32)} {x3_knownFree : (Nat → Int32)} {x3_isKnown : Int32} {x4_left : (Nat → Int32)} {x4_earned : (Nat → Int32)} {x4_turnCost : Int32} {x4_turnWayless : Int32} {x5_edgeA : (Nat → Int32)} {x5_edgeB : (Nat → Int32)} {x5_edgeCost : (Nat → Int32)} {x5_edgeLine : (Nat → Int32)} {x5_change : (Nat → Int32)} {x5_away : (Nat → Int32)} {x5_steps : (Nat → Int32)} {x5_nodes : (Nat → Int32)} {x5_stepCount : Int32} {x5_open : (Nat → Int32)} {x5_openCount : Int32} {x5_seen : Int64} {x5_edgeCount : Int32} {x5_aim : Int32} {m_shelf : (Nat → Int32)} {m_rowSort : (Nat → Int32)} {m_rowSize : (Nat → Int32)} {m_rows : (Nat → Nat → Int64)} {m_moved : (Nat → Int64)} {m_shown : (Nat → Int32)} {m_tape : (Nat → Int32)} {m_tapeSize : Int32} {m_refused : (Nat → Int32)} {m_lines : Int32} {m_line : (Nat → Nat → Int32)} {m_changes : (Nat → Int32)} {m_coins : (Nat → Int32)} {m_goods : Int32} {m_good : (Nat → Nat → Int32)} {m_works : Int32} {m_work : (Nat → Nat → Int32)} {m_years : Int32} {m_gone : Int32} {m_spent : Int32} {m_at : Int32} {m_token : Int32} {m_from : Int32} {m_figures : Int64} {m_fault : Int32} {m_numbers : (Nat → Int32)} {m_statements : Int32} {m_left : (Nat → Int32)} {m_far : (Nat → Int32)} {m_tons : Int32} {m_way : (Nat → Int32)} {m_steps : Int32} {m_met : Int64} {m_queue : (Nat → Int32)} {m_totals : (Nat → Int32)} {A6 : Int32 × (Int32 × Int32 × Int32 × Int32 × (Nat → Int32) × (Nat → Int32) × (Nat → Int32) × (Nat → Int32) × (Nat → Int32) × Int32) × (Int32 × (Nat → Int32) × (Nat → Int32) × (Nat → Int32) × Int32) × ((Nat → Int32) × (Nat → Int32) × (Nat → Int32) × (Nat → Int32) × (Nat → Int32) × (Nat → Int32) × Int32 × Int32)} {B6 : Int32 × (Nat → Int32) × (Nat → Int32) × Int32} (hn : 1000000000000 ≤ n) (h_x2_lineCount : (0 ≤ x2_lineCount ∧ x2_lineCount ≤ 20)) (h_x2_goodsCount : (0 ≤ x2_goodsCount ∧ x2_goodsCount ≤ 8)) (h_x2_workCount : (0 ≤ x2_workCount ∧ x2_workCount ≤ 7)) (h_x2_years : (1 ≤ x2_years ∧ x2_years ≤ 30)) (h_x2_lines : (LnOk x2_lines)) (h_x2_goods : (GdOk x2_goods)) (h_x2_works : (WkOk x2_works)) (h_x2_change : (AI 0 99 x2_change)) (h_x2_coin : (AI 0 9 x2_coin)) (h_x3_lineCount : (0 ≤ x3_lineCount ∧ x3_lineCount ≤ 20)) (h_x3_goodsCount : (0 ≤ x3_goodsCount ∧ x3_goodsCount ≤ 8)) (h_x3_workCount : (0 ≤ x3_workCount ∧ x3_workCount ≤ 7)) (h_x3_years : (1 ≤ x3_years ∧ x3_years ≤ 30)) (h_x3_lines : (LnOk x3_lines)) (h_x3_goods : (GdOk x3_goods)) (h_x3_works : (WkOk x3_works)) (h_x3_change : (AI 0 99 x3_change)) (h_x3_coin : (AI 0 9 x3_coin)) (h_x5_edgeA : (AI 0 35 x5_edgeA)) (h_x5_edgeB : (AI 0 35 x5_edgeB)) (h_x5_edgeLine : (AI 0 19 x5_edgeLine)) (h_x5_steps : (AI 0 22 x5_steps)) (h_x5_nodes : (AI 0 35 x5_nodes)) (h_x5_stepCount : (0 ≤ x5_stepCount ∧ x5_stepCount ≤ 36)) (h_x5_open : (AI 0 35 x5_open)) (h_x5_openCount : (0 ≤ x5_openCount ∧ x5_openCount ≤ 36)) (h_x5_edgeCount : (0 ≤ x5_edgeCount ∧ x5_edgeCount ≤ 60)) (h_m_shelf : (AI 0 2 m_shelf)) (h_m_rowSize : (AI 0 40 m_rowSize)) (h_m_tapeSize : (0 ≤ m_tapeSize ∧ m_tapeSize ≤ 250)) (h_m_lines : (0 ≤ m_lines ∧ m_lines ≤ 20)) (h_m_line : (LnM m_line)) (h_m_changes : (AI 0 99 m_changes)) (h_m_coins : (AI 0 9 m_coins)) (h_m_goods : (0 ≤ m_goods ∧ m_goods ≤ 8)) (h_m_good : (GdM m_good)) (h_m_works : (0 ≤ m_works ∧ m_works ≤ 7)) (h_m_work : (WkM m_work)) (h_m_years : (1 ≤ m_years ∧ m_years ≤ 30)) (h_m_from : (0 ≤ m_from ∧ m_from ≤ 250)) (h_m_far : (AI 0 1000000000 m_far)) (h_m_way : (AI 0 22 m_way)) (h_m_steps : (0 ≤ m_steps ∧ m_steps ≤ 37)) (h_m_queue : (AI 0 35 m_queue)) (hA : (LaD x3_lineCount x3_goodsCount x3_workCount x3_years x3_lines x3_goods x3_works x3_change x3_coin m_lines m_line m_changes m_coins m_goods m_good m_works m_work m_years)) (hk : Kn (FrS x3_lineCount (ro 7 x3_lines) x3_change x3_coin (ro 3 x3_goods) x3_goodsCount (ro 5 x3_works) x3_workCount) x3_knownFree x3_isKnown) (eqA : fX6_free n (x0_refused, x0_isKept, x0_gone, x0_spent) x1_gained (x2_lineCount, x2_goodsCount, x2_workCount, x2_years, x2_lines, x2_goods, x2_works, x2_change, x2_coin, x2_knownFree, x2_isKnown) (x3_lineCount, x3_goodsCount, x3_workCount, x3_years, x3_lines, x3_goods, x3_works, x3_change, x3_coin, x3_knownFree, x3_isKnown) (x4_left, x4_earned, x4_turnCost, x4_turnWayless) (x5_edgeA, x5_edgeB, x5_edgeCost, x5_edgeLine, x5_change, x5_away, x5_steps, x5_nodes, x5_stepCount, x5_open, x5_openCount, x5_seen, x5_edgeCount, x5_aim) = some A6) (eqB : fX7_free n (m_shelf, m_rowSort, m_rowSize, m_rows, m_moved, m_shown, m_tape, m_tapeSize, m_refused, m_lines, m_line, m_changes, m_coins, m_goods, m_good, m_works, m_work, m_years, m_gone, m_spent, m_at, m_token, m_from, m_figures, m_fault, m_numbers, m_statements, m_left, m_far, m_tons, m_way, m_steps, m_met, m_queue, m_totals) = some B6) : A6.1 = B6.1 := by
  have a := ((kFree hn h_x2_lineCount h_x2_goodsCount h_x2_workCount h_x2_years h_x2_lines h_x2_goods h_x2_works h_x2_change h_x2_coin h_x3_lineCount h_x3_goodsCount h_x3_workCount h_x3_years h_x3_lines h_x3_goods h_x3_works h_x3_change h_x3_coin h_x5_edgeA h_x5_edgeB h_x5_edgeLine h_x5_steps h_x5_nodes h_x5_stepCount h_x5_open h_x5_openCount h_x5_edgeCount hA.2.2.2.2.2.2 hk).at eqA).1
  have b := (freeR hn h_m_shelf h_m_rowSize h_m_tapeSize h_m_lines h_m_line h_m_changes h_m_coins h_m_goods h_m_good h_m_works h_m_work h_m_years h_m_from h_m_far h_m_way h_m_steps h_m_queue).at eqB
  obtain ⟨⟨z1, z2, z3, z4⟩, z5, z6, z7, z8, z9, z10⟩ := id hA
  have q := FrA_congr (G := x3_goodsCount) hA.s.1 z9 z6
  rw [a, b, q, z2]
  rfl
theorem dFirst {n : Nat} {x0_refused : (Nat → Int32)} {x0_isKept : Int32} {x0_gone : Int32} {x0_spent : Int32} {x1_gained : Nat → Int32} {x2_lineCount : Int32} {x2_goodsCount : Int32} {x2_workCount : Int32} {x2_years : Int32} {x2_lines : (Nat → Int32)} {x2_goods : (Nat → Int32)} {x2_works : (Nat → Int32)} {x2_change : (Nat → Int32)} {x2_coin : (Nat → Int32)} {x2_knownFree : (Nat → Int32)} {x2_isKnown : Int32} {x3_lineCount : Int32} {x3_goodsCount : Int32} {x3_workCount : Int32} {x3_years : Int32} {x3_lines : (Nat → Int32)} {x3_goods : (Nat → Int32)} {x3_works : (Nat → Int32)} {x3_change : (Nat → Int32)} {x3_coin : (Nat → Int32)} {x3_knownFree : (Nat → Int32)} {x3_isKnown : Int32} {x4_left : (Nat → Int32)} {x4_earned : (Nat → Int32)} {x4_turnCost : Int32} {x4_turnWayless : Int32} {x5_edgeA : (Nat → Int32)} {x5_edgeB : (Nat → Int32)} {x5_edgeCost : (Nat → Int32)} {x5_edgeLine : (Nat → Int32)} {x5_change : (Nat → Int32)} {x5_away : (Nat → Int32)} {x5_steps : (Nat → Int32)} {x5_nodes : (Nat → Int32)} {x5_stepCount : Int32} {x5_open : (Nat → Int32)} {x5_openCount : Int32} {x5_seen : Int64} {x5_edgeCount : Int32} {x5_aim : Int32} {m_shelf : (Nat → Int32)} {m_rowSort : (Nat → Int32)} {m_rowSize : (Nat → Int32)} {m_rows : (Nat → Nat → Int64)} {m_moved : (Nat → Int64)} {m_shown : (Nat → Int32)} {m_tape : (Nat → Int32)} {m_tapeSize : Int32} {m_refused : (Nat → Int32)} {m_lines : Int32} {m_line : (Nat → Nat → Int32)} {m_changes : (Nat → Int32)} {m_coins : (Nat → Int32)} {m_goods : Int32} {m_good : (Nat → Nat → Int32)} {m_works : Int32} {m_work : (Nat → Nat → Int32)} {m_years : Int32} {m_gone : Int32} {m_spent : Int32} {m_at : Int32} {m_token : Int32} {m_from : Int32} {m_figures : Int64} {m_fault : Int32} {m_numbers : (Nat → Int32)} {m_statements : Int32} {m_left : (Nat → Int32)} {m_far : (Nat → Int32)} {m_tons : Int32} {m_way : (Nat → Int32)} {m_steps : Int32} {m_met : Int64} {m_queue : (Nat → Int32)} {m_totals : (Nat → Int32)} {t_shelf : (Nat → Int32)} {t_rowSort : (Nat → Int32)} {t_rowSize : (Nat → Int32)} {t_rows : (Nat → Nat → Int64)} {t_moved : (Nat → Int64)} {t_shown : (Nat → Int32)} {t_tape : (Nat → Int32)} {t_tapeSize : Int32} {t_refused : (Nat → Int32)} {t_lines : Int32} {t_line : (Nat → Nat → Int32)} {t_changes : (Nat → Int32)} {t_coins : (Nat → Int32)} {t_goods : Int32} {t_good : (Nat → Nat → Int32)} {t_works : Int32} {t_work : (Nat → Nat → Int32)} {t_years : Int32} {t_gone : Int32} {t_spent : Int32} {t_at : Int32} {t_token : Int32} {t_from : Int32} {t_figures : Int64} {t_fault : Int32} {t_numbers : (Nat → Int32)} {t_statements : Int32} {t_left : (Nat → Int32)} {t_far : (Nat → Int32)} {t_tons : Int32} {t_way : (Nat → Int32)} {t_steps : Int32} {t_met : Int64} {t_queue : (Nat → Int32)} {t_totals : (Nat → Int32)} {er fr : Int32} {A6 : (Int32 × Int32 × Int32 × Int32 × (Nat → Int32) × (Nat → Int32) × (Nat → Int32) × (Nat → Int32) × (Nat → Int32) × Int32) × (Int32 × (Nat → Int32) × (Nat → Int32) × (Nat → Int32) × Int32) × ((Nat → Int32) × (Nat → Int32) × (Nat → Int32) × (Nat → Int32) × (Nat → Int32) × (Nat → Int32) × Int32 × Int32)} {B6 : Int32 × (Nat → Nat → Int32) × (Nat → Int32) × (Nat → Int32) × Int32 × (Nat → Nat → Int32) × Int32 × (Nat → Nat → Int32) × Int32 × Int32 × Int32 × (Nat → Int32) × (Nat → Int32) × Int32} (hn : 1000000000000 ≤ n) (h_x2_lineCount : (0 ≤ x2_lineCount ∧ x2_lineCount ≤ 20)) (h_x2_goodsCount : (0 ≤ x2_goodsCount ∧ x2_goodsCount ≤ 8)) (h_x2_workCount : (0 ≤ x2_workCount ∧ x2_workCount ≤ 7)) (h_x2_years : (1 ≤ x2_years ∧ x2_years ≤ 30)) (h_x2_lines : (LnOk x2_lines)) (h_x2_goods : (GdOk x2_goods)) (h_x2_works : (WkOk x2_works)) (h_x2_change : (AI 0 99 x2_change)) (h_x2_coin : (AI 0 9 x2_coin)) (h_x3_lineCount : (0 ≤ x3_lineCount ∧ x3_lineCount ≤ 20)) (h_x3_goodsCount : (0 ≤ x3_goodsCount ∧ x3_goodsCount ≤ 8)) (h_x3_workCount : (0 ≤ x3_workCount ∧ x3_workCount ≤ 7)) (h_x3_years : (1 ≤ x3_years ∧ x3_years ≤ 30)) (h_x3_lines : (LnOk x3_lines)) (h_x3_goods : (GdOk x3_goods)) (h_x3_works : (WkOk x3_works)) (h_x3_change : (AI 0 99 x3_change)) (h_x3_coin : (AI 0 9 x3_coin)) (h_x5_edgeA : (AI 0 35 x5_edgeA)) (h_x5_edgeB : (AI 0 35 x5_edgeB)) (h_x5_edgeLine : (AI 0 19 x5_edgeLine)) (h_x5_steps : (AI 0 22 x5_steps)) (h_x5_nodes : (AI 0 35 x5_nodes)) (h_x5_stepCount : (0 ≤ x5_stepCount ∧ x5_stepCount ≤ 36)) (h_x5_open : (AI 0 35 x5_open)) (h_x5_openCount : (0 ≤ x5_openCount ∧ x5_openCount ≤ 36)) (h_x5_edgeCount : (0 ≤ x5_edgeCount ∧ x5_edgeCount ≤ 60)) (h_m_shelf : (AI 0 2 m_shelf)) (h_m_rowSize : (AI 0 40 m_rowSize)) (h_m_tapeSize : (0 ≤ m_tapeSize ∧ m_tapeSize ≤ 250)) (h_m_lines : (0 ≤ m_lines ∧ m_lines ≤ 20)) (h_m_line : (LnM m_line)) (h_m_changes : (AI 0 99 m_changes)) (h_m_coins : (AI 0 9 m_coins)) (h_m_goods : (0 ≤ m_goods ∧ m_goods ≤ 8)) (h_m_good : (GdM m_good)) (h_m_works : (0 ≤ m_works ∧ m_works ≤ 7)) (h_m_work : (WkM m_work)) (h_m_years : (1 ≤ m_years ∧ m_years ≤ 30)) (h_m_from : (0 ≤ m_from ∧ m_from ≤ 250)) (h_m_far : (AI 0 1000000000 m_far)) (h_m_way : (AI 0 22 m_way)) (h_m_steps : (0 ≤ m_steps ∧ m_steps ≤ 37)) (h_m_queue : (AI 0 35 m_queue)) (h_t_shelf : (AI 0 2 t_shelf)) (h_t_rowSize : (AI 0 40 t_rowSize)) (h_t_tapeSize : (0 ≤ t_tapeSize ∧ t_tapeSize ≤ 250)) (h_t_lines : (0 ≤ t_lines ∧ t_lines ≤ 20)) (h_t_line : (LnM t_line)) (h_t_changes : (AI 0 99 t_changes)) (h_t_coins : (AI 0 9 t_coins)) (h_t_goods : (0 ≤ t_goods ∧ t_goods ≤ 8)) (h_t_good : (GdM t_good)) (h_t_works : (0 ≤ t_works ∧ t_works ≤ 7)) (h_t_work : (WkM t_work)) (h_t_years : (1 ≤ t_years ∧ t_years ≤ 30)) (h_t_from : (0 ≤ t_from ∧ t_from ≤ 250)) (h_t_far : (AI 0 1000000000 t_far)) (h_t_way : (AI 0 22 t_way)) (h_t_steps : (0 ≤ t_steps ∧ t_steps ≤ 37)) (h_t_queue : (AI 0 35 t_queue)) (hA : (LaD x3_lineCount x3_goodsCount x3_workCount x3_years x3_lines x3_goods x3_works x3_change x3_coin m_lines m_line m_changes m_coins m_goods m_good m_works m_work m_years)) (hk : Kn (FrS x3_lineCount (ro 7 x3_lines) x3_change x3_coin (ro 3 x3_goods) x3_goodsCount (ro 5 x3_works) x3_workCount) x3_knownFree x3_isKnown) (eqA : fX6_first n (x0_refused, x0_isKept, x0_gone, x0_spent) x1_gained (x2_lineCount, x2_goodsCount, x2_workCount, x2_years, x2_lines, x2_goods, x2_works, x2_change, x2_coin, x2_knownFree, x2_isKnown) (x3_lineCount, x3_goodsCount, x3_workCount, x3_years, x3_lines, x3_goods, x3_works, x3_change, x3_coin, x3_knownFree, x3_isKnown) (x4_left, x4_earned, x4_turnCost, x4_turnWayless) (x5_edgeA, x5_edgeB, x5_edgeCost, x5_edgeLine, x5_change, x5_away, x5_steps, x5_nodes, x5_stepCount, x5_open, x5_openCount, x5_seen, x5_edgeCount, x5_aim) = some (er, A6)) (eqB : fX7_first n (m_shelf, m_rowSort, m_rowSize, m_rows, m_moved, m_shown, m_tape, m_tapeSize, m_refused, m_lines, m_line, m_changes, m_coins, m_goods, m_good, m_works, m_work, m_years, m_gone, m_spent, m_at, m_token, m_from, m_figures, m_fault, m_numbers, m_statements, m_left, m_far, m_tons, m_way, m_steps, m_met, m_queue, m_totals) (t_shelf, t_rowSort, t_rowSize, t_rows, t_moved, t_shown, t_tape, t_tapeSize, t_refused, t_lines, t_line, t_changes, t_coins, t_goods, t_good, t_works, t_work, t_years, t_gone, t_spent, t_at, t_token, t_from, t_figures, t_fault, t_numbers, t_statements, t_left, t_far, t_tons, t_way, t_steps, t_met, t_queue, t_totals) = some (fr, B6)) : er = fr := by
  have a := ((kFirst hn h_x2_lineCount h_x2_goodsCount h_x2_workCount h_x2_years h_x2_lines h_x2_goods h_x2_works h_x2_change h_x2_coin h_x3_lineCount h_x3_goodsCount h_x3_workCount h_x3_years h_x3_lines h_x3_goods h_x3_works h_x3_change h_x3_coin h_x5_edgeA h_x5_edgeB h_x5_edgeLine h_x5_steps h_x5_nodes h_x5_stepCount h_x5_open h_x5_openCount h_x5_edgeCount hA.2.2.2.2.2.2 hk).at eqA).1
  obtain ⟨⟨z1, z2, z3, z4⟩, z5, z6, z7, z8, z9, z10⟩ := id hA
  have hS := hA.s
  subst z1 z2 z3 z4
  have hW : WfS x3_workCount.toNatClampNeg ((x3_lineCount, ro 7 x3_lines, x3_change), ro 5 x3_works) := ⟨h_x3_lineCount, z10⟩
  have hW2 := hW.congr hS
  have b := (firstR hn h_m_shelf h_m_rowSize h_m_tapeSize h_x3_lineCount h_m_line h_m_changes h_m_coins h_x3_goodsCount h_m_good h_x3_workCount h_m_work h_x3_years h_m_from h_m_far h_m_way h_m_steps h_m_queue h_t_shelf h_t_rowSize h_t_tapeSize h_t_lines h_t_line h_t_changes h_t_coins h_t_goods h_t_good h_t_works h_t_work h_t_years h_t_from h_t_far h_t_way h_t_steps h_t_queue hW2.2).at eqB
  have q := SEq.fir (coins := x3_coin) (coins' := m_coins) (good := ro 3 x3_goods) (good' := m_good) (G := x3_goodsCount) (yr := x3_years) hS hW z9 z6
  exact (a.trans q).trans b.symm
end
section
/-! worth: what it answers on both sides -/
theorem worthR {n : Nat} {x0_shelf : (Nat → Int32)} {x0_rowSort : (Nat → Int32)} {x0_rowSize : (Nat → Int32)} {x0_rows : (Nat → Nat → Int64)} {x0_moved : (Nat → Int64)} {x0_shown : (Nat → Int32)} {x0_tape : (Nat → Int32)} {x0_tapeSize : Int32} {x0_refused : (Nat → Int32)} {x0_lines : Int32} {x0_line : (Nat → Nat → Int32)} {x0_changes : (Nat → Int32)} {x0_coins : (Nat → Int32)} {x0_goods : Int32} {x0_good : (Nat → Nat → Int32)} {x0_works : Int32} {x0_work : (Nat → Nat → Int32)} {x0_years : Int32} {x0_gone : Int32} {x0_spent : Int32} {x0_at : Int32} {x0_token : Int32} {x0_from : Int32} {x0_figures : Int64} {x0_fault : Int32} {x0_numbers : (Nat → Int32)} {x0_statements : Int32} {x0_left : (Nat → Int32)} {x0_far : (Nat → Int32)} {x0_tons : Int32} {x0_way : (Nat → Int32)} {x0_steps : Int32} {x0_met : Int64} {x0_queue : (Nat → Int32)} {x0_totals : (Nat → Int32)} {x1_shelf : (Nat → Int32)} {x1_rowSort : (Nat → Int32)} {x1_rowSize : (Nat → Int32)} {x1_rows : (Nat → Nat → Int64)} {x1_moved : (Nat → Int64)} {x1_shown : (Nat → Int32)} {x1_tape : (Nat → Int32)} {x1_tapeSize : Int32} {x1_refused : (Nat → Int32)} {x1_lines : Int32} {x1_line : (Nat → Nat → Int32)} {x1_changes : (Nat → Int32)} {x1_coins : (Nat → Int32)} {x1_goods : Int32} {x1_good : (Nat → Nat → Int32)} {x1_works : Int32} {x1_work : (Nat → Nat → Int32)} {x1_years : Int32} {x1_gone : Int32} {x1_spent : Int32} {x1_at : Int32} {x1_token : Int32} {x1_from : Int32} {x1_figures : Int64} {x1_fault : Int32} {x1_numbers : (Nat → Int32)} {x1_statements : Int32} {x1_left : (Nat → Int32)} {x1_far : (Nat → Int32)} {x1_tons : Int32} {x1_way : (Nat → Int32)} {x1_steps : Int32} {x1_met : Int64} {x1_queue : (Nat → Int32)} {x1_totals : (Nat → Int32)} {p1 : Int32} (hn : 1000000000000 ≤ n) (h_x0_shelf : (AI 0 2 x0_shelf)) (h_x0_rowSize : (AI 0 40 x0_rowSize)) (h_x0_tapeSize : (0 ≤ x0_tapeSize ∧ x0_tapeSize ≤ 250)) (h_x0_lines : (0 ≤ x0_lines ∧ x0_lines ≤ 20)) (h_x0_line : (LnM x0_line)) (h_x0_changes : (AI 0 99 x0_changes)) (h_x0_coins : (AI 0 9 x0_coins)) (h_x0_goods : (0 ≤ x0_goods ∧ x0_goods ≤ 8)) (h_x0_good : (GdM x0_good)) (h_x0_works : (0 ≤ x0_works ∧ x0_works ≤ 7)) (h_x0_work : (WkM x0_work)) (h_x0_years : (1 ≤ x0_years ∧ x0_years ≤ 30)) (h_x0_from : (0 ≤ x0_from ∧ x0_from ≤ 250)) (h_x0_far : (AI 0 1000000000 x0_far)) (h_x0_way : (AI 0 22 x0_way)) (h_x0_steps : (0 ≤ x0_steps ∧ x0_steps ≤ 37)) (h_x0_queue : (AI 0 35 x0_queue)) (h_x1_shelf : (AI 0 2 x1_shelf)) (h_x1_rowSize : (AI 0 40 x1_rowSize)) (h_x1_tapeSize : (0 ≤ x1_tapeSize ∧ x1_tapeSize ≤ 250)) (h_x1_lines : (0 ≤ x1_lines ∧ x1_lines ≤ 20)) (h_x1_line : (LnM x1_line)) (h_x1_changes : (AI 0 99 x1_changes)) (h_x1_coins : (AI 0 9 x1_coins)) (h_x1_goods : (0 ≤ x1_goods ∧ x1_goods ≤ 8)) (h_x1_good : (GdM x1_good)) (h_x1_works : (0 ≤ x1_works ∧ x1_works ≤ 7)) (h_x1_work : (WkM x1_work)) (h_x1_years : (1 ≤ x1_years ∧ x1_years ≤ 30)) (h_x1_from : (0 ≤ x1_from ∧ x1_from ≤ 250)) (h_x1_far : (AI 0 1000000000 x1_far)) (h_x1_way : (AI 0 22 x1_way)) (h_x1_steps : (0 ≤ x1_steps ∧ x1_steps ≤ 37)) (h_x1_queue : (AI 0 35 x1_queue)) (hf : ∀ k, k < x0_works.toNatClampNeg → Wf1 x0_work x0_lines k) : Sf (fX7_worth n (x0_shelf, x0_rowSort, x0_rowSize, x0_rows, x0_moved, x0_shown, x0_tape, x0_tapeSize, x0_refused, x0_lines, x0_line, x0_changes, x0_coins, x0_goods, x0_good, x0_works, x0_work, x0_years, x0_gone, x0_spent, x0_at, x0_token, x0_from, x0_figures, x0_fault, x0_numbers, x0_statements, x0_left, x0_far, x0_tons, x0_way, x0_steps, x0_met, x0_queue, x0_totals) (x1_shelf, x1_rowSort, x1_rowSize, x1_rows, x1_moved, x1_shown, x1_tape, x1_tapeSize, x1_refused, x1_lines, x1_line, x1_changes, x1_coins, x1_goods, x1_good, x1_works, x1_work, x1_years, x1_gone, x1_spent, x1_at, x1_token, x1_from, x1_figures, x1_fault, x1_numbers, x1_statements, x1_left, x1_far, x1_tons, x1_way, x1_steps, x1_met, x1_queue, x1_totals) p1) (fun r => ((0 ≤ p1 ∧ p1.toNatClampNeg < x0_works.toNatClampNeg) ∧ x0_work p1.toNatClampNeg 4 = 0 ∧ r.1 = WoA (x0_lines, x0_line, x0_changes) x0_coins x0_good x0_goods x0_work x0_years p1.toNatClampNeg) ∨ (¬ (0 ≤ p1 ∧ p1.toNatClampNeg < x0_works.toNatClampNeg) ∧ r.1 = -1000002) ∨ ((0 ≤ p1 ∧ p1.toNatClampNeg < x0_works.toNatClampNeg) ∧ ¬ x0_work p1.toNatClampNeg 4 = 0 ∧ r.1 = -1000005)) := by
  unfold fX7_worth
  dsimp only [u35]
  refine Sf.bind (sX7_isWork h_x0_shelf h_x0_rowSize h_x0_tapeSize h_x0_lines h_x0_line h_x0_changes h_x0_coins h_x0_goods h_x0_good h_x0_works h_x0_work h_x0_years h_x0_from h_x0_far h_x0_way h_x0_steps h_x0_queue) (fun v1 h1 => Sf.ite (fun hz => ?_) (fun hz => ?_))
  · refine Sf.bind (sX7_refuse h_x0_shelf h_x0_rowSize h_x0_tapeSize h_x0_lines h_x0_line h_x0_changes h_x0_coins h_x0_goods h_x0_good h_x0_works h_x0_work h_x0_years h_x0_from h_x0_far h_x0_way h_x0_steps h_x0_queue (by decide)) ?_
    rintro ⟨v, g⟩ e
    have e : v = -2 := e
    refine Sf.ok (Or.inr (Or.inl ⟨fun h => ?_, (show v - 1000000 = -1000002 by rw [e]; decide)⟩))
    have q := (okK_lt h_x0_works h).1
    rcases h1 with h1 | h1
    · rw [h1.1] at hz; exact absurd hz (by decide)
    · exact h1.2 q
  have hp : 0 ≤ p1 ∧ p1 < x0_works := by
    rcases h1 with h | h
    · exact h.2
    · exact absurd h.1 hz
  have hpn : 0 ≤ p1 ∧ p1.toNatClampNeg < x0_works.toNatClampNeg := by
    have a := i32_cl hp.1
    have b := i32_cl h_x0_works.1
    have c := Int32.lt_iff_toInt_lt.mp hp.2
    exact ⟨hp.1, by omega⟩
  have hp6 := (okK_lt h_x0_works hpn).2
  refine Sf.ckb 7 rfl ⟨hp6.1, Int32.lt_of_le_of_lt hp6.2 (by decide)⟩ (fun q3 e3 _ => ?_)
  refine Sf.rdl 4 rfl rfl (fun v4 e4 => ?_)
  rw [e3] at e4
  have b4 : 0 ≤ v4 ∧ v4 ≤ 1 := by rw [e4]; exact h_x0_work.1 p1.toNatClampNeg 4
  refine Sf.ite (fun hv => ?_) (fun hv => ?_)
  · refine Sf.bind (sX7_refuse h_x0_shelf h_x0_rowSize h_x0_tapeSize h_x0_lines h_x0_line h_x0_changes h_x0_coins h_x0_goods h_x0_good h_x0_works h_x0_work h_x0_years h_x0_from h_x0_far h_x0_way h_x0_steps h_x0_queue (by decide)) ?_
    rintro ⟨v, g⟩ e
    have e : v = -5 := e
    refine Sf.ok (Or.inr (Or.inr ⟨hpn, fun h => ?_, (show v - 1000000 = -1000005 by rw [e]; decide)⟩))
    rw [← e4, hv] at h
    exact absurd h (by decide)
  · have h0 : x0_work p1.toNatClampNeg 4 = 0 := by
      rw [← e4]
      clear h1 e4 hf
      grind
    refine Sf.bind (worthOfR hn h_x0_shelf h_x0_rowSize h_x0_tapeSize h_x0_lines h_x0_line h_x0_changes h_x0_coins h_x0_goods h_x0_good h_x0_works h_x0_work h_x0_years h_x0_from h_x0_far h_x0_way h_x0_steps h_x0_queue h_x1_shelf h_x1_rowSize h_x1_tapeSize h_x1_lines h_x1_line h_x1_changes h_x1_coins h_x1_goods h_x1_good h_x1_works h_x1_work h_x1_years h_x1_from h_x1_far h_x1_way h_x1_steps h_x1_queue hp6 (hf _ hpn.2)) ?_
    rintro ⟨v5, g7, g8, g9, g10, g11, g12, g13, g14, g15, g16, g17, g18, g19, g20⟩ e5
    exact Sf.ok (Or.inl ⟨hpn, h0, e5⟩)
theorem dWorth {n : Nat} {x0_refused : (Nat → Int32)} {x0_isKept : Int32} {x0_gone : Int32} {x0_spent : Int32} {x1_gained : Nat → Int32} {x2_lineCount : Int32} {x2_goodsCount : Int32} {x2_workCount : Int32} {x2_years : Int32} {x2_lines : (Nat → Int32)} {x2_goods : (Nat → Int32)} {x2_works : (Nat → Int32)} {x2_change : (Nat → Int32)} {x2_coin : (Nat → Int32)} {x2_knownFree : (Nat → Int32)} {x2_isKnown : Int32} {x3_lineCount : Int32} {x3_goodsCount : Int32} {x3_workCount : Int32} {x3_years : Int32} {x3_lines : (Nat → Int32)} {x3_goods : (Nat → Int32)} {x3_works : (Nat → Int32)} {x3_change : (Nat → Int32)} {x3_coin : (Nat → Int32)} {x3_knownFree : (Nat → Int32)} {x3_isKnown : Int32} {x4_left : (Nat → Int32)} {x4_earned : (Nat → Int32)} {x4_turnCost : Int32} {x4_turnWayless : Int32} {x5_edgeA : (Nat → Int32)} {x5_edgeB : (Nat → Int32)} {x5_edgeCost : (Nat → Int32)} {x5_edgeLine : (Nat → Int32)} {x5_change : (Nat → Int32)} {x5_away : (Nat → Int32)} {x5_steps : (Nat → Int32)} {x5_nodes : (Nat → Int32)} {x5_stepCount : Int32} {x5_open : (Nat → Int32)} {x5_openCount : Int32} {x5_seen : Int64} {x5_edgeCount : Int32} {x5_aim : Int32} {m_shelf : (Nat → Int32)} {m_rowSort : (Nat → Int32)} {m_rowSize : (Nat → Int32)} {m_rows : (Nat → Nat → Int64)} {m_moved : (Nat → Int64)} {m_shown : (Nat → Int32)} {m_tape : (Nat → Int32)} {m_tapeSize : Int32} {m_refused : (Nat → Int32)} {m_lines : Int32} {m_line : (Nat → Nat → Int32)} {m_changes : (Nat → Int32)} {m_coins : (Nat → Int32)} {m_goods : Int32} {m_good : (Nat → Nat → Int32)} {m_works : Int32} {m_work : (Nat → Nat → Int32)} {m_years : Int32} {m_gone : Int32} {m_spent : Int32} {m_at : Int32} {m_token : Int32} {m_from : Int32} {m_figures : Int64} {m_fault : Int32} {m_numbers : (Nat → Int32)} {m_statements : Int32} {m_left : (Nat → Int32)} {m_far : (Nat → Int32)} {m_tons : Int32} {m_way : (Nat → Int32)} {m_steps : Int32} {m_met : Int64} {m_queue : (Nat → Int32)} {m_totals : (Nat → Int32)} {t_shelf : (Nat → Int32)} {t_rowSort : (Nat → Int32)} {t_rowSize : (Nat → Int32)} {t_rows : (Nat → Nat → Int64)} {t_moved : (Nat → Int64)} {t_shown : (Nat → Int32)} {t_tape : (Nat → Int32)} {t_tapeSize : Int32} {t_refused : (Nat → Int32)} {t_lines : Int32} {t_line : (Nat → Nat → Int32)} {t_changes : (Nat → Int32)} {t_coins : (Nat → Int32)} {t_goods : Int32} {t_good : (Nat → Nat → Int32)} {t_works : Int32} {t_work : (Nat → Nat → Int32)} {t_years : Int32} {t_gone : Int32} {t_spent : Int32} {t_at : Int32} {t_token : Int32} {t_from : Int32} {t_figures : Int64} {t_fault : Int32} {t_numbers : (Nat → Int32)} {t_statements : Int32} {t_left : (Nat → Int32)} {t_far : (Nat → Int32)} {t_tons : Int32} {t_way : (Nat → Int32)} {t_steps : Int32} {t_met : Int64} {t_queue : (Nat → Int32)} {t_totals : (Nat → Int32)} {p1 er fr : Int32} {A6 : (Nat → Int32) × (Int32 × Int32 × Int32 × Int32 × (Nat → Int32) × (Nat → Int32) × (Nat → Int32) × (Nat → Int32) × (Nat → Int32) × Int32) × (Int32 × (Nat → Int32) × (Nat → Int32) × (Nat → Int32) × Int32) × ((Nat → Int32) × (Nat → Int32) × (Nat → Int32) × (Nat → Int32) × (Nat → Int32) × (Nat → Int32) × Int32 × Int32)} {B6 : (Nat → Int32) × (Int32 × (Nat → Nat → Int32) × (Nat → Int32) × (Nat → Int32) × Int32 × (Nat → Nat → Int32) × Int32 × (Nat → Nat → Int32) × Int32 × Int32 × Int32 × (Nat → Int32) × (Nat → Int32) × Int32)} (hn : 1000000000000 ≤ n) (h_x2_lineCount : (0 ≤ x2_lineCount ∧ x2_lineCount ≤ 20)) (h_x2_goodsCount : (0 ≤ x2_goodsCount ∧ x2_goodsCount ≤ 8)) (h_x2_workCount : (0 ≤ x2_workCount ∧ x2_workCount ≤ 7)) (h_x2_years : (1 ≤ x2_years ∧ x2_years ≤ 30)) (h_x2_lines : (LnOk x2_lines)) (h_x2_goods : (GdOk x2_goods)) (h_x2_works : (WkOk x2_works)) (h_x2_change : (AI 0 99 x2_change)) (h_x2_coin : (AI 0 9 x2_coin)) (h_x3_lineCount : (0 ≤ x3_lineCount ∧ x3_lineCount ≤ 20)) (h_x3_goodsCount : (0 ≤ x3_goodsCount ∧ x3_goodsCount ≤ 8)) (h_x3_workCount : (0 ≤ x3_workCount ∧ x3_workCount ≤ 7)) (h_x3_years : (1 ≤ x3_years ∧ x3_years ≤ 30)) (h_x3_lines : (LnOk x3_lines)) (h_x3_goods : (GdOk x3_goods)) (h_x3_works : (WkOk x3_works)) (h_x3_change : (AI 0 99 x3_change)) (h_x3_coin : (AI 0 9 x3_coin)) (h_x5_edgeA : (AI 0 35 x5_edgeA)) (h_x5_edgeB : (AI 0 35 x5_edgeB)) (h_x5_edgeLine : (AI 0 19 x5_edgeLine)) (h_x5_steps : (AI 0 22 x5_steps)) (h_x5_nodes : (AI 0 35 x5_nodes)) (h_x5_stepCount : (0 ≤ x5_stepCount ∧ x5_stepCount ≤ 36)) (h_x5_open : (AI 0 35 x5_open)) (h_x5_openCount : (0 ≤ x5_openCount ∧ x5_openCount ≤ 36)) (h_x5_edgeCount : (0 ≤ x5_edgeCount ∧ x5_edgeCount ≤ 60)) (h_m_shelf : (AI 0 2 m_shelf)) (h_m_rowSize : (AI 0 40 m_rowSize)) (h_m_tapeSize : (0 ≤ m_tapeSize ∧ m_tapeSize ≤ 250)) (h_m_lines : (0 ≤ m_lines ∧ m_lines ≤ 20)) (h_m_line : (LnM m_line)) (h_m_changes : (AI 0 99 m_changes)) (h_m_coins : (AI 0 9 m_coins)) (h_m_goods : (0 ≤ m_goods ∧ m_goods ≤ 8)) (h_m_good : (GdM m_good)) (h_m_works : (0 ≤ m_works ∧ m_works ≤ 7)) (h_m_work : (WkM m_work)) (h_m_years : (1 ≤ m_years ∧ m_years ≤ 30)) (h_m_from : (0 ≤ m_from ∧ m_from ≤ 250)) (h_m_far : (AI 0 1000000000 m_far)) (h_m_way : (AI 0 22 m_way)) (h_m_steps : (0 ≤ m_steps ∧ m_steps ≤ 37)) (h_m_queue : (AI 0 35 m_queue)) (h_t_shelf : (AI 0 2 t_shelf)) (h_t_rowSize : (AI 0 40 t_rowSize)) (h_t_tapeSize : (0 ≤ t_tapeSize ∧ t_tapeSize ≤ 250)) (h_t_lines : (0 ≤ t_lines ∧ t_lines ≤ 20)) (h_t_line : (LnM t_line)) (h_t_changes : (AI 0 99 t_changes)) (h_t_coins : (AI 0 9 t_coins)) (h_t_goods : (0 ≤ t_goods ∧ t_goods ≤ 8)) (h_t_good : (GdM t_good)) (h_t_works : (0 ≤ t_works ∧ t_works ≤ 7)) (h_t_work : (WkM t_work)) (h_t_years : (1 ≤ t_years ∧ t_years ≤ 30)) (h_t_from : (0 ≤ t_from ∧ t_from ≤ 250)) (h_t_far : (AI 0 1000000000 t_far)) (h_t_way : (AI 0 22 t_way)) (h_t_steps : (0 ≤ t_steps ∧ t_steps ≤ 37)) (h_t_queue : (AI 0 35 t_queue)) (hA : (LaD x3_lineCount x3_goodsCount x3_workCount x3_years x3_lines x3_goods x3_works x3_change x3_coin m_lines m_line m_changes m_coins m_goods m_good m_works m_work m_years)) (hk : Kn (FrS x3_lineCount (ro 7 x3_lines) x3_change x3_coin (ro 3 x3_goods) x3_goodsCount (ro 5 x3_works) x3_workCount) x3_knownFree x3_isKnown) (eqA : fX6_worth n (x0_refused, x0_isKept, x0_gone, x0_spent) x1_gained (x2_lineCount, x2_goodsCount, x2_workCount, x2_years, x2_lines, x2_goods, x2_works, x2_change, x2_coin, x2_knownFree, x2_isKnown) (x3_lineCount, x3_goodsCount, x3_workCount, x3_years, x3_lines, x3_goods, x3_works, x3_change, x3_coin, x3_knownFree, x3_isKnown) (x4_left, x4_earned, x4_turnCost, x4_turnWayless) (x5_edgeA, x5_edgeB, x5_edgeCost, x5_edgeLine, x5_change, x5_away, x5_steps, x5_nodes, x5_stepCount, x5_open, x5_openCount, x5_seen, x5_edgeCount, x5_aim) p1 = some (er, A6)) (eqB : fX7_worth n (m_shelf, m_rowSort, m_rowSize, m_rows, m_moved, m_shown, m_tape, m_tapeSize, m_refused, m_lines, m_line, m_changes, m_coins, m_goods, m_good, m_works, m_work, m_years, m_gone, m_spent, m_at, m_token, m_from, m_figures, m_fault, m_numbers, m_statements, m_left, m_far, m_tons, m_way, m_steps, m_met, m_queue, m_totals) (t_shelf, t_rowSort, t_rowSize, t_rows, t_moved, t_shown, t_tape, t_tapeSize, t_refused, t_lines, t_line, t_changes, t_coins, t_goods, t_good, t_works, t_work, t_years, t_gone, t_spent, t_at, t_token, t_from, t_figures, t_fault, t_numbers, t_statements, t_left, t_far, t_tons, t_way, t_steps, t_met, t_queue, t_totals) p1 = some (fr, B6)) : er = fr := by
  have a := ((kWorth hn h_x2_lineCount h_x2_goodsCount h_x2_workCount h_x2_years h_x2_lines h_x2_goods h_x2_works h_x2_change h_x2_coin h_x3_lineCount h_x3_goodsCount h_x3_workCount h_x3_years h_x3_lines h_x3_goods h_x3_works h_x3_change h_x3_coin h_x5_edgeA h_x5_edgeB h_x5_edgeLine h_x5_steps h_x5_nodes h_x5_stepCount h_x5_open h_x5_openCount h_x5_edgeCount hA.2.2.2.2.2.2 hk).at eqA).1
  obtain ⟨⟨z1, z2, z3, z4⟩, z5, z6, z7, z8, z9, z10⟩ := id hA
  have hS := hA.s
  subst z1 z2 z3 z4
  have hW : WfS x3_workCount.toNatClampNeg ((x3_lineCount, ro 7 x3_lines, x3_change), ro 5 x3_works) := ⟨h_x3_lineCount, z10⟩
  have hW2 := hW.congr hS
  have b := (worthR hn h_m_shelf h_m_rowSize h_m_tapeSize h_x3_lineCount h_m_line h_m_changes h_m_coins h_x3_goodsCount h_m_good h_x3_workCount h_m_work h_x3_years h_m_from h_m_far h_m_way h_m_steps h_m_queue h_t_shelf h_t_rowSize h_t_tapeSize h_t_lines h_t_line h_t_changes h_t_coins h_t_goods h_t_good h_t_works h_t_work h_t_years h_t_from h_t_far h_t_way h_t_steps h_t_queue hW2.2).at eqB
  rcases a with ⟨a1, a2, a3⟩ | ⟨a1, a2⟩ | ⟨a1, a2, a3⟩ <;> rcases b with ⟨b1, b2, b3⟩ | ⟨b1, b2⟩ | ⟨b1, b2, b3⟩
  · exact (a3.trans (WoA_congr hS.1 h_x3_lineCount z9 z6 (z7 _ a1.2) (z10 _ a1.2))).trans b3.symm
  · exact absurd a1 b1
  · rw [z7 _ a1.2 4 (by decide)] at a2; exact absurd a2 b2
  · exact absurd b1 a1
  · exact a2.trans b2.symm
  · exact absurd b1 a1
  · rw [z7 _ a1.2 4 (by decide)] at a2; exact absurd b2 a2
  · exact absurd a1 b1
  · exact a3.trans b3.symm
end
section
/-! total: the reference's, and alike -/
theorem doU_L {work : Nat → Nat → Int32} {s : Int32} {A : Ab} (h0 : 0 ≤ A.1 ∧ A.1 ≤ 20) : ∀ K : Nat, A.1 ≤ (doU work s K A).1 ∧ 0 ≤ (doU work s K A).1 ∧ (doU work s K A).1 ≤ 20
  | 0 => ⟨Int32.le_refl _, h0⟩
  | K + 1 => by
    have ih := doU_L h0 (s := s) (work := work) K
    show A.1 ≤ (if tq s K = true ∧ work K 4 = 0 then doA work K (doU work s K A) else doU work s K A).1 ∧ 0 ≤ (if tq s K = true ∧ work K 4 = 0 then doA work K (doU work s K A) else doU work s K A).1 ∧ (if tq s K = true ∧ work K 4 = 0 then doA work K (doU work s K A) else doU work s K A).1 ≤ 20
    by_cases hb : tq s K = true ∧ work K 4 = 0
    · rw [if_pos hb]
      have q := doA_L (work := work) (k := K) ih.2
      exact ⟨Int32.le_trans ih.1 q.1, q.2⟩
    · rw [if_neg hb]
      exact ih
theorem doU_congr {work work' : Nat → Nat → Int32} {s : Int32} {A B : Ab} (h : AbEq A B) (h0 : 0 ≤ A.1 ∧ A.1 ≤ 20) : ∀ K : Nat, (∀ k, k < K → ∀ c, c < 5 → work k c = work' k c) → (∀ k, k < K → Wf1 work A.1 k) → AbEq (doU work s K A) (doU work' s K B)
  | 0, _, _ => h
  | K + 1, hw, hf => by
    have ih := doU_congr h h0 K (fun k hk => hw k (by omega)) (fun k hk => hf k (by omega)) (s := s)
    show AbEq (if tq s K = true ∧ work K 4 = 0 then doA work K (doU work s K A) else doU work s K A) (if tq s K = true ∧ work' K 4 = 0 then doA work' K (doU work' s K B) else doU work' s K B)
    rw [← hw K (by omega) 4 (by decide)]
    have q := doU_L h0 (s := s) (work := work) K
    by_cases hb : tq s K = true ∧ work K 4 = 0
    · rw [if_pos hb, if_pos hb]
      exact doA_congr ih (fun c hc => hw K (by omega) c (by omega)) ((hf K (by omega)).mono q.1) q.2
    · rw [if_neg hb, if_neg hb]
      exact ih
theorem TotA_congr {A B : Ab} {coins coins' : Nat → Int32} {good good' : Nat → Nat → Int32} {G : Int32} {work work' : Nat → Nat → Int32} {W yr s : Int32} (h : AbEq A B) (h0 : 0 ≤ A.1 ∧ A.1 ≤ 20) (hco : ∀ w, w < 3 → coins w = coins' w) (hg : ∀ g, g < G.toNatClampNeg → ∀ c, c < 3 → good g c = good' g c) (hw : ∀ k, k < W.toNatClampNeg → ∀ c, c < 5 → work k c = work' k c) (hf : ∀ k, k < W.toNatClampNeg → Wf1 work A.1 k) : TotA A coins good G work W yr s = TotA B coins' good' G work' W yr s := by
  unfold TotA
  rw [FrA_congr (doU_congr h h0 _ hw hf) hco hg, sm_congr (f := cnU work s) (g := cnU work' s) _ (fun k hk => by unfold cnU; rw [hw k hk 3 (by decide), hw k hk 4 (by decide)])]
theorem totalOfR {n : Nat} {x0_shelf : (Nat → Int32)} {x0_rowSort : (Nat → Int32)} {x0_rowSize : (Nat → Int32)} {x0_rows : (Nat → Nat → Int64)} {x0_moved : (Nat → Int64)} {x0_shown : (Nat → Int32)} {x0_tape : (Nat → Int32)} {x0_tapeSize : Int32} {x0_refused : (Nat → Int32)} {x0_lines : Int32} {x0_line : (Nat → Nat → Int32)} {x0_changes : (Nat → Int32)} {x0_coins : (Nat → Int32)} {x0_goods : Int32} {x0_good : (Nat → Nat → Int32)} {x0_works : Int32} {x0_work : (Nat → Nat → Int32)} {x0_years : Int32} {x0_gone : Int32} {x0_spent : Int32} {x0_at : Int32} {x0_token : Int32} {x0_from : Int32} {x0_figures : Int64} {x0_fault : Int32} {x0_numbers : (Nat → Int32)} {x0_statements : Int32} {x0_left : (Nat → Int32)} {x0_far : (Nat → Int32)} {x0_tons : Int32} {x0_way : (Nat → Int32)} {x0_steps : Int32} {x0_met : Int64} {x0_queue : (Nat → Int32)} {x0_totals : (Nat → Int32)} {x1_shelf : (Nat → Int32)} {x1_rowSort : (Nat → Int32)} {x1_rowSize : (Nat → Int32)} {x1_rows : (Nat → Nat → Int64)} {x1_moved : (Nat → Int64)} {x1_shown : (Nat → Int32)} {x1_tape : (Nat → Int32)} {x1_tapeSize : Int32} {x1_refused : (Nat → Int32)} {x1_lines : Int32} {x1_line : (Nat → Nat → Int32)} {x1_changes : (Nat → Int32)} {x1_coins : (Nat → Int32)} {x1_goods : Int32} {x1_good : (Nat → Nat → Int32)} {x1_works : Int32} {x1_work : (Nat → Nat → Int32)} {x1_years : Int32} {x1_gone : Int32} {x1_spent : Int32} {x1_at : Int32} {x1_token : Int32} {x1_from : Int32} {x1_figures : Int64} {x1_fault : Int32} {x1_numbers : (Nat → Int32)} {x1_statements : Int32} {x1_left : (Nat → Int32)} {x1_far : (Nat → Int32)} {x1_tons : Int32} {x1_way : (Nat → Int32)} {x1_steps : Int32} {x1_met : Int64} {x1_queue : (Nat → Int32)} {x1_totals : (Nat → Int32)} {p1 : Int32} (hn : 1000000000000 ≤ n) (h_x0_shelf : (AI 0 2 x0_shelf)) (h_x0_rowSize : (AI 0 40 x0_rowSize)) (h_x0_tapeSize : (0 ≤ x0_tapeSize ∧ x0_tapeSize ≤ 250)) (h_x0_lines : (0 ≤ x0_lines ∧ x0_lines ≤ 20)) (h_x0_line : (LnM x0_line)) (h_x0_changes : (AI 0 99 x0_changes)) (h_x0_coins : (AI 0 9 x0_coins)) (h_x0_goods : (0 ≤ x0_goods ∧ x0_goods ≤ 8)) (h_x0_good : (GdM x0_good)) (h_x0_works : (0 ≤ x0_works ∧ x0_works ≤ 7)) (h_x0_work : (WkM x0_work)) (h_x0_years : (1 ≤ x0_years ∧ x0_years ≤ 30)) (h_x0_from : (0 ≤ x0_from ∧ x0_from ≤ 250)) (h_x0_far : (AI 0 1000000000 x0_far)) (h_x0_way : (AI 0 22 x0_way)) (h_x0_steps : (0 ≤ x0_steps ∧ x0_steps ≤ 37)) (h_x0_queue : (AI 0 35 x0_queue)) (h_x1_shelf : (AI 0 2 x1_shelf)) (h_x1_rowSize : (AI 0 40 x1_rowSize)) (h_x1_tapeSize : (0 ≤ x1_tapeSize ∧ x1_tapeSize ≤ 250)) (h_x1_lines : (0 ≤ x1_lines ∧ x1_lines ≤ 20)) (h_x1_line : (LnM x1_line)) (h_x1_changes : (AI 0 99 x1_changes)) (h_x1_coins : (AI 0 9 x1_coins)) (h_x1_goods : (0 ≤ x1_goods ∧ x1_goods ≤ 8)) (h_x1_good : (GdM x1_good)) (h_x1_works : (0 ≤ x1_works ∧ x1_works ≤ 7)) (h_x1_work : (WkM x1_work)) (h_x1_years : (1 ≤ x1_years ∧ x1_years ≤ 30)) (h_x1_from : (0 ≤ x1_from ∧ x1_from ≤ 250)) (h_x1_far : (AI 0 1000000000 x1_far)) (h_x1_way : (AI 0 22 x1_way)) (h_x1_steps : (0 ≤ x1_steps ∧ x1_steps ≤ 37)) (h_x1_queue : (AI 0 35 x1_queue)) (hf : ∀ k, k < x0_works.toNatClampNeg → Wf1 x0_work x0_lines k) : Sf (fX7_totalOf n (x0_shelf, x0_rowSort, x0_rowSize, x0_rows, x0_moved, x0_shown, x0_tape, x0_tapeSize, x0_refused, x0_lines, x0_line, x0_changes, x0_coins, x0_goods, x0_good, x0_works, x0_work, x0_years, x0_gone, x0_spent, x0_at, x0_token, x0_from, x0_figures, x0_fault, x0_numbers, x0_statements, x0_left, x0_far, x0_tons, x0_way, x0_steps, x0_met, x0_queue, x0_totals) (x1_shelf, x1_rowSort, x1_rowSize, x1_rows, x1_moved, x1_shown, x1_tape, x1_tapeSize, x1_refused, x1_lines, x1_line, x1_changes, x1_coins, x1_goods, x1_good, x1_works, x1_work, x1_years, x1_gone, x1_spent, x1_at, x1_token, x1_from, x1_figures, x1_fault, x1_numbers, x1_statements, x1_left, x1_far, x1_tons, x1_way, x1_steps, x1_met, x1_queue, x1_totals) p1) (fun r => r.1 = TotA (x0_lines, x0_line, x0_changes) x0_coins x0_good x0_goods x0_work x0_works x0_years p1) := by
  unfold fX7_totalOf
  dsimp only [u35]
  refine Sf.bind (Sf.and (sX7_fresh hn h_x0_shelf h_x0_rowSize h_x0_tapeSize h_x0_lines h_x0_line h_x0_changes h_x0_coins h_x0_goods h_x0_good h_x0_works h_x0_work h_x0_years h_x0_from h_x0_far h_x0_way h_x0_steps h_x0_queue h_x1_shelf h_x1_rowSize h_x1_tapeSize h_x1_lines h_x1_line h_x1_changes h_x1_coins h_x1_goods h_x1_good h_x1_works h_x1_work h_x1_years h_x1_from h_x1_far h_x1_way h_x1_steps h_x1_queue) (freshR hn)) ?_
  rintro ⟨g2, g3, g4, g5, g6, g7, g8, g9, g10, g11, g12⟩ ⟨⟨b1, b2, b3, b4, b5, b6, b7, b8, b9⟩, s1, s2, s3, s4, s5, s6, s7, s8, s9, _, _⟩
  have s1 : g2 = x0_lines := s1
  have s2 : ∀ l, l < 20 → ∀ c, c < 7 → g3 l c = x0_line l c := s2
  have s3 : ∀ p, p < 12 → g4 p = x0_changes p := s3
  have s4 : ∀ w, w < 3 → g5 w = x0_coins w := s4
  have s5 : g6 = x0_goods := s5
  have s6 : ∀ g, g < 8 → ∀ c, c < 3 → g7 g c = x0_good g c := s6
  have s8 : ∀ k, k < 7 → ∀ c, c < 5 → g9 k c = x0_work k c := s8
  have b1 : 0 ≤ g2 ∧ g2 ≤ 20 := b1
  have b2 : LnM g3 := b2
  have b3 : AI 0 99 g4 := b3
  have b8 : WkM g9 := b8
  have hL := nlt (M := 20) (N := 20) rfl h_x0_lines
  have hG := nlt (M := 8) (N := 8) rfl h_x0_goods
  have hW7 := nlt (M := 7) (N := 7) rfl h_x0_works
  subst s1 s5
  try dsimp only [u11]
  have hf9 : ∀ k, k < x0_works.toNatClampNeg → Wf1 g9 g2 k := fun k hk => (hf k hk).congr (fun c hc => (s8 k (by omega) c (by omega)).symm)
  refine Sf.bind (P := fun r : Int32 × Int32 × (Nat → Nat → Int32) × (Nat → Int32) × (Nat → Nat → Int32) => ((0 ≤ r.2.1 ∧ r.2.1 ≤ 20) ∧ LnM r.2.2.1 ∧ AI 0 99 r.2.2.2.1 ∧ WkM r.2.2.2.2) ∧ r.1 = sm (cnU g9 p1) x0_works.toNatClampNeg ∧ AbEq (r.2.1, r.2.2.1, r.2.2.2.1) (doU g9 p1 x0_works.toNatClampNeg (g2, g3, g4))) ?_ ?_
  · refine Sf.loop6 (fun (z15 z16 z17 : Int32) (z18 : Nat → Nat → Int32) (z19 : Nat → Int32) (z20 : Nat → Nat → Int32) => (0 ≤ z16 ∧ z16 ≤ x0_works) ∧ ((0 ≤ z17 ∧ z17 ≤ 20) ∧ LnM z18 ∧ AI 0 99 z19 ∧ WkM z20) ∧ z15 = sm (cnU g9 p1) z16.toNatClampNeg ∧ AbEq (z17, z18, z19) (doU g9 p1 z16.toNatClampNeg (g2, g3, g4)) ∧ ∀ j, z16.toNatClampNeg ≤ j → z20 j = g9 j) (fun z15 z16 z17 z18 z19 z20 => muUp z16) (fun z15 z16 z17 z18 z19 z20 h => ?_) (show (0 ≤ (0 : Int32) ∧ (0 : Int32) ≤ x0_works) ∧ ((0 ≤ g2 ∧ g2 ≤ 20) ∧ LnM g3 ∧ AI 0 99 g4 ∧ WkM g9) ∧ (0 : Int32) = sm (cnU g9 p1) (0 : Int32).toNatClampNeg ∧ AbEq (g2, g3, g4) (doU g9 p1 (0 : Int32).toNatClampNeg (g2, g3, g4)) ∧ ∀ j, (0 : Int32).toNatClampNeg ≤ j → g9 j = g9 j from ⟨⟨by decide, h_x0_works.1⟩, ⟨b1, b2, b3, b8⟩, rfl, AbEq.refl _, fun _ _ => rfl⟩) (muUp_n hn)
    obtain ⟨i0, ⟨l1, l2, l3, l4⟩, i1, i2, i3⟩ := h
    unfold fX7_totalOf_s10
    refine Sf.ite (fun hc => ?_) (fun hc => ?_)
    · have e : z16 = x0_works := Int32.le_antisymm i0.2 hc
      rw [e] at i1 i2
      exact Sf.inr ⟨⟨l1, l2, l3, l4⟩, i1, i2⟩
    obtain ⟨p0, p1', p3⟩ := up1 i0.1 (Int32.le_trans h_x0_works.2 (by decide)) hc
    have hz1 : z16 + 1 ≤ x0_works := by clear i1 i2 i3 hf hf9; grind
    have hz6 : 0 ≤ z16 ∧ z16 ≤ 6 := ⟨i0.1, by clear i1 i2 i3 hf hf9; grind⟩
    have hz30 : 0 ≤ z16 ∧ z16 ≤ 30 := ⟨i0.1, Int32.le_trans hz6.2 (by decide)⟩
    have hzn : z16.toNatClampNeg < x0_works.toNatClampNeg := by
      have a := i32_cl i0.1
      have b := i32_cl h_x0_works.1
      have c := Int32.lt_iff_toInt_lt.mp p3
      omega
    have hi : 0 ≤ z16 ∧ z16 < 7 := ⟨hz6.1, Int32.lt_of_le_of_lt hz6.2 (by decide)⟩
    have row : z20 z16.toNatClampNeg = g9 z16.toNatClampNeg := i3 _ (Nat.le_refl _)
    have nx1 : sm (cnU g9 p1) (z16 + 1).toNatClampNeg = z15 + cnU g9 p1 z16.toNatClampNeg := by
      rw [p1', i1]
      rfl
    have nx2 : doU g9 p1 (z16 + 1).toNatClampNeg (g2, g3, g4) = if tq p1 z16.toNatClampNeg = true ∧ g9 z16.toNatClampNeg 4 = 0 then doA g9 z16.toNatClampNeg (doU g9 p1 z16.toNatClampNeg (g2, g3, g4)) else doU g9 p1 z16.toNatClampNeg (g2, g3, g4) := by
      rw [p1']
      rfl
    have i3' : ∀ j, (z16 + 1).toNatClampNeg ≤ j → z20 j = g9 j := fun j hj => i3 j (by omega)
    have keep : ¬ (tq p1 z16.toNatClampNeg = true ∧ g9 z16.toNatClampNeg 4 = 0) → (0 ≤ z16 + 1 ∧ z16 + 1 ≤ x0_works) ∧ ((0 ≤ z17 ∧ z17 ≤ 20) ∧ LnM z18 ∧ AI 0 99 z19 ∧ WkM z20) ∧ z15 = sm (cnU g9 p1) (z16 + 1).toNatClampNeg ∧ AbEq (z17, z18, z19) (doU g9 p1 (z16 + 1).toNatClampNeg (g2, g3, g4)) ∧ ∀ j, (z16 + 1).toNatClampNeg ≤ j → z20 j = g9 j := by
      intro hno
      refine ⟨⟨p0, hz1⟩, ⟨l1, l2, l3, l4⟩, ?_, ?_, i3'⟩
      · rw [nx1]
        unfold cnU
        rw [if_neg hno, Int32.add_zero]
      · rw [nx2, if_neg hno]
        exact i2
    refine Sf.ite (fun hb => Sf.inl (keep (fun h => by rw [(bit_at hz30).mp hb] at h; exact absurd h.1 (by decide))) (muUp_lt hc)) (fun hb => ?_)
    have hb : tq p1 z16.toNatClampNeg = true := by
      cases hq : tq p1 z16.toNatClampNeg with
      | true => rfl
      | false => exact absurd ((bit_at hz30).mpr hq) hb
    refine Sf.ckb 7 rfl hi (fun q32 e32 _ => ?_)
    refine Sf.rdl 4 rfl rfl (fun v33 e33 => ?_)
    rw [e32, row] at e33
    refine Sf.ite (fun hv => ?_) (fun hv => Sf.inl (keep (fun h => hv (e33.trans h.2))) (muUp_lt hc))
    rw [e33] at hv
    refine Sf.ckb 7 rfl hi (fun q34 e34 _ => ?_)
    refine Sf.rdl 3 rfl rfl (fun v35 e35 => ?_)
    rw [e34, row] at e35
    refine Sf.bind (Sf.and (sX7_does h_x1_shelf h_x1_rowSize h_x1_tapeSize l1 l2 l3 b4 b5 b6 b7 l4 b9 h_x1_from h_x1_far h_x1_way h_x1_steps h_x1_queue hz6) (doesR l1 l4 hz6)) ?_
    rintro ⟨g36, g37, g38, g39⟩ ⟨⟨d1, d2, d3, d4, _⟩, e36, e39⟩
    have e36 : AbEq (g36, g37, g38) (doA z20 z16.toNatClampNeg (z17, z18, z19)) := e36
    have e39 : g39 = va_up z20 z16.toNatClampNeg (va_up (z20 z16.toNatClampNeg) 4 1) := e39
    try dsimp only [u4]
    have qL := doU_L (work := g9) (s := p1) (A := (g2, g3, g4)) b1 z16.toNatClampNeg
    have eL : z17 = (doU g9 p1 z16.toNatClampNeg (g2, g3, g4)).1 := i2.1
    have hw1 : Wf1 z20 z17 z16.toNatClampNeg := ((hf9 _ hzn).congr (fun c _ => by rw [row])).mono (by rw [eL]; exact qL.1)
    refine Sf.inl (show (0 ≤ z16 + 1 ∧ z16 + 1 ≤ x0_works) ∧ ((0 ≤ g36 ∧ g36 ≤ 20) ∧ LnM g37 ∧ AI 0 99 g38 ∧ WkM g39) ∧ z15 + v35 = sm (cnU g9 p1) (z16 + 1).toNatClampNeg ∧ AbEq (g36, g37, g38) (doU g9 p1 (z16 + 1).toNatClampNeg (g2, g3, g4)) ∧ ∀ j, (z16 + 1).toNatClampNeg ≤ j → g39 j = g9 j from ⟨⟨p0, hz1⟩, ⟨d1, d2, d3, d4⟩, ?_, ?_, fun j hj => ?_⟩) (muUp_lt hc)
    · rw [nx1, e35]
      unfold cnU
      rw [if_pos ⟨hb, hv⟩]
    · rw [nx2, if_pos ⟨hb, hv⟩]
      exact AbEq.trans e36 (doA_congr i2 (fun c _ => by rw [row]) hw1 l1)
    · rw [e39, va_ne _ _ (by omega)]
      exact i3' j hj
  · rintro ⟨w22, w23, w24, w25, w26⟩ ⟨⟨l1, l2, l3, l4⟩, h1, h2⟩
    have h1 : w22 = _ := h1
    have h2 : AbEq (w23, w24, w25) _ := h2
    try dsimp only [u5]
    refine Sf.bind (freeR hn h_x1_shelf h_x1_rowSize h_x1_tapeSize l1 l2 l3 b4 b5 b6 b7 l4 b9 h_x1_from h_x1_far h_x1_way h_x1_steps h_x1_queue) ?_
    rintro ⟨v27, g28, g29, g30⟩ e27
    have e27 : v27 = FrA (w23, w24, w25) g5 g7 g6 := e27
    refine Sf.ok ?_
    show w22 + x0_years * v27 = _
    have hA : AbEq (g2, g3, g4) (g2, x0_line, x0_changes) := ⟨rfl, fun l hl c hc => s2 l (Nat.lt_of_lt_of_le hl hL) c hc, s3⟩
    have q := TotA_congr (W := x0_works) (yr := x0_years) (s := p1) hA b1 s4 (fun g hg c hc => s6 g (Nat.lt_of_lt_of_le hg hG) c hc) (fun k hk c hc => s8 k (by omega) c hc) hf9
    rw [← q, h1, e27, FrA_congr h2 (fun _ _ => rfl) (fun _ _ _ _ => rfl)]
    unfold TotA
    rw [Int32.add_comm]
end
section
/-! total: alike -/
theorem totalR {n : Nat} {x0_shelf : (Nat → Int32)} {x0_rowSort : (Nat → Int32)} {x0_rowSize : (Nat → Int32)} {x0_rows : (Nat → Nat → Int64)} {x0_moved : (Nat → Int64)} {x0_shown : (Nat → Int32)} {x0_tape : (Nat → Int32)} {x0_tapeSize : Int32} {x0_refused : (Nat → Int32)} {x0_lines : Int32} {x0_line : (Nat → Nat → Int32)} {x0_changes : (Nat → Int32)} {x0_coins : (Nat → Int32)} {x0_goods : Int32} {x0_good : (Nat → Nat → Int32)} {x0_works : Int32} {x0_work : (Nat → Nat → Int32)} {x0_years : Int32} {x0_gone : Int32} {x0_spent : Int32} {x0_at : Int32} {x0_token : Int32} {x0_from : Int32} {x0_figures : Int64} {x0_fault : Int32} {x0_numbers : (Nat → Int32)} {x0_statements : Int32} {x0_left : (Nat → Int32)} {x0_far : (Nat → Int32)} {x0_tons : Int32} {x0_way : (Nat → Int32)} {x0_steps : Int32} {x0_met : Int64} {x0_queue : (Nat → Int32)} {x0_totals : (Nat → Int32)} {x1_shelf : (Nat → Int32)} {x1_rowSort : (Nat → Int32)} {x1_rowSize : (Nat → Int32)} {x1_rows : (Nat → Nat → Int64)} {x1_moved : (Nat → Int64)} {x1_shown : (Nat → Int32)} {x1_tape : (Nat → Int32)} {x1_tapeSize : Int32} {x1_refused : (Nat → Int32)} {x1_lines : Int32} {x1_line : (Nat → Nat → Int32)} {x1_changes : (Nat → Int32)} {x1_coins : (Nat → Int32)} {x1_goods : Int32} {x1_good : (Nat → Nat → Int32)} {x1_works : Int32} {x1_work : (Nat → Nat → Int32)} {x1_years : Int32} {x1_gone : Int32} {x1_spent : Int32} {x1_at : Int32} {x1_token : Int32} {x1_from : Int32} {x1_figures : Int64} {x1_fault : Int32} {x1_numbers : (Nat → Int32)} {x1_statements : Int32} {x1_left : (Nat → Int32)} {x1_far : (Nat → Int32)} {x1_tons : Int32} {x1_way : (Nat → Int32)} {x1_steps : Int32} {x1_met : Int64} {x1_queue : (Nat → Int32)} {x1_totals : (Nat → Int32)} {p1 : Int32} (hn : 1000000000000 ≤ n) (h_x0_shelf : (AI 0 2 x0_shelf)) (h_x0_rowSize : (AI 0 40 x0_rowSize)) (h_x0_tapeSize : (0 ≤ x0_tapeSize ∧ x0_tapeSize ≤ 250)) (h_x0_lines : (0 ≤ x0_lines ∧ x0_lines ≤ 20)) (h_x0_line : (LnM x0_line)) (h_x0_changes : (AI 0 99 x0_changes)) (h_x0_coins : (AI 0 9 x0_coins)) (h_x0_goods : (0 ≤ x0_goods ∧ x0_goods ≤ 8)) (h_x0_good : (GdM x0_good)) (h_x0_works : (0 ≤ x0_works ∧ x0_works ≤ 7)) (h_x0_work : (WkM x0_work)) (h_x0_years : (1 ≤ x0_years ∧ x0_years ≤ 30)) (h_x0_from : (0 ≤ x0_from ∧ x0_from ≤ 250)) (h_x0_far : (AI 0 1000000000 x0_far)) (h_x0_way : (AI 0 22 x0_way)) (h_x0_steps : (0 ≤ x0_steps ∧ x0_steps ≤ 37)) (h_x0_queue : (AI 0 35 x0_queue)) (h_x1_shelf : (AI 0 2 x1_shelf)) (h_x1_rowSize : (AI 0 40 x1_rowSize)) (h_x1_tapeSize : (0 ≤ x1_tapeSize ∧ x1_tapeSize ≤ 250)) (h_x1_lines : (0 ≤ x1_lines ∧ x1_lines ≤ 20)) (h_x1_line : (LnM x1_line)) (h_x1_changes : (AI 0 99 x1_changes)) (h_x1_coins : (AI 0 9 x1_coins)) (h_x1_goods : (0 ≤ x1_goods ∧ x1_goods ≤ 8)) (h_x1_good : (GdM x1_good)) (h_x1_works : (0 ≤ x1_works ∧ x1_works ≤ 7)) (h_x1_work : (WkM x1_work)) (h_x1_years : (1 ≤ x1_years ∧ x1_years ≤ 30)) (h_x1_from : (0 ≤ x1_from ∧ x1_from ≤ 250)) (h_x1_far : (AI 0 1000000000 x1_far)) (h_x1_way : (AI 0 22 x1_way)) (h_x1_steps : (0 ≤ x1_steps ∧ x1_steps ≤ 37)) (h_x1_queue : (AI 0 35 x1_queue)) (hf : ∀ k, k < x0_works.toNatClampNeg → Wf1 x0_work x0_lines k) : Sf (fX7_total n (x0_shelf, x0_rowSort, x0_rowSize, x0_rows, x0_moved, x0_shown, x0_tape, x0_tapeSize, x0_refused, x0_lines, x0_line, x0_changes, x0_coins, x0_goods, x0_good, x0_works, x0_work, x0_years, x0_gone, x0_spent, x0_at, x0_token, x0_from, x0_figures, x0_fault, x0_numbers, x0_statements, x0_left, x0_far, x0_tons, x0_way, x0_steps, x0_met, x0_queue, x0_totals) (x1_shelf, x1_rowSort, x1_rowSize, x1_rows, x1_moved, x1_shown, x1_tape, x1_tapeSize, x1_refused, x1_lines, x1_line, x1_changes, x1_coins, x1_goods, x1_good, x1_works, x1_work, x1_years, x1_gone, x1_spent, x1_at, x1_token, x1_from, x1_figures, x1_fault, x1_numbers, x1_statements, x1_left, x1_far, x1_tons, x1_way, x1_steps, x1_met, x1_queue, x1_totals) p1) (fun r => AP (0 ≤ p1 ∧ p1 ≤ ((1 : Int32) <<< (x0_works &&& 31)) - 1) r.1 (r.1 = TotA (x0_lines, x0_line, x0_changes) x0_coins x0_good x0_goods x0_work x0_works x0_years p1) True) := by
  unfold fX7_total
  dsimp only [u35]
  refine Sf.bind (s_inq p1 0 (((1 : Int32) <<< (x0_works &&& 31)) - 1) (by decide) rfl) (fun v1 h1 => Sf.ite (fun hz => ?_) (fun hz => ?_))
  · refine Sf.bind (sX7_refuse h_x0_shelf h_x0_rowSize h_x0_tapeSize h_x0_lines h_x0_line h_x0_changes h_x0_coins h_x0_goods h_x0_good h_x0_works h_x0_work h_x0_years h_x0_from h_x0_far h_x0_way h_x0_steps h_x0_queue (by decide)) ?_
    rintro ⟨v, g⟩ e
    exact Sf.ok (Or.inr ⟨gd0 h1 hz, e, trivial⟩)
  · refine Sf.bind (totalOfR hn h_x0_shelf h_x0_rowSize h_x0_tapeSize h_x0_lines h_x0_line h_x0_changes h_x0_coins h_x0_goods h_x0_good h_x0_works h_x0_work h_x0_years h_x0_from h_x0_far h_x0_way h_x0_steps h_x0_queue h_x1_shelf h_x1_rowSize h_x1_tapeSize h_x1_lines h_x1_line h_x1_changes h_x1_coins h_x1_goods h_x1_good h_x1_works h_x1_work h_x1_years h_x1_from h_x1_far h_x1_way h_x1_steps h_x1_queue hf) ?_
    rintro ⟨v6, g8, g9, g10, g11, g12, g13, g14, g15, g16, g17, g18, g19, g20, g21⟩ e
    exact Sf.ok (Or.inl ⟨gd1 h1 hz, e⟩)
theorem dTotal {n : Nat} {x0_refused : (Nat → Int32)} {x0_isKept : Int32} {x0_gone : Int32} {x0_spent : Int32} {x1_gained : Nat → Int32} {x2_lineCount : Int32} {x2_goodsCount : Int32} {x2_workCount : Int32} {x2_years : Int32} {x2_lines : (Nat → Int32)} {x2_goods : (Nat → Int32)} {x2_works : (Nat → Int32)} {x2_change : (Nat → Int32)} {x2_coin : (Nat → Int32)} {x2_knownFree : (Nat → Int32)} {x2_isKnown : Int32} {x3_lineCount : Int32} {x3_goodsCount : Int32} {x3_workCount : Int32} {x3_years : Int32} {x3_lines : (Nat → Int32)} {x3_goods : (Nat → Int32)} {x3_works : (Nat → Int32)} {x3_change : (Nat → Int32)} {x3_coin : (Nat → Int32)} {x3_knownFree : (Nat → Int32)} {x3_isKnown : Int32} {x4_left : (Nat → Int32)} {x4_earned : (Nat → Int32)} {x4_turnCost : Int32} {x4_turnWayless : Int32} {x5_edgeA : (Nat → Int32)} {x5_edgeB : (Nat → Int32)} {x5_edgeCost : (Nat → Int32)} {x5_edgeLine : (Nat → Int32)} {x5_change : (Nat → Int32)} {x5_away : (Nat → Int32)} {x5_steps : (Nat → Int32)} {x5_nodes : (Nat → Int32)} {x5_stepCount : Int32} {x5_open : (Nat → Int32)} {x5_openCount : Int32} {x5_seen : Int64} {x5_edgeCount : Int32} {x5_aim : Int32} {m_shelf : (Nat → Int32)} {m_rowSort : (Nat → Int32)} {m_rowSize : (Nat → Int32)} {m_rows : (Nat → Nat → Int64)} {m_moved : (Nat → Int64)} {m_shown : (Nat → Int32)} {m_tape : (Nat → Int32)} {m_tapeSize : Int32} {m_refused : (Nat → Int32)} {m_lines : Int32} {m_line : (Nat → Nat → Int32)} {m_changes : (Nat → Int32)} {m_coins : (Nat → Int32)} {m_goods : Int32} {m_good : (Nat → Nat → Int32)} {m_works : Int32} {m_work : (Nat → Nat → Int32)} {m_years : Int32} {m_gone : Int32} {m_spent : Int32} {m_at : Int32} {m_token : Int32} {m_from : Int32} {m_figures : Int64} {m_fault : Int32} {m_numbers : (Nat → Int32)} {m_statements : Int32} {m_left : (Nat → Int32)} {m_far : (Nat → Int32)} {m_tons : Int32} {m_way : (Nat → Int32)} {m_steps : Int32} {m_met : Int64} {m_queue : (Nat → Int32)} {m_totals : (Nat → Int32)} {t_shelf : (Nat → Int32)} {t_rowSort : (Nat → Int32)} {t_rowSize : (Nat → Int32)} {t_rows : (Nat → Nat → Int64)} {t_moved : (Nat → Int64)} {t_shown : (Nat → Int32)} {t_tape : (Nat → Int32)} {t_tapeSize : Int32} {t_refused : (Nat → Int32)} {t_lines : Int32} {t_line : (Nat → Nat → Int32)} {t_changes : (Nat → Int32)} {t_coins : (Nat → Int32)} {t_goods : Int32} {t_good : (Nat → Nat → Int32)} {t_works : Int32} {t_work : (Nat → Nat → Int32)} {t_years : Int32} {t_gone : Int32} {t_spent : Int32} {t_at : Int32} {t_token : Int32} {t_from : Int32} {t_figures : Int64} {t_fault : Int32} {t_numbers : (Nat → Int32)} {t_statements : Int32} {t_left : (Nat → Int32)} {t_far : (Nat → Int32)} {t_tons : Int32} {t_way : (Nat → Int32)} {t_steps : Int32} {t_met : Int64} {t_queue : (Nat → Int32)} {t_totals : (Nat → Int32)} {p1 er fr : Int32} {A6 : (Nat → Int32) × (Int32 × Int32 × Int32 × Int32 × (Nat → Int32) × (Nat → Int32) × (Nat → Int32) × (Nat → Int32) × (Nat → Int32) × Int32) × (Int32 × (Nat → Int32) × (Nat → Int32) × (Nat → Int32) × Int32) × ((Nat → Int32) × (Nat → Int32) × (Nat → Int32) × (Nat → Int32) × (Nat → Int32) × (Nat → Int32) × Int32 × Int32)} {B6 : (Nat → Int32) × (Int32 × (Nat → Nat → Int32) × (Nat → Int32) × (Nat → Int32) × Int32 × (Nat → Nat → Int32) × Int32 × (Nat → Nat → Int32) × Int32 × Int32 × Int32 × (Nat → Int32) × (Nat → Int32) × Int32)} (hn : 1000000000000 ≤ n) (h_x2_lineCount : (0 ≤ x2_lineCount ∧ x2_lineCount ≤ 20)) (h_x2_goodsCount : (0 ≤ x2_goodsCount ∧ x2_goodsCount ≤ 8)) (h_x2_workCount : (0 ≤ x2_workCount ∧ x2_workCount ≤ 7)) (h_x2_years : (1 ≤ x2_years ∧ x2_years ≤ 30)) (h_x2_lines : (LnOk x2_lines)) (h_x2_goods : (GdOk x2_goods)) (h_x2_works : (WkOk x2_works)) (h_x2_change : (AI 0 99 x2_change)) (h_x2_coin : (AI 0 9 x2_coin)) (h_x3_lineCount : (0 ≤ x3_lineCount ∧ x3_lineCount ≤ 20)) (h_x3_goodsCount : (0 ≤ x3_goodsCount ∧ x3_goodsCount ≤ 8)) (h_x3_workCount : (0 ≤ x3_workCount ∧ x3_workCount ≤ 7)) (h_x3_years : (1 ≤ x3_years ∧ x3_years ≤ 30)) (h_x3_lines : (LnOk x3_lines)) (h_x3_goods : (GdOk x3_goods)) (h_x3_works : (WkOk x3_works)) (h_x3_change : (AI 0 99 x3_change)) (h_x3_coin : (AI 0 9 x3_coin)) (h_x5_edgeA : (AI 0 35 x5_edgeA)) (h_x5_edgeB : (AI 0 35 x5_edgeB)) (h_x5_edgeLine : (AI 0 19 x5_edgeLine)) (h_x5_steps : (AI 0 22 x5_steps)) (h_x5_nodes : (AI 0 35 x5_nodes)) (h_x5_stepCount : (0 ≤ x5_stepCount ∧ x5_stepCount ≤ 36)) (h_x5_open : (AI 0 35 x5_open)) (h_x5_openCount : (0 ≤ x5_openCount ∧ x5_openCount ≤ 36)) (h_x5_edgeCount : (0 ≤ x5_edgeCount ∧ x5_edgeCount ≤ 60)) (h_m_shelf : (AI 0 2 m_shelf)) (h_m_rowSize : (AI 0 40 m_rowSize)) (h_m_tapeSize : (0 ≤ m_tapeSize ∧ m_tapeSize ≤ 250)) (h_m_lines : (0 ≤ m_lines ∧ m_lines ≤ 20)) (h_m_line : (LnM m_line)) (h_m_changes : (AI 0 99 m_changes)) (h_m_coins : (AI 0 9 m_coins)) (h_m_goods : (0 ≤ m_goods ∧ m_goods ≤ 8)) (h_m_good : (GdM m_good)) (h_m_works : (0 ≤ m_works ∧ m_works ≤ 7)) (h_m_work : (WkM m_work)) (h_m_years : (1 ≤ m_years ∧ m_years ≤ 30)) (h_m_from : (0 ≤ m_from ∧ m_from ≤ 250)) (h_m_far : (AI 0 1000000000 m_far)) (h_m_way : (AI 0 22 m_way)) (h_m_steps : (0 ≤ m_steps ∧ m_steps ≤ 37)) (h_m_queue : (AI 0 35 m_queue)) (h_t_shelf : (AI 0 2 t_shelf)) (h_t_rowSize : (AI 0 40 t_rowSize)) (h_t_tapeSize : (0 ≤ t_tapeSize ∧ t_tapeSize ≤ 250)) (h_t_lines : (0 ≤ t_lines ∧ t_lines ≤ 20)) (h_t_line : (LnM t_line)) (h_t_changes : (AI 0 99 t_changes)) (h_t_coins : (AI 0 9 t_coins)) (h_t_goods : (0 ≤ t_goods ∧ t_goods ≤ 8)) (h_t_good : (GdM t_good)) (h_t_works : (0 ≤ t_works ∧ t_works ≤ 7)) (h_t_work : (WkM t_work)) (h_t_years : (1 ≤ t_years ∧ t_years ≤ 30)) (h_t_from : (0 ≤ t_from ∧ t_from ≤ 250)) (h_t_far : (AI 0 1000000000 t_far)) (h_t_way : (AI 0 22 t_way)) (h_t_steps : (0 ≤ t_steps ∧ t_steps ≤ 37)) (h_t_queue : (AI 0 35 t_queue)) (hA : (LaD x3_lineCount x3_goodsCount x3_workCount x3_years x3_lines x3_goods x3_works x3_change x3_coin m_lines m_line m_changes m_coins m_goods m_good m_works m_work m_years)) (hk : Kn (FrS x3_lineCount (ro 7 x3_lines) x3_change x3_coin (ro 3 x3_goods) x3_goodsCount (ro 5 x3_works) x3_workCount) x3_knownFree x3_isKnown) (eqA : fX6_total n (x0_refused, x0_isKept, x0_gone, x0_spent) x1_gained (x2_lineCount, x2_goodsCount, x2_workCount, x2_years, x2_lines, x2_goods, x2_works, x2_change, x2_coin, x2_knownFree, x2_isKnown) (x3_lineCount, x3_goodsCount, x3_workCount, x3_years, x3_lines, x3_goods, x3_works, x3_change, x3_coin, x3_knownFree, x3_isKnown) (x4_left, x4_earned, x4_turnCost, x4_turnWayless) (x5_edgeA, x5_edgeB, x5_edgeCost, x5_edgeLine, x5_change, x5_away, x5_steps, x5_nodes, x5_stepCount, x5_open, x5_openCount, x5_seen, x5_edgeCount, x5_aim) p1 = some (er, A6)) (eqB : fX7_total n (m_shelf, m_rowSort, m_rowSize, m_rows, m_moved, m_shown, m_tape, m_tapeSize, m_refused, m_lines, m_line, m_changes, m_coins, m_goods, m_good, m_works, m_work, m_years, m_gone, m_spent, m_at, m_token, m_from, m_figures, m_fault, m_numbers, m_statements, m_left, m_far, m_tons, m_way, m_steps, m_met, m_queue, m_totals) (t_shelf, t_rowSort, t_rowSize, t_rows, t_moved, t_shown, t_tape, t_tapeSize, t_refused, t_lines, t_line, t_changes, t_coins, t_goods, t_good, t_works, t_work, t_years, t_gone, t_spent, t_at, t_token, t_from, t_figures, t_fault, t_numbers, t_statements, t_left, t_far, t_tons, t_way, t_steps, t_met, t_queue, t_totals) p1 = some (fr, B6)) : er = fr := by
  have a := ((kTotal hn h_x2_lineCount h_x2_goodsCount h_x2_workCount h_x2_years h_x2_lines h_x2_goods h_x2_works h_x2_change h_x2_coin h_x3_lineCount h_x3_goodsCount h_x3_workCount h_x3_years h_x3_lines h_x3_goods h_x3_works h_x3_change h_x3_coin h_x5_edgeA h_x5_edgeB h_x5_edgeLine h_x5_steps h_x5_nodes h_x5_stepCount h_x5_open h_x5_openCount h_x5_edgeCount hA.2.2.2.2.2.2 hk).at eqA).1
  obtain ⟨⟨z1, z2, z3, z4⟩, z5, z6, z7, z8, z9, z10⟩ := id hA
  have hS := hA.s
  subst z1 z2 z3 z4
  have hW : WfS x3_workCount.toNatClampNeg ((x3_lineCount, ro 7 x3_lines, x3_change), ro 5 x3_works) := ⟨h_x3_lineCount, z10⟩
  have hW2 := hW.congr hS
  have b := (totalR hn h_m_shelf h_m_rowSize h_m_tapeSize h_x3_lineCount h_m_line h_m_changes h_m_coins h_x3_goodsCount h_m_good h_x3_workCount h_m_work h_x3_years h_m_from h_m_far h_m_way h_m_steps h_m_queue h_t_shelf h_t_rowSize h_t_tapeSize h_t_lines h_t_line h_t_changes h_t_coins h_t_goods h_t_good h_t_works h_t_work h_t_years h_t_from h_t_far h_t_way h_t_steps h_t_queue hW2.2).at eqB
  rcases AP_eq a b with ⟨a1, b1⟩ | ⟨e, _, _⟩
  · exact (a1.trans (TotA_congr hS.1 h_x3_lineCount z9 z6 z7 z10)).trans b1.symm
  · exact e
end
section
/-! cheapest -/
theorem costBetweenC {n : Nat} {x0_left : (Nat → Int32)} {x0_earned : (Nat → Int32)} {x0_turnCost : Int32} {x0_turnWayless : Int32} {x1_edgeA : (Nat → Int32)} {x1_edgeB : (Nat → Int32)} {x1_edgeCost : (Nat → Int32)} {x1_edgeLine : (Nat → Int32)} {x1_change : (Nat → Int32)} {x1_away : (Nat → Int32)} {x1_steps : (Nat → Int32)} {x1_nodes : (Nat → Int32)} {x1_stepCount : Int32} {x1_open : (Nat → Int32)} {x1_openCount : Int32} {x1_seen : Int64} {x1_edgeCount : Int32} {x1_aim : Int32} {x2_lineCount : Int32} {x2_goodsCount : Int32} {x2_workCount : Int32} {x2_years : Int32} {x2_lines : (Nat → Int32)} {x2_goods : (Nat → Int32)} {x2_works : (Nat → Int32)} {x2_change : (Nat → Int32)} {x2_coin : (Nat → Int32)} {x2_knownFree : (Nat → Int32)} {x2_isKnown : Int32} {p2 p3 : Int32} (hn : 1000000000000 ≤ n) (h_x1_edgeA : (AI 0 35 x1_edgeA)) (h_x1_edgeB : (AI 0 35 x1_edgeB)) (h_x1_edgeLine : (AI 0 19 x1_edgeLine)) (h_x1_steps : (AI 0 22 x1_steps)) (h_x1_nodes : (AI 0 35 x1_nodes)) (h_x1_stepCount : (0 ≤ x1_stepCount ∧ x1_stepCount ≤ 36)) (h_x1_open : (AI 0 35 x1_open)) (h_x1_openCount : (0 ≤ x1_openCount ∧ x1_openCount ≤ 36)) (h_x1_edgeCount : (0 ≤ x1_edgeCount ∧ x1_edgeCount ≤ 60)) (h_x2_lineCount : (0 ≤ x2_lineCount ∧ x2_lineCount ≤ 20)) (h_x2_goodsCount : (0 ≤ x2_goodsCount ∧ x2_goodsCount ≤ 8)) (h_x2_workCount : (0 ≤ x2_workCount ∧ x2_workCount ≤ 7)) (h_x2_years : (1 ≤ x2_years ∧ x2_years ≤ 30)) (h_x2_lines : (LnOk x2_lines)) (h_x2_goods : (GdOk x2_goods)) (h_x2_works : (WkOk x2_works)) (h_x2_change : (AI 0 99 x2_change)) (h_x2_coin : (AI 0 9 x2_coin)) (hp2 : 0 ≤ p2 ∧ p2 ≤ 11) (hp3 : 0 ≤ p3 ∧ p3 ≤ 11) {Tq : Nat → Nat → Int32} (hT : Tz (EdL x2_lineCount.toNatClampNeg (ro 7 x2_lines) x2_change x2_coin) Tq) : Sf (fX4_costBetween n (x0_left, x0_earned, x0_turnCost, x0_turnWayless) (x1_edgeA, x1_edgeB, x1_edgeCost, x1_edgeLine, x1_change, x1_away, x1_steps, x1_nodes, x1_stepCount, x1_open, x1_openCount, x1_seen, x1_edgeCount, x1_aim) (x2_lineCount, x2_goodsCount, x2_workCount, x2_years, x2_lines, x2_goods, x2_works, x2_change, x2_coin, x2_knownFree, x2_isKnown) p2 p3) (fun r => ∃ m, Ls 1000000 (Tq p3.toNatClampNeg) p2.toNatClampNeg m ∧ r.1 = if 1000000 ≤ m then (-1) else m) := by
  unfold fX4_costBetween
  dsimp only [u4, u14, u11]
  refine Sf.bind (thereS hn h_x2_lineCount) (fun v1 hb => ?_)
  refine Sf.bind (prepS hn h_x2_lines h_x2_coin h_x2_lineCount h_x1_edgeA h_x1_edgeB) ?_
  rintro ⟨g2, g3, g4, g5, g6, g7, g8⟩ ⟨q1, q2, q3, q4, q5, q6, q7⟩
  have q1 : g8 = (-1) := q1
  have q2 : AI 0 35 g2 := q2
  have q3 : AI 0 35 g3 := q3
  have q4 : 0 ≤ g7 ∧ g7 ≤ 60 := q4
  have q5 : ∀ e, e < g7.toNatClampNeg → 0 ≤ g4 e ∧ g4 e ≤ 999 := q5
  have q6 : ∀ k, k < 12 → g6 k = x2_change k := q6
  have q7 : EgOk x2_lines x2_coin v1 (fun l _ => l < x2_lineCount.toNatClampNeg) g2 g3 g4 g7.toNatClampNeg := q7
  have hL20 := nlt (M := 20) (N := 20) rfl h_x2_lineCount
  have hE : EdC g7.toNatClampNeg g2 g3 g4 g6 = EdL x2_lineCount.toNatClampNeg (ro 7 x2_lines) x2_change x2_coin := by
    funext u v c
    exact propext (EdC_Ed q7 (fun l hl => by rw [ro_eq (by decide)]; exact hb l hl) hL20 (fun l _ c hc => ro_eq (by omega)) (fun w _ => rfl) (fun p hp => (q6 p hp).symm) (fun l _ => by decide) u v c)
  have hC12 : C12 g6 := fun p hp => by rw [q6 p hp]; exact h_x2_change p
  try dsimp only [u7]
  refine Sf.bind (aimS hn q2 q3 q4 q5 hC12 hp3 (T := Tq p3.toNatClampNeg) (by rw [hE]; exact hT _ (p_of hp3)) (fun e => by rw [q1] at e; rw [← e] at hp3; exact absurd hp3.1 (by decide))) ?_
  rintro ⟨g12, g13⟩ ⟨r1, r2⟩
  have r1 : ∀ v, v < 36 → g12 v = Tq p3.toNatClampNeg v := r1
  try dsimp only [u2]
  refine Sf.bind (costS hn hp2) ?_
  rintro v15 ⟨m, hm, e⟩
  exact Sf.ok ⟨m, Ls_congr (p_of hp2) r1 hm, e⟩
end
section
/-! cheapest: alike -/
def VPl (p1 p2 : Int32) : Prop := (0 ≤ p1 ∧ p1 ≤ 11) ∧ (0 ≤ p2 ∧ p2 ≤ 11)
def ChV (Tq : Nat → Nat → Int32) (p1 p2 a : Int32) : Prop := ∃ m, Ls 1000000 (Tq p2.toNatClampNeg) p1.toNatClampNeg m ∧ a = if 1000000 ≤ m then (-5) else m
theorem ChV_eq {Tq : Nat → Nat → Int32} {p1 p2 a a' : Int32} (h : ChV Tq p1 p2 a) (h' : ChV Tq p1 p2 a') : a = a' := by
  obtain ⟨m, h1, h2⟩ := h
  obtain ⟨m', h3, h4⟩ := h'
  rw [h2, h4, Ls_uniq h1 h3]
theorem Ls_pos {T : Nat → Int32} {p : Nat} {m : Int32} (hT : A6 T) (hp : p < 12) (h : Ls 1000000 T p m) : 0 ≤ m := by
  rcases h.2.2 with e | ⟨w, hw, e⟩
  · rw [e]; decide
  · rw [e]; exact (hT _ (by omega)).1
theorem cheapestC {n : Nat} {x0_refused : (Nat → Int32)} {x0_isKept : Int32} {x0_gone : Int32} {x0_spent : Int32} {x1_lineCount : Int32} {x1_goodsCount : Int32} {x1_workCount : Int32} {x1_years : Int32} {x1_lines : (Nat → Int32)} {x1_goods : (Nat → Int32)} {x1_works : (Nat → Int32)} {x1_change : (Nat → Int32)} {x1_coin : (Nat → Int32)} {x1_knownFree : (Nat → Int32)} {x1_isKnown : Int32} {x2_left : (Nat → Int32)} {x2_earned : (Nat → Int32)} {x2_turnCost : Int32} {x2_turnWayless : Int32} {x3_edgeA : (Nat → Int32)} {x3_edgeB : (Nat → Int32)} {x3_edgeCost : (Nat → Int32)} {x3_edgeLine : (Nat → Int32)} {x3_change : (Nat → Int32)} {x3_away : (Nat → Int32)} {x3_steps : (Nat → Int32)} {x3_nodes : (Nat → Int32)} {x3_stepCount : Int32} {x3_open : (Nat → Int32)} {x3_openCount : Int32} {x3_seen : Int64} {x3_edgeCount : Int32} {x3_aim : Int32} {p1 p2 : Int32} (hn : 1000000000000 ≤ n) (h_x1_lineCount : (0 ≤ x1_lineCount ∧ x1_lineCount ≤ 20)) (h_x1_goodsCount : (0 ≤ x1_goodsCount ∧ x1_goodsCount ≤ 8)) (h_x1_workCount : (0 ≤ x1_workCount ∧ x1_workCount ≤ 7)) (h_x1_years : (1 ≤ x1_years ∧ x1_years ≤ 30)) (h_x1_lines : (LnOk x1_lines)) (h_x1_goods : (GdOk x1_goods)) (h_x1_works : (WkOk x1_works)) (h_x1_change : (AI 0 99 x1_change)) (h_x1_coin : (AI 0 9 x1_coin)) (h_x3_edgeA : (AI 0 35 x3_edgeA)) (h_x3_edgeB : (AI 0 35 x3_edgeB)) (h_x3_edgeLine : (AI 0 19 x3_edgeLine)) (h_x3_steps : (AI 0 22 x3_steps)) (h_x3_nodes : (AI 0 35 x3_nodes)) (h_x3_stepCount : (0 ≤ x3_stepCount ∧ x3_stepCount ≤ 36)) (h_x3_open : (AI 0 35 x3_open)) (h_x3_openCount : (0 ≤ x3_openCount ∧ x3_openCount ≤ 36)) (h_x3_edgeCount : (0 ≤ x3_edgeCount ∧ x3_edgeCount ≤ 60)) {Tq : Nat → Nat → Int32} (hT : Tz (EdL x1_lineCount.toNatClampNeg (ro 7 x1_lines) x1_change x1_coin) Tq) : Sf (fX6_cheapest n (x0_refused, x0_isKept, x0_gone, x0_spent) (x1_lineCount, x1_goodsCount, x1_workCount, x1_years, x1_lines, x1_goods, x1_works, x1_change, x1_coin, x1_knownFree, x1_isKnown) (x2_left, x2_earned, x2_turnCost, x2_turnWayless) (x3_edgeA, x3_edgeB, x3_edgeCost, x3_edgeLine, x3_change, x3_away, x3_steps, x3_nodes, x3_stepCount, x3_open, x3_openCount, x3_seen, x3_edgeCount, x3_aim) p1 p2) (fun r => AP (VPl p1 p2) r.1 (ChV Tq p1 p2 r.1) True) := by
  unfold fX6_cheapest
  dsimp only [u4, u14, u11]
  refine Sf.bind sX6_isPlace (fun v1 h1 => Sf.ite (fun hz => ?_) (fun hz => ?_))
  · refine Sf.bind refC ?_
    rintro ⟨v, g⟩ e
    exact Sf.ok (Or.inr ⟨fun V => gd0 h1 hz V.1, e, trivial⟩)
  have c1 := gd1 h1 hz
  refine Sf.bind sX6_isPlace (fun v6 h6 => Sf.ite (fun hz => ?_) (fun hz => ?_))
  · refine Sf.bind refC ?_
    rintro ⟨v, g⟩ e
    exact Sf.ok (Or.inr ⟨fun V => gd0 h6 hz V.2, e, trivial⟩)
  have c2 := gd1 h6 hz
  have hTF := hT _ (p_of c2)
  refine Sf.ite (fun he => ?_) (fun he => ?_)
  · refine Sf.ok (Or.inl ⟨⟨c1, c2⟩, ?_⟩)
    obtain ⟨m, hm⟩ : ∃ m, Ls 1000000 (Tq p2.toNatClampNeg) p1.toNatClampNeg m := ⟨_, Ls_m3 hTF.1 (p_of c1)⟩
    have h0 : Tq p2.toNatClampNeg (3 * p1.toNatClampNeg + 0) = 0 := hTF.2.1 _ (by rw [he]; omega)
    have hle := hm.1 0 (by decide)
    rw [h0] at hle
    have hge := Ls_pos hTF.1 (p_of c1) hm
    have e0 := Int32.le_antisymm hle hge
    refine ⟨_, hm, ?_⟩
    rw [e0]
    rfl
  · refine Sf.bind (costBetweenC hn h_x3_edgeA h_x3_edgeB h_x3_edgeLine h_x3_steps h_x3_nodes h_x3_stepCount h_x3_open h_x3_openCount h_x3_edgeCount h_x1_lineCount h_x1_goodsCount h_x1_workCount h_x1_years h_x1_lines h_x1_goods h_x1_works h_x1_change h_x1_coin c1 c2 hT) ?_
    rintro ⟨v8, g10, g11, g12, g13, g14, g15, g16, g17⟩ ⟨m, hm, e8⟩
    have e8 : v8 = _ := e8
    have hge := Ls_pos hTF.1 (p_of c1) hm
    try dsimp only [u2, u8]
    by_cases hf : 1000000 ≤ m
    · rw [if_pos hf] at e8
      rw [if_pos e8]
      refine Sf.bind refC ?_
      rintro ⟨v, g⟩ e
      exact Sf.ok (Or.inl ⟨⟨c1, c2⟩, m, hm, by rw [if_pos hf]; exact e⟩)
    · rw [if_neg hf] at e8
      rw [if_neg (by rw [e8]; intro h; rw [h] at hge; exact absurd hge (by decide))]
      exact Sf.ok (Or.inl ⟨⟨c1, c2⟩, m, hm, by rw [if_neg hf]; exact e8⟩)
theorem cheapestR {n : Nat} {x0_shelf : (Nat → Int32)} {x0_rowSort : (Nat → Int32)} {x0_rowSize : (Nat → Int32)} {x0_rows : (Nat → Nat → Int64)} {x0_moved : (Nat → Int64)} {x0_shown : (Nat → Int32)} {x0_tape : (Nat → Int32)} {x0_tapeSize : Int32} {x0_refused : (Nat → Int32)} {x0_lines : Int32} {x0_line : (Nat → Nat → Int32)} {x0_changes : (Nat → Int32)} {x0_coins : (Nat → Int32)} {x0_goods : Int32} {x0_good : (Nat → Nat → Int32)} {x0_works : Int32} {x0_work : (Nat → Nat → Int32)} {x0_years : Int32} {x0_gone : Int32} {x0_spent : Int32} {x0_at : Int32} {x0_token : Int32} {x0_from : Int32} {x0_figures : Int64} {x0_fault : Int32} {x0_numbers : (Nat → Int32)} {x0_statements : Int32} {x0_left : (Nat → Int32)} {x0_far : (Nat → Int32)} {x0_tons : Int32} {x0_way : (Nat → Int32)} {x0_steps : Int32} {x0_met : Int64} {x0_queue : (Nat → Int32)} {x0_totals : (Nat → Int32)} {p1 p2 : Int32} (hn : 1000000000000 ≤ n) (h_x0_shelf : (AI 0 2 x0_shelf)) (h_x0_rowSize : (AI 0 40 x0_rowSize)) (h_x0_tapeSize : (0 ≤ x0_tapeSize ∧ x0_tapeSize ≤ 250)) (h_x0_lines : (0 ≤ x0_lines ∧ x0_lines ≤ 20)) (h_x0_line : (LnM x0_line)) (h_x0_changes : (AI 0 99 x0_changes)) (h_x0_coins : (AI 0 9 x0_coins)) (h_x0_goods : (0 ≤ x0_goods ∧ x0_goods ≤ 8)) (h_x0_good : (GdM x0_good)) (h_x0_works : (0 ≤ x0_works ∧ x0_works ≤ 7)) (h_x0_work : (WkM x0_work)) (h_x0_years : (1 ≤ x0_years ∧ x0_years ≤ 30)) (h_x0_from : (0 ≤ x0_from ∧ x0_from ≤ 250)) (h_x0_far : (AI 0 1000000000 x0_far)) (h_x0_way : (AI 0 22 x0_way)) (h_x0_steps : (0 ≤ x0_steps ∧ x0_steps ≤ 37)) (h_x0_queue : (AI 0 35 x0_queue)) {Tq : Nat → Nat → Int32} (hT : Tz (EdL x0_lines.toNatClampNeg x0_line x0_changes x0_coins) Tq) : Sf (fX7_cheapest n (x0_shelf, x0_rowSort, x0_rowSize, x0_rows, x0_moved, x0_shown, x0_tape, x0_tapeSize, x0_refused, x0_lines, x0_line, x0_changes, x0_coins, x0_goods, x0_good, x0_works, x0_work, x0_years, x0_gone, x0_spent, x0_at, x0_token, x0_from, x0_figures, x0_fault, x0_numbers, x0_statements, x0_left, x0_far, x0_tons, x0_way, x0_steps, x0_met, x0_queue, x0_totals) p1 p2) (fun r => AP (VPl p1 p2) r.1 (ChV Tq p1 p2 r.1) True) := by
  unfold fX7_cheapest
  dsimp only [u35]
  refine Sf.bind sX7_isPlace (fun v1 h1 => Sf.ite (fun hz => ?_) (fun hz => ?_))
  · refine Sf.bind (sX7_refuse h_x0_shelf h_x0_rowSize h_x0_tapeSize h_x0_lines h_x0_line h_x0_changes h_x0_coins h_x0_goods h_x0_good h_x0_works h_x0_work h_x0_years h_x0_from h_x0_far h_x0_way h_x0_steps h_x0_queue (by decide)) ?_
    rintro ⟨v, g⟩ e
    exact Sf.ok (Or.inr ⟨fun V => gd0 h1 hz V.1, e, trivial⟩)
  have c1 := gd1 h1 hz
  refine Sf.bind sX7_isPlace (fun v6 h6 => Sf.ite (fun hz => ?_) (fun hz => ?_))
  · refine Sf.bind (sX7_refuse h_x0_shelf h_x0_rowSize h_x0_tapeSize h_x0_lines h_x0_line h_x0_changes h_x0_coins h_x0_goods h_x0_good h_x0_works h_x0_work h_x0_years h_x0_from h_x0_far h_x0_way h_x0_steps h_x0_queue (by decide)) ?_
    rintro ⟨v, g⟩ e
    exact Sf.ok (Or.inr ⟨fun V => gd0 h6 hz V.2, e, trivial⟩)
  have c2 := gd1 h6 hz
  have hTF := hT _ (p_of c2)
  refine Sf.bind (refillS hn h_x0_lines) (fun g8 e8 => ?_)
  have hleft : ∀ l, l < x0_lines.toNatClampNeg → ¬ g8 l < 0 := by
    intro l hl
    rw [e8 l hl]
    exact Int32.not_lt.mpr (h_x0_line l 4).1
  refine Sf.bind (farT hn h_x0_shelf h_x0_rowSize h_x0_tapeSize h_x0_lines h_x0_line h_x0_changes h_x0_coins h_x0_goods h_x0_good h_x0_works h_x0_work h_x0_years h_x0_from h_x0_far h_x0_way h_x0_steps h_x0_queue c2 hleft) ?_
  rintro ⟨g10, g11⟩ ⟨hA, hF, hlt⟩
  have hA : AI 0 1000000000 g10 := hA
  have hlt : ∀ v, v < 36 → g10 v < 1000000000 → g10 v < 1000000 := hlt
  try dsimp only [u2]
  refine Sf.bind (leastS hn c1) (fun v13 h13 => ?_)
  have hm := Ls_m3 hTF.1 (p_of c1)
  have hm2 := Ls_congr (p_of c1) (fun v hv => (TF_uniq hF hTF v hv).symm) hm
  have key := Ls_eq (fun w hw => hlt _ (by have := p_of c1; omega)) hm2 h13
  refine Sf.ite (fun hc => ?_) (fun hc => ?_)
  · refine Sf.bind (leastS hn c1) (fun v15 h15 => ?_)
    have e15 := Ls_uniq h15 h13
    refine Sf.ok (Or.inl ⟨⟨c1, c2⟩, _, hm, ?_⟩)
    show v15 = _
    rcases key with ⟨_, k2⟩ | ⟨k1, _, k3⟩
    · exact absurd hc (Int32.not_lt.mpr k2)
    · rw [if_neg (Int32.not_le.mpr k1), k3, e15]
  · refine Sf.bind (sX7_refuse h_x0_shelf h_x0_rowSize h_x0_tapeSize h_x0_lines h_x0_line h_x0_changes h_x0_coins h_x0_goods h_x0_good h_x0_works h_x0_work h_x0_years h_x0_from hA h_x0_way h_x0_steps h_x0_queue (by decide)) ?_
    rintro ⟨v, g⟩ e
    refine Sf.ok (Or.inl ⟨⟨c1, c2⟩, _, hm, ?_⟩)
    show v = _
    rcases key with ⟨k1, _⟩ | ⟨_, k2, _⟩
    · rw [if_pos k1]; exact e
    · exact absurd k2 hc
theorem dCheapest {n : Nat} {x0_refused : (Nat → Int32)} {x0_isKept : Int32} {x0_gone : Int32} {x0_spent : Int32} {x1_lineCount : Int32} {x1_goodsCount : Int32} {x1_workCount : Int32} {x1_years : Int32} {x1_lines : (Nat → Int32)} {x1_goods : (Nat → Int32)} {x1_works : (Nat → Int32)} {x1_change : (Nat → Int32)} {x1_coin : (Nat → Int32)} {x1_knownFree : (Nat → Int32)} {x1_isKnown : Int32} {x2_left : (Nat → Int32)} {x2_earned : (Nat → Int32)} {x2_turnCost : Int32} {x2_turnWayless : Int32} {x3_edgeA : (Nat → Int32)} {x3_edgeB : (Nat → Int32)} {x3_edgeCost : (Nat → Int32)} {x3_edgeLine : (Nat → Int32)} {x3_change : (Nat → Int32)} {x3_away : (Nat → Int32)} {x3_steps : (Nat → Int32)} {x3_nodes : (Nat → Int32)} {x3_stepCount : Int32} {x3_open : (Nat → Int32)} {x3_openCount : Int32} {x3_seen : Int64} {x3_edgeCount : Int32} {x3_aim : Int32} {m_shelf : (Nat → Int32)} {m_rowSort : (Nat → Int32)} {m_rowSize : (Nat → Int32)} {m_rows : (Nat → Nat → Int64)} {m_moved : (Nat → Int64)} {m_shown : (Nat → Int32)} {m_tape : (Nat → Int32)} {m_tapeSize : Int32} {m_refused : (Nat → Int32)} {m_lines : Int32} {m_line : (Nat → Nat → Int32)} {m_changes : (Nat → Int32)} {m_coins : (Nat → Int32)} {m_goods : Int32} {m_good : (Nat → Nat → Int32)} {m_works : Int32} {m_work : (Nat → Nat → Int32)} {m_years : Int32} {m_gone : Int32} {m_spent : Int32} {m_at : Int32} {m_token : Int32} {m_from : Int32} {m_figures : Int64} {m_fault : Int32} {m_numbers : (Nat → Int32)} {m_statements : Int32} {m_left : (Nat → Int32)} {m_far : (Nat → Int32)} {m_tons : Int32} {m_way : (Nat → Int32)} {m_steps : Int32} {m_met : Int64} {m_queue : (Nat → Int32)} {m_totals : (Nat → Int32)} {p1 p2 er fr : Int32} {A6 : (Nat → Int32) × ((Nat → Int32) × (Nat → Int32) × (Nat → Int32) × (Nat → Int32) × (Nat → Int32) × (Nat → Int32) × Int32 × Int32)} {B6 : (Nat → Int32) × (Nat → Int32) × (Nat → Int32) × Int32} (hn : 1000000000000 ≤ n) (h_x1_lineCount : (0 ≤ x1_lineCount ∧ x1_lineCount ≤ 20)) (h_x1_goodsCount : (0 ≤ x1_goodsCount ∧ x1_goodsCount ≤ 8)) (h_x1_workCount : (0 ≤ x1_workCount ∧ x1_workCount ≤ 7)) (h_x1_years : (1 ≤ x1_years ∧ x1_years ≤ 30)) (h_x1_lines : (LnOk x1_lines)) (h_x1_goods : (GdOk x1_goods)) (h_x1_works : (WkOk x1_works)) (h_x1_change : (AI 0 99 x1_change)) (h_x1_coin : (AI 0 9 x1_coin)) (h_x3_edgeA : (AI 0 35 x3_edgeA)) (h_x3_edgeB : (AI 0 35 x3_edgeB)) (h_x3_edgeLine : (AI 0 19 x3_edgeLine)) (h_x3_steps : (AI 0 22 x3_steps)) (h_x3_nodes : (AI 0 35 x3_nodes)) (h_x3_stepCount : (0 ≤ x3_stepCount ∧ x3_stepCount ≤ 36)) (h_x3_open : (AI 0 35 x3_open)) (h_x3_openCount : (0 ≤ x3_openCount ∧ x3_openCount ≤ 36)) (h_x3_edgeCount : (0 ≤ x3_edgeCount ∧ x3_edgeCount ≤ 60)) (h_m_shelf : (AI 0 2 m_shelf)) (h_m_rowSize : (AI 0 40 m_rowSize)) (h_m_tapeSize : (0 ≤ m_tapeSize ∧ m_tapeSize ≤ 250)) (h_m_lines : (0 ≤ m_lines ∧ m_lines ≤ 20)) (h_m_line : (LnM m_line)) (h_m_changes : (AI 0 99 m_changes)) (h_m_coins : (AI 0 9 m_coins)) (h_m_goods : (0 ≤ m_goods ∧ m_goods ≤ 8)) (h_m_good : (GdM m_good)) (h_m_works : (0 ≤ m_works ∧ m_works ≤ 7)) (h_m_work : (WkM m_work)) (h_m_years : (1 ≤ m_years ∧ m_years ≤ 30)) (h_m_from : (0 ≤ m_from ∧ m_from ≤ 250)) (h_m_far : (AI 0 1000000000 m_far)) (h_m_way : (AI 0 22 m_way)) (h_m_steps : (0 ≤ m_steps ∧ m_steps ≤ 37)) (h_m_queue : (AI 0 35 m_queue)) (hA : (LaD x1_lineCount x1_goodsCount x1_workCount x1_years x1_lines x1_goods x1_works x1_change x1_coin m_lines m_line m_changes m_coins m_goods m_good m_works m_work m_years)) (eqA : fX6_cheapest n (x0_refused, x0_isKept, x0_gone, x0_spent) (x1_lineCount, x1_goodsCount, x1_workCount, x1_years, x1_lines, x1_goods, x1_works, x1_change, x1_coin, x1_knownFree, x1_isKnown) (x2_left, x2_earned, x2_turnCost, x2_turnWayless) (x3_edgeA, x3_edgeB, x3_edgeCost, x3_edgeLine, x3_change, x3_away, x3_steps, x3_nodes, x3_stepCount, x3_open, x3_openCount, x3_seen, x3_edgeCount, x3_aim) p1 p2 = some (er, A6)) (eqB : fX7_cheapest n (m_shelf, m_rowSort, m_rowSize, m_rows, m_moved, m_shown, m_tape, m_tapeSize, m_refused, m_lines, m_line, m_changes, m_coins, m_goods, m_good, m_works, m_work, m_years, m_gone, m_spent, m_at, m_token, m_from, m_figures, m_fault, m_numbers, m_statements, m_left, m_far, m_tons, m_way, m_steps, m_met, m_queue, m_totals) p1 p2 = some (fr, B6)) : er = fr := by
  obtain ⟨Tq, hT⟩ := Tz_ex h_m_lines h_m_line h_m_changes h_m_coins
  obtain ⟨⟨z1, z2, z3, z4⟩, z5, z6, z7, z8, z9, z10⟩ := hA
  have hE : EdL x1_lineCount.toNatClampNeg (ro 7 x1_lines) x1_change x1_coin = EdL m_lines.toNatClampNeg m_line m_changes m_coins := by
    rw [← z1]
    exact EdL_congr z5 z8 z9
  have hT2 : Tz (EdL x1_lineCount.toNatClampNeg (ro 7 x1_lines) x1_change x1_coin) Tq := by rw [hE]; exact hT
  have a := (cheapestC hn h_x1_lineCount h_x1_goodsCount h_x1_workCount h_x1_years h_x1_lines h_x1_goods h_x1_works h_x1_change h_x1_coin h_x3_edgeA h_x3_edgeB h_x3_edgeLine h_x3_steps h_x3_nodes h_x3_stepCount h_x3_open h_x3_openCount h_x3_edgeCount hT2).at eqA
  have b := (cheapestR hn h_m_shelf h_m_rowSize h_m_tapeSize h_m_lines h_m_line h_m_changes h_m_coins h_m_goods h_m_good h_m_works h_m_work h_m_years h_m_from h_m_far h_m_way h_m_steps h_m_queue hT).at eqB
  rcases AP_eq a b with ⟨a1, b1⟩ | ⟨e, _, _⟩
  · exact ChV_eq a1 b1
  · exact e
end
section
/-! the shelves: alike -/
def Sh1 (el : Nat → Nat → Int64) (he si sh rs rz : Nat → Int32) (rw_ : Nat → Nat → Int64) (sn : Nat → Int32) (s : Nat) : Prop :=
  (sh s = 0 ∧ he s = -1) ∨ (sh s = 1 ∧ he s = rs s ∧ (0 ≤ he s ∧ he s ≤ 4) ∧ si s = rz s ∧ ∀ i, i < 40 → el s i = rw_ s i) ∨ (sh s = 2 ∧ he s = 10 + sn s ∧ 0 ≤ sn s ∧ sn s ≤ 6)
def ShA (el : Nat → Nat → Int64) (he si sh rs rz : Nat → Int32) (rw_ : Nat → Nat → Int64) (sn : Nat → Int32) : Prop := ∀ s, s < 8 → Sh1 el he si sh rs rz rw_ sn s
theorem Sh1.f {el : Nat → Nat → Int64} {he si sh rs rz : Nat → Int32} {rw_ : Nat → Nat → Int64} {sn : Nat → Int32} {s : Nat} (h : Sh1 el he si sh rs rz rw_ sn s) : (he s < 10 ↔ ¬ sh s = 2) ∧ ((0 ≤ he s ∧ he s ≤ 4) ↔ sh s = 1) ∧ (he s = -1 ↔ sh s = 0) := by
  rcases h with ⟨a, b⟩ | ⟨a, _, b, _⟩ | ⟨a, b, c, d⟩
  · rw [a, b]
    decide
  · rw [a]
    generalize he s = x at b
    refine ⟨⟨fun _ => by decide, fun _ => ?_⟩, ⟨fun _ => rfl, fun _ => b⟩, ⟨fun h => ?_, fun h => absurd h (by decide)⟩⟩
    · grind
    · rw [h] at b; exact absurd b.1 (by decide)
  · rw [a, b]
    generalize sn s = x at c d
    refine ⟨⟨fun h => ?_, fun h => absurd rfl h⟩, ⟨fun h => ?_, fun h => absurd h (by decide)⟩, ⟨fun h => ?_, fun h => absurd h (by decide)⟩⟩
    · exfalso; grind
    · exfalso; grind
    · exfalso; grind
theorem sh_rng {sh : Nat → Int32} (h : AI 0 2 sh) (s : Nat) : sh s = 0 ∨ sh s = 1 ∨ sh s = 2 := by
  have q := h s
  generalize sh s = x at q
  grind
theorem hwS {x1_elements : (Nat → Nat → Int64)} {x1_held : (Nat → Int32)} {x1_sizes : (Nat → Int32)} {p : Int32} (hp : 0 ≤ p ∧ p ≤ 7) : Sf (fX2_hasWork (x1_elements, x1_held, x1_sizes) p) (fun r => (r = 0 ↔ x1_held p.toNatClampNeg < 10)) := by
  unfold fX2_hasWork
  dsimp only [u3]
  refine Sf.rdb 8 rfl ⟨hp.1, Int32.lt_of_le_of_lt hp.2 (by decide)⟩ (fun v e => ?_)
  rw [e]
  exact Sf.ite (fun h => Sf.ok ⟨fun _ => h, fun _ => rfl⟩) (fun h => Sf.ok ⟨fun h2 => absurd h2 (by decide), fun h2 => absurd h2 h⟩)
theorem hrS {x1_elements : (Nat → Nat → Int64)} {x1_held : (Nat → Int32)} {x1_sizes : (Nat → Int32)} {p : Int32} (hp : 0 ≤ p ∧ p ≤ 7) : Sf (fX2_hasRow (x1_elements, x1_held, x1_sizes) p) (fun r => (r = 0 ↔ ¬ (0 ≤ x1_held p.toNatClampNeg ∧ x1_held p.toNatClampNeg ≤ 4))) := by
  unfold fX2_hasRow
  dsimp only [u3]
  refine Sf.rdb 8 rfl ⟨hp.1, Int32.lt_of_le_of_lt hp.2 (by decide)⟩ (fun v e => ?_)
  refine Sf.bind sX6_within (fun v2 h => ?_)
  rw [← e]
  refine Sf.zbb (by rcases h with h | h; exact Or.inr h.1; exact Or.inl h.1) (fun r er => Sf.ok ?_)
  rw [er]
  exact ⟨fun hz => gd0 h hz, fun hn => by
    rcases h with h | h
    · exact absurd h.2 hn
    · exact h.1⟩
theorem p8_of {p : Int32} (hp : 0 ≤ p ∧ p ≤ 7) : p.toNatClampNeg < 8 := i32_lt (M := 8) rfl ⟨hp.1, Int32.lt_of_le_of_lt hp.2 (by decide)⟩
/-- what a value becomes in a row -/
def fitV (p0 : Int32) (p1 : Int64) : Int64 := (fX7_fit p0 p1).getD 0
theorem fitR (p0 : Int32) (p1 : Int64) : Sf (fX7_fit p0 p1) (fun r => r = fitV p0 p1) := by
  obtain ⟨r, e, _⟩ := sX7_fit (p0 := p0) (p1 := p1)
  refine ⟨r, e, ?_⟩
  unfold fitV
  rw [e]
  rfl
theorem fitC (p0 : Int32) (p1 : Int64) : Sf (fX2_fitted p0 p1) (fun r => r = fitV p0 p1) := fitR p0 p1
/-- set -/
def stA (p1 p2 sh rz : Int32) : Int32 := if 0 ≤ p1 ∧ p1 ≤ 7 then (if sh = 2 then -3 else if sh = 0 then -4 else if 0 ≤ p2 ∧ p2 ≤ rz - 1 then 1 else -2) else -2
def stD (p1 p2 sh rz : Int32) : Prop := (0 ≤ p1 ∧ p1 ≤ 7) ∧ ¬ sh = 2 ∧ ¬ sh = 0 ∧ (0 ≤ p2 ∧ p2 ≤ rz - 1)
theorem noRowC {x0_refused : (Nat → Int32)} {x0_isKept : Int32} {x0_gone : Int32} {x0_spent : Int32} {x1_elements : (Nat → Nat → Int64)} {x1_held : (Nat → Int32)} {x1_sizes : (Nat → Int32)} {m_shelf m_rowSort m_rowSize m_shown : Nat → Int32} {m_rows : Nat → Nat → Int64} {p1 : Int32} (hr : AI 0 2 m_shelf) (hSh : ShA x1_elements x1_held x1_sizes m_shelf m_rowSort m_rowSize m_rows m_shown) : Sf (fX6_noRow (x0_refused, x0_isKept, x0_gone, x0_spent) (x1_elements, x1_held, x1_sizes) p1) (fun r => r = if 0 ≤ p1 ∧ p1 ≤ 7 then (if m_shelf p1.toNatClampNeg = 2 then -3 else if m_shelf p1.toNatClampNeg = 0 then -4 else 0) else -2) := by
  unfold fX6_noRow
  dsimp only [u4, u3]
  refine Sf.bind sX2_has (fun v1 h1 => ?_)
  refine Sf.ite (fun hz => Sf.ok (by rw [if_neg (gd0 h1 hz)])) (fun hz => ?_)
  have hp := gd1 h1 hz
  obtain ⟨f1, f2, f3⟩ := (hSh _ (p8_of hp)).f
  rw [if_pos hp]
  refine Sf.bind (hwS hp) (fun v3 h3 => ?_)
  refine Sf.ite (fun hw => ?_) (fun hw => Sf.ok ?_)
  · have n2 := f1.mp (h3.mp hw)
    rw [if_neg n2]
    refine Sf.bind (hrS hp) (fun v5 h5 => ?_)
    refine Sf.ite (fun hv => Sf.ok ?_) (fun hv => Sf.ok ?_)
    · have n1 : ¬ m_shelf p1.toNatClampNeg = 1 := fun h => (h5.mp hv) (f2.mpr h)
      have n0 : m_shelf p1.toNatClampNeg = 0 := by
        rcases sh_rng hr p1.toNatClampNeg with h | h | h
        · exact h
        · exact absurd h n1
        · exact absurd h n2
      rw [if_pos n0]
    · have y : m_shelf p1.toNatClampNeg = 1 := f2.mp (Classical.byContradiction fun h => hv (h5.mpr h))
      rw [if_neg (by rw [y]; decide)]
  · have y : m_shelf p1.toNatClampNeg = 2 := Classical.byContradiction fun h => hw (h3.mpr (f1.mpr h))
    rw [if_pos y]
theorem setC {x0_refused : (Nat → Int32)} {x0_isKept : Int32} {x0_gone : Int32} {x0_spent : Int32} {x1_elements : (Nat → Nat → Int64)} {x1_held : (Nat → Int32)} {x1_sizes : (Nat → Int32)} {m_shelf m_rowSort m_rowSize m_shown : Nat → Int32} {m_rows : Nat → Nat → Int64} {p1 p2 : Int32} {p3 : Int64} (hr : AI 0 2 m_shelf) (hz : AI 0 40 m_rowSize) (hSh : ShA x1_elements x1_held x1_sizes m_shelf m_rowSort m_rowSize m_rows m_shown) : Sf (fX6_set (x0_refused, x0_isKept, x0_gone, x0_spent) (x1_elements, x1_held, x1_sizes) p1 p2 p3) (fun r => r.1 = stA p1 p2 (m_shelf p1.toNatClampNeg) (m_rowSize p1.toNatClampNeg) ∧ (stD p1 p2 (m_shelf p1.toNatClampNeg) (m_rowSize p1.toNatClampNeg) → r.2.2 = va_up x1_elements p1.toNatClampNeg (va_up (x1_elements p1.toNatClampNeg) p2.toNatClampNeg (fitV (m_rowSort p1.toNatClampNeg) p3))) ∧ (¬ stD p1 p2 (m_shelf p1.toNatClampNeg) (m_rowSize p1.toNatClampNeg) → r.2.2 = x1_elements)) := by
  unfold fX6_set
  dsimp only [u4, u3]
  refine Sf.bind (noRowC hr hSh) (fun v1 h1 => ?_)
  refine Sf.ite (fun hv => ?_) (fun hv => ?_)
  · have hp : 0 ≤ p1 ∧ p1 ≤ 7 := by
      refine Classical.byContradiction fun h => ?_
      rw [if_neg h] at h1
      rw [h1] at hv
      exact absurd hv (by decide)
    rw [if_pos hp] at h1
    have n2 : ¬ m_shelf p1.toNatClampNeg = 2 := by
      intro h
      rw [if_pos h] at h1
      rw [h1] at hv
      exact absurd hv (by decide)
    rw [if_neg n2] at h1
    have n0 : ¬ m_shelf p1.toNatClampNeg = 0 := by
      intro h
      rw [if_pos h] at h1
      rw [h1] at hv
      exact absurd hv (by decide)
    have ew : x1_held p1.toNatClampNeg = m_rowSort p1.toNatClampNeg ∧ x1_sizes p1.toNatClampNeg = m_rowSize p1.toNatClampNeg := by
      rcases hSh _ (p8_of hp) with ⟨a, _⟩ | ⟨_, a, _, b, _⟩ | ⟨a, _⟩
      · exact absurd a n0
      · exact ⟨a, b⟩
      · exact absurd a n2
    refine Sf.rdb 8 rfl ⟨hp.1, Int32.lt_of_le_of_lt hp.2 (by decide)⟩ (fun v3 e3 => ?_)
    rw [ew.2] at e3
    refine Sf.bind sX6_within (fun v4 h4 => ?_)
    rw [e3] at h4
    refine Sf.ite (fun h0 => ?_) (fun h0 => ?_)
    · have no := gd0 h4 h0
      refine Sf.bind refC ?_
      rintro ⟨v, g⟩ e
      have e : v = -2 := e
      refine Sf.ok ⟨?_, fun h => absurd h.2.2.2 no, fun _ => rfl⟩
      show v = _
      unfold stA
      rw [if_pos hp, if_neg n2, if_neg n0, if_neg no]
      exact e
    · have yes := gd1 h4 h0
      have h40 := hz p1.toNatClampNeg
      have hi : 0 ≤ p2 ∧ p2 < 40 := by
        generalize m_rowSize p1.toNatClampNeg = x at h40 yes
        clear hr hz hSh h1 h4 ew
        grind
      unfold fX2_put
      dsimp only [u3]
      refine Sf.bind (P := fun g => g = va_up x1_elements p1.toNatClampNeg (va_up (x1_elements p1.toNatClampNeg) p2.toNatClampNeg (fitV (m_rowSort p1.toNatClampNeg) p3))) ?_ (fun g e => Sf.ok ⟨?_, fun _ => e, fun h => absurd ⟨hp, n2, n0, yes⟩ h⟩)
      · refine Sf.ckb 8 rfl ⟨hp.1, Int32.lt_of_le_of_lt hp.2 (by decide)⟩ (fun q eq _ => ?_)
        refine Sf.rdb 8 rfl ⟨hp.1, Int32.lt_of_le_of_lt hp.2 (by decide)⟩ (fun v2 e2 => ?_)
        refine Sf.bind (fitC v2 p3) (fun v5 e5 => ?_)
        refine Sf.wrb 40 rfl hi (fun f6 e6 => ?_)
        refine Sf.ok ?_
        rw [e6, e5, e2, eq, ew.1]
      · show (1 : Int32) = _
        unfold stA
        rw [if_pos hp, if_neg n2, if_neg n0, if_pos yes]
  · refine Sf.bind refC ?_
    rintro ⟨v, g⟩ e
    have e : v = v1 := e
    have hnd : ¬ stD p1 p2 (m_shelf p1.toNatClampNeg) (m_rowSize p1.toNatClampNeg) := by
      rintro ⟨a, b, c, _⟩
      rw [if_pos a, if_neg b, if_neg c] at h1
      exact hv h1
    refine Sf.ok ⟨?_, fun h => absurd h hnd, fun _ => rfl⟩
    show v = _
    rw [e]
    unfold stA
    by_cases hp : 0 ≤ p1 ∧ p1 ≤ 7
    · rw [if_pos hp] at h1 ⊢
      by_cases h2 : m_shelf p1.toNatClampNeg = 2
      · rw [if_pos h2] at h1 ⊢; exact h1
      · rw [if_neg h2] at h1 ⊢
        by_cases h3 : m_shelf p1.toNatClampNeg = 0
        · rw [if_pos h3] at h1 ⊢; exact h1
        · rw [if_neg h3] at h1; exact absurd h1 hv
    · rw [if_neg hp] at h1 ⊢; exact h1
theorem setR {x0_shelf : (Nat → Int32)} {x0_rowSort : (Nat → Int32)} {x0_rowSize : (Nat → Int32)} {x0_rows : (Nat → Nat → Int64)} {x0_moved : (Nat → Int64)} {x0_shown : (Nat → Int32)} {x0_tape : (Nat → Int32)} {x0_tapeSize : Int32} {x0_refused : (Nat → Int32)} {x0_lines : Int32} {x0_line : (Nat → Nat → Int32)} {x0_changes : (Nat → Int32)} {x0_coins : (Nat → Int32)} {x0_goods : Int32} {x0_good : (Nat → Nat → Int32)} {x0_works : Int32} {x0_work : (Nat → Nat → Int32)} {x0_years : Int32} {x0_gone : Int32} {x0_spent : Int32} {x0_at : Int32} {x0_token : Int32} {x0_from : Int32} {x0_figures : Int64} {x0_fault : Int32} {x0_numbers : (Nat → Int32)} {x0_statements : Int32} {x0_left : (Nat → Int32)} {x0_far : (Nat → Int32)} {x0_tons : Int32} {x0_way : (Nat → Int32)} {x0_steps : Int32} {x0_met : Int64} {x0_queue : (Nat → Int32)} {x0_totals : (Nat → Int32)} {p1 p2 : Int32} {p3 : Int64} (h_x0_shelf : (AI 0 2 x0_shelf)) (h_x0_rowSize : (AI 0 40 x0_rowSize)) (h_x0_tapeSize : (0 ≤ x0_tapeSize ∧ x0_tapeSize ≤ 250)) (h_x0_lines : (0 ≤ x0_lines ∧ x0_lines ≤ 20)) (h_x0_line : (LnM x0_line)) (h_x0_changes : (AI 0 99 x0_changes)) (h_x0_coins : (AI 0 9 x0_coins)) (h_x0_goods : (0 ≤ x0_goods ∧ x0_goods ≤ 8)) (h_x0_good : (GdM x0_good)) (h_x0_works : (0 ≤ x0_works ∧ x0_works ≤ 7)) (h_x0_work : (WkM x0_work)) (h_x0_years : (1 ≤ x0_years ∧ x0_years ≤ 30)) (h_x0_from : (0 ≤ x0_from ∧ x0_from ≤ 250)) (h_x0_far : (AI 0 1000000000 x0_far)) (h_x0_way : (AI 0 22 x0_way)) (h_x0_steps : (0 ≤ x0_steps ∧ x0_steps ≤ 37)) (h_x0_queue : (AI 0 35 x0_queue)) : Sf (fX7_set (x0_shelf, x0_rowSort, x0_rowSize, x0_rows, x0_moved, x0_shown, x0_tape, x0_tapeSize, x0_refused, x0_lines, x0_line, x0_changes, x0_coins, x0_goods, x0_good, x0_works, x0_work, x0_years, x0_gone, x0_spent, x0_at, x0_token, x0_from, x0_figures, x0_fault, x0_numbers, x0_statements, x0_left, x0_far, x0_tons, x0_way, x0_steps, x0_met, x0_queue, x0_totals) p1 p2 p3) (fun r => r.1 = stA p1 p2 (x0_shelf p1.toNatClampNeg) (x0_rowSize p1.toNatClampNeg) ∧ (stD p1 p2 (x0_shelf p1.toNatClampNeg) (x0_rowSize p1.toNatClampNeg) → r.2.1 = va_up x0_rows p1.toNatClampNeg (va_up (x0_rows p1.toNatClampNeg) p2.toNatClampNeg (fitV (x0_rowSort p1.toNatClampNeg) p3))) ∧ (¬ stD p1 p2 (x0_shelf p1.toNatClampNeg) (x0_rowSize p1.toNatClampNeg) → r.2.1 = x0_rows)) := by
  unfold fX7_set
  dsimp only [u35]
  refine Sf.bind (s_inq p1 0 7 (by decide) (by decide)) (fun v1 h1 => ?_)
  have ref : ∀ (c : Int32), (-6 ≤ c ∧ c ≤ -2) → c = stA p1 p2 (x0_shelf p1.toNatClampNeg) (x0_rowSize p1.toNatClampNeg) → ¬ stD p1 p2 (x0_shelf p1.toNatClampNeg) (x0_rowSize p1.toNatClampNeg) → Sf ((fX7_refuse (x0_shelf, x0_rowSort, x0_rowSize, x0_rows, x0_moved, x0_shown, x0_tape, x0_tapeSize, x0_refused, x0_lines, x0_line, x0_changes, x0_coins, x0_goods, x0_good, x0_works, x0_work, x0_years, x0_gone, x0_spent, x0_at, x0_token, x0_from, x0_figures, x0_fault, x0_numbers, x0_statements, x0_left, x0_far, x0_tons, x0_way, x0_steps, x0_met, x0_queue, x0_totals) c).bind (u2 fun v g => some (v, x0_rows, g))) (fun r => r.1 = stA p1 p2 (x0_shelf p1.toNatClampNeg) (x0_rowSize p1.toNatClampNeg) ∧ (stD p1 p2 (x0_shelf p1.toNatClampNeg) (x0_rowSize p1.toNatClampNeg) → r.2.1 = va_up x0_rows p1.toNatClampNeg (va_up (x0_rows p1.toNatClampNeg) p2.toNatClampNeg (fitV (x0_rowSort p1.toNatClampNeg) p3))) ∧ (¬ stD p1 p2 (x0_shelf p1.toNatClampNeg) (x0_rowSize p1.toNatClampNeg) → r.2.1 = x0_rows)) := by
    intro c hc e hd
    refine Sf.bind (sX7_refuse h_x0_shelf h_x0_rowSize h_x0_tapeSize h_x0_lines h_x0_line h_x0_changes h_x0_coins h_x0_goods h_x0_good h_x0_works h_x0_work h_x0_years h_x0_from h_x0_far h_x0_way h_x0_steps h_x0_queue hc) ?_
    rintro ⟨v, g⟩ ev
    exact Sf.ok ⟨Eq.trans ev e, fun h => absurd h hd, fun _ => rfl⟩
  refine Sf.ite (fun hz => ?_) (fun hz => ?_)
  · have no := gd0 h1 hz
    exact ref _ (by decide) (by unfold stA; rw [if_neg no]) (fun h => no h.1)
  have hp := gd1 h1 hz
  have hi8 : 0 ≤ p1 ∧ p1 < 8 := ⟨hp.1, Int32.lt_of_le_of_lt hp.2 (by decide)⟩
  refine Sf.rdb 8 rfl hi8 (fun v3 e3 => ?_)
  refine Sf.ite (fun h2 => ?_) (fun h2 => ?_)
  · rw [e3] at h2
    exact ref _ (by decide) (by unfold stA; rw [if_pos hp, if_pos h2]) (fun h => h.2.1 h2)
  rw [e3] at h2
  refine Sf.rdb 8 rfl hi8 (fun v4 e4 => ?_)
  refine Sf.ite (fun h0 => ?_) (fun h0 => ?_)
  · rw [e4] at h0
    exact ref _ (by decide) (by unfold stA; rw [if_pos hp, if_neg h2, if_pos h0]) (fun h => h.2.2.1 h0)
  rw [e4] at h0
  refine Sf.rdb 8 rfl hi8 (fun v5 e5 => ?_)
  refine Sf.bind (s_inq p2 0 (v5 - 1) (by decide) rfl) (fun v6 h6 => ?_)
  rw [e5] at h6
  refine Sf.ite (fun hv => ?_) (fun hv => ?_)
  · have no := gd0 h6 hv
    exact ref _ (by decide) (by unfold stA; rw [if_pos hp, if_neg h2, if_neg h0, if_neg no]) (fun h => no h.2.2.2)
  have yes := gd1 h6 hv
  have h40 := h_x0_rowSize p1.toNatClampNeg
  have hi : 0 ≤ p2 ∧ p2 < 40 := by
    generalize x0_rowSize p1.toNatClampNeg = x at h40 yes
    clear h1 h6 ref e5
    grind
  refine Sf.ckb 8 rfl hi8 (fun q eq _ => ?_)
  refine Sf.rdb 8 rfl hi8 (fun v9 e9 => ?_)
  refine Sf.bind (fitR v9 p3) (fun v10 e10 => ?_)
  refine Sf.wrb 40 rfl hi (fun f12 e12 => ?_)
  refine Sf.ok ⟨?_, fun _ => ?_, fun h => absurd ⟨hp, h2, h0, yes⟩ h⟩
  · show (1 : Int32) = _
    unfold stA
    rw [if_pos hp, if_neg h2, if_neg h0, if_pos yes]
  · show va_up x0_rows q f12 = _
    rw [e12, e10, e9, eq]
theorem ShA.put {el el' : Nat → Nat → Int64} {he si sh rs rz : Nat → Int32} {rw_ rw' : Nat → Nat → Int64} {sn : Nat → Int32} {p : Nat} {f g : Nat → Int64} (h : ShA el he si sh rs rz rw_ sn) (h1 : sh p = 1) (e1 : el' = va_up el p f) (e2 : rw' = va_up rw_ p g) (hfg : (∀ i, i < 40 → el p i = rw_ p i) → he p = rs p → ∀ i, i < 40 → f i = g i) : ShA el' he si sh rs rz rw' sn := by
  intro s hs
  rcases h s hs with a | ⟨a, b, c, d, k⟩ | a
  · exact Or.inl a
  · refine Or.inr (Or.inl ⟨a, b, c, d, fun i hi => ?_⟩)
    rw [e1, e2]
    by_cases e : s = p
    · subst e
      rw [va_eq, va_eq]
      exact hfg k b i hi
    · rw [va_ne _ _ e, va_ne _ _ e]
      exact k i hi
  · exact Or.inr (Or.inr a)
theorem dSet {x0_refused : (Nat → Int32)} {x0_isKept : Int32} {x0_gone : Int32} {x0_spent : Int32} {x1_elements : (Nat → Nat → Int64)} {x1_held : (Nat → Int32)} {x1_sizes : (Nat → Int32)} {m_shelf : (Nat → Int32)} {m_rowSort : (Nat → Int32)} {m_rowSize : (Nat → Int32)} {m_rows : (Nat → Nat → Int64)} {m_moved : (Nat → Int64)} {m_shown : (Nat → Int32)} {m_tape : (Nat → Int32)} {m_tapeSize : Int32} {m_refused : (Nat → Int32)} {m_lines : Int32} {m_line : (Nat → Nat → Int32)} {m_changes : (Nat → Int32)} {m_coins : (Nat → Int32)} {m_goods : Int32} {m_good : (Nat → Nat → Int32)} {m_works : Int32} {m_work : (Nat → Nat → Int32)} {m_years : Int32} {m_gone : Int32} {m_spent : Int32} {m_at : Int32} {m_token : Int32} {m_from : Int32} {m_figures : Int64} {m_fault : Int32} {m_numbers : (Nat → Int32)} {m_statements : Int32} {m_left : (Nat → Int32)} {m_far : (Nat → Int32)} {m_tons : Int32} {m_way : (Nat → Int32)} {m_steps : Int32} {m_met : Int64} {m_queue : (Nat → Int32)} {m_totals : (Nat → Int32)} {p1 p2 er fr : Int32} {p3 : Int64} {e0 f1 : Nat → Int32} {e1 f0 : Nat → Nat → Int64} (h_m_shelf : (AI 0 2 m_shelf)) (h_m_rowSize : (AI 0 40 m_rowSize)) (h_m_tapeSize : (0 ≤ m_tapeSize ∧ m_tapeSize ≤ 250)) (h_m_lines : (0 ≤ m_lines ∧ m_lines ≤ 20)) (h_m_line : (LnM m_line)) (h_m_changes : (AI 0 99 m_changes)) (h_m_coins : (AI 0 9 m_coins)) (h_m_goods : (0 ≤ m_goods ∧ m_goods ≤ 8)) (h_m_good : (GdM m_good)) (h_m_works : (0 ≤ m_works ∧ m_works ≤ 7)) (h_m_work : (WkM m_work)) (h_m_years : (1 ≤ m_years ∧ m_years ≤ 30)) (h_m_from : (0 ≤ m_from ∧ m_from ≤ 250)) (h_m_far : (AI 0 1000000000 m_far)) (h_m_way : (AI 0 22 m_way)) (h_m_steps : (0 ≤ m_steps ∧ m_steps ≤ 37)) (h_m_queue : (AI 0 35 m_queue)) (hSh : ShA x1_elements x1_held x1_sizes m_shelf m_rowSort m_rowSize m_rows m_shown) (eqA : fX6_set (x0_refused, x0_isKept, x0_gone, x0_spent) (x1_elements, x1_held, x1_sizes) p1 p2 p3 = some (er, e0, e1)) (eqB : fX7_set (m_shelf, m_rowSort, m_rowSize, m_rows, m_moved, m_shown, m_tape, m_tapeSize, m_refused, m_lines, m_line, m_changes, m_coins, m_goods, m_good, m_works, m_work, m_years, m_gone, m_spent, m_at, m_token, m_from, m_figures, m_fault, m_numbers, m_statements, m_left, m_far, m_tons, m_way, m_steps, m_met, m_queue, m_totals) p1 p2 p3 = some (fr, f0, f1)) : er = fr ∧ ShA e1 x1_held x1_sizes m_shelf m_rowSort m_rowSize f0 m_shown := by
  obtain ⟨a1, a2, a3⟩ := (setC h_m_shelf h_m_rowSize hSh).at eqA
  obtain ⟨b1, b2, b3⟩ := (setR h_m_shelf h_m_rowSize h_m_tapeSize h_m_lines h_m_line h_m_changes h_m_coins h_m_goods h_m_good h_m_works h_m_work h_m_years h_m_from h_m_far h_m_way h_m_steps h_m_queue).at eqB
  have a1 : er = _ := a1
  have b1 : fr = _ := b1
  have a2 : _ → e1 = _ := a2
  have a3 : _ → e1 = x1_elements := a3
  have b2 : _ → f0 = _ := b2
  have b3 : _ → f0 = m_rows := b3
  refine ⟨a1.trans b1.symm, ?_⟩
  by_cases hd : stD p1 p2 (m_shelf p1.toNatClampNeg) (m_rowSize p1.toNatClampNeg)
  · have y : m_shelf p1.toNatClampNeg = 1 := by
      rcases sh_rng h_m_shelf p1.toNatClampNeg with h | h | h
      · exact absurd h hd.2.2.1
      · exact h
      · exact absurd h hd.2.1
    refine hSh.put y (a2 hd) (b2 hd) (fun k _ i hi => ?_)
    by_cases e : i = p2.toNatClampNeg
    · rw [e, va_eq, va_eq]
    · rw [va_ne _ _ e, va_ne _ _ e]
      exact k i hi
  · rw [a3 hd, b3 hd]
    exact hSh
/-- row -/
theorem fillL {n : Nat} {f : Nat → Int64} {x : Int64} (hn : 1000000000000 ≤ n) : Sf (fJ7_fill_d0a16 n 40 f x) (fun r => ∀ k : Nat, k < 40 → r k = x) := by
  unfold fJ7_fill_d0a16
  refine Sf.bind (P := fun r => ∀ k : Nat, k < 40 → r k = x) ?_ (fun r h => Sf.ok h)
  refine Sf.loop2 (fun (z2 : Int32) (z3 : Nat → Int64) => (0 ≤ z2 ∧ z2 ≤ 40) ∧ ∀ k : Nat, k < z2.toNatClampNeg → z3 k = x) (fun z2 z3 => muUp z2) (fun z2 z3 h => ?_) (show (0 ≤ (0 : Int32) ∧ (0 : Int32) ≤ 40) ∧ ∀ k : Nat, k < (0 : Int32).toNatClampNeg → f k = x from ⟨by decide, fun k hk => absurd hk (Nat.not_lt_zero k)⟩) (muUp_n hn)
  obtain ⟨i0, i1⟩ := h
  unfold fJ7_fill_d0a16_s6
  refine Sf.ite (fun hc => Sf.inr ?_) (fun hc => ?_)
  · have hc : 40 ≤ z2 := hc
    have e : z2 = 40 := Int32.le_antisymm i0.2 hc
    rw [e] at i1
    exact i1
  have hc : ¬ 40 ≤ z2 := hc
  obtain ⟨p0, p1, p3⟩ := up1 i0.1 (B := 40) (by decide) hc
  refine Sf.wrb 40 rfl ⟨i0.1, p3⟩ (fun f6 e6 => ?_)
  refine Sf.inl (show (0 ≤ z2 + 1 ∧ z2 + 1 ≤ 40) ∧ ∀ k : Nat, k < (z2 + 1).toNatClampNeg → f6 k = x from ⟨⟨p0, by clear i1 e6; grind⟩, fun k hk => ?_⟩) (muUp_lt hc)
  rw [p1] at hk
  rw [e6]
  by_cases e : k = z2.toNatClampNeg
  · rw [e, va_eq]
  · rw [va_ne _ _ e]
    exact i1 k (by omega)
def VRow (p1 p2 p3 : Int32) : Prop := (0 ≤ p1 ∧ p1 ≤ 7) ∧ (0 ≤ p2 ∧ p2 ≤ 4) ∧ (0 ≤ p3 ∧ p3 ≤ 40)
theorem rowC {n : Nat} {x0_refused : (Nat → Int32)} {x0_isKept : Int32} {x0_gone : Int32} {x0_spent : Int32} {x1_elements : (Nat → Nat → Int64)} {x1_held : (Nat → Int32)} {x1_sizes : (Nat → Int32)} {p1 p2 p3 : Int32} (hn : 1000000000000 ≤ n) : Sf (fX6_row n (x0_refused, x0_isKept, x0_gone, x0_spent) (x1_elements, x1_held, x1_sizes) p1 p2 p3) (fun r => AP (VRow p1 p2 p3) r.1 (VRow p1 p2 p3 ∧ r.2.2.2.1 = va_up x1_held p1.toNatClampNeg p2 ∧ r.2.2.2.2 = va_up x1_sizes p1.toNatClampNeg p3 ∧ ∃ g, r.2.2.1 = va_up x1_elements p1.toNatClampNeg g ∧ ∀ i, i < 40 → g i = 0) (r.2.2.1 = x1_elements ∧ r.2.2.2.1 = x1_held ∧ r.2.2.2.2 = x1_sizes)) := by
  unfold fX6_row
  dsimp only [u4, u3]
  have no : ¬ VRow p1 p2 p3 → Sf ((fX6_refuse (x0_refused, x0_isKept, x0_gone, x0_spent) (-2)).bind (u2 fun v g => some (v, g, x1_elements, x1_held, x1_sizes))) (fun r => AP (VRow p1 p2 p3) r.1 (VRow p1 p2 p3 ∧ r.2.2.2.1 = va_up x1_held p1.toNatClampNeg p2 ∧ r.2.2.2.2 = va_up x1_sizes p1.toNatClampNeg p3 ∧ ∃ g, r.2.2.1 = va_up x1_elements p1.toNatClampNeg g ∧ ∀ i, i < 40 → g i = 0) (r.2.2.1 = x1_elements ∧ r.2.2.2.1 = x1_held ∧ r.2.2.2.2 = x1_sizes)) := by
    intro hV
    refine Sf.bind refC ?_
    rintro ⟨v, g⟩ e
    exact Sf.ok (Or.inr ⟨hV, e, rfl, rfl, rfl⟩)
  refine Sf.bind sX2_has (fun v1 h1 => Sf.ite (fun hz => no (fun V => gd0 h1 hz V.1)) (fun hz => ?_))
  have c1 := gd1 h1 hz
  refine Sf.bind sX6_within (fun v6 h6 => Sf.ite (fun hz => no (fun V => gd0 h6 hz V.2.1)) (fun hz => ?_))
  have c2 := gd1 h6 hz
  refine Sf.bind sX6_within (fun v11 h11 => Sf.ite (fun hz => no (fun V => gd0 h11 hz V.2.2)) (fun hz => ?_))
  have c3 := gd1 h11 hz
  have hi8 : 0 ≤ p1 ∧ p1 < 8 := ⟨c1.1, Int32.lt_of_le_of_lt c1.2 (by decide)⟩
  unfold fX2_putRow
  dsimp only [u3]
  refine Sf.bind (P := fun r => r.2.1 = va_up x1_held p1.toNatClampNeg p2 ∧ r.2.2 = va_up x1_sizes p1.toNatClampNeg p3 ∧ ∃ g, r.1 = va_up x1_elements p1.toNatClampNeg g ∧ ∀ i, i < 40 → g i = 0) ?_ ?_
  · refine Sf.wrb 8 rfl hi8 (fun f1 e1 => ?_)
    refine Sf.wrb 8 rfl hi8 (fun f2 e2 => ?_)
    refine Sf.ckb 8 rfl hi8 (fun q eq _ => ?_)
    refine Sf.bind (fillL hn) (fun g4 h4 => ?_)
    exact Sf.ok ⟨e1, e2, g4, by rw [eq], h4⟩
  · rintro ⟨g13, g14, g15⟩ h
    exact Sf.ok (Or.inl ⟨⟨c1, c2, c3⟩, ⟨c1, c2, c3⟩, h⟩)
theorem rowR {n : Nat} {x0_shelf : (Nat → Int32)} {x0_rowSort : (Nat → Int32)} {x0_rowSize : (Nat → Int32)} {x0_rows : (Nat → Nat → Int64)} {x0_moved : (Nat → Int64)} {x0_shown : (Nat → Int32)} {x0_tape : (Nat → Int32)} {x0_tapeSize : Int32} {x0_refused : (Nat → Int32)} {x0_lines : Int32} {x0_line : (Nat → Nat → Int32)} {x0_changes : (Nat → Int32)} {x0_coins : (Nat → Int32)} {x0_goods : Int32} {x0_good : (Nat → Nat → Int32)} {x0_works : Int32} {x0_work : (Nat → Nat → Int32)} {x0_years : Int32} {x0_gone : Int32} {x0_spent : Int32} {x0_at : Int32} {x0_token : Int32} {x0_from : Int32} {x0_figures : Int64} {x0_fault : Int32} {x0_numbers : (Nat → Int32)} {x0_statements : Int32} {x0_left : (Nat → Int32)} {x0_far : (Nat → Int32)} {x0_tons : Int32} {x0_way : (Nat → Int32)} {x0_steps : Int32} {x0_met : Int64} {x0_queue : (Nat → Int32)} {x0_totals : (Nat → Int32)} {p1 p2 p3 : Int32} (hn : 1000000000000 ≤ n) (h_x0_shelf : (AI 0 2 x0_shelf)) (h_x0_rowSize : (AI 0 40 x0_rowSize)) (h_x0_tapeSize : (0 ≤ x0_tapeSize ∧ x0_tapeSize ≤ 250)) (h_x0_lines : (0 ≤ x0_lines ∧ x0_lines ≤ 20)) (h_x0_line : (LnM x0_line)) (h_x0_changes : (AI 0 99 x0_changes)) (h_x0_coins : (AI 0 9 x0_coins)) (h_x0_goods : (0 ≤ x0_goods ∧ x0_goods ≤ 8)) (h_x0_good : (GdM x0_good)) (h_x0_works : (0 ≤ x0_works ∧ x0_works ≤ 7)) (h_x0_work : (WkM x0_work)) (h_x0_years : (1 ≤ x0_years ∧ x0_years ≤ 30)) (h_x0_from : (0 ≤ x0_from ∧ x0_from ≤ 250)) (h_x0_far : (AI 0 1000000000 x0_far)) (h_x0_way : (AI 0 22 x0_way)) (h_x0_steps : (0 ≤ x0_steps ∧ x0_steps ≤ 37)) (h_x0_queue : (AI 0 35 x0_queue)) : Sf (fX7_row n (x0_shelf, x0_rowSort, x0_rowSize, x0_rows, x0_moved, x0_shown, x0_tape, x0_tapeSize, x0_refused, x0_lines, x0_line, x0_changes, x0_coins, x0_goods, x0_good, x0_works, x0_work, x0_years, x0_gone, x0_spent, x0_at, x0_token, x0_from, x0_figures, x0_fault, x0_numbers, x0_statements, x0_left, x0_far, x0_tons, x0_way, x0_steps, x0_met, x0_queue, x0_totals) p1 p2 p3) (fun r => AP (VRow p1 p2 p3) r.1 (r.2.1 = va_up x0_shelf p1.toNatClampNeg 1 ∧ r.2.2.1 = va_up x0_rowSort p1.toNatClampNeg p2 ∧ r.2.2.2.1 = va_up x0_rowSize p1.toNatClampNeg p3 ∧ ∀ s i, i < 40 → r.2.2.2.2.1 s i = if s = p1.toNatClampNeg then 0 else x0_rows s i) (r.2.1 = x0_shelf ∧ r.2.2.1 = x0_rowSort ∧ r.2.2.2.1 = x0_rowSize ∧ r.2.2.2.2.1 = x0_rows)) := by
  unfold fX7_row
  dsimp only [u35]
  have no : ¬ VRow p1 p2 p3 → Sf ((fX7_refuse (x0_shelf, x0_rowSort, x0_rowSize, x0_rows, x0_moved, x0_shown, x0_tape, x0_tapeSize, x0_refused, x0_lines, x0_line, x0_changes, x0_coins, x0_goods, x0_good, x0_works, x0_work, x0_years, x0_gone, x0_spent, x0_at, x0_token, x0_from, x0_figures, x0_fault, x0_numbers, x0_statements, x0_left, x0_far, x0_tons, x0_way, x0_steps, x0_met, x0_queue, x0_totals) (-2)).bind (u2 fun v g => some (v, (x0_shelf, x0_rowSort, x0_rowSize, x0_rows, g)))) (fun r => AP (VRow p1 p2 p3) r.1 (r.2.1 = va_up x0_shelf p1.toNatClampNeg 1 ∧ r.2.2.1 = va_up x0_rowSort p1.toNatClampNeg p2 ∧ r.2.2.2.1 = va_up x0_rowSize p1.toNatClampNeg p3 ∧ ∀ s i, i < 40 → r.2.2.2.2.1 s i = if s = p1.toNatClampNeg then 0 else x0_rows s i) (r.2.1 = x0_shelf ∧ r.2.2.1 = x0_rowSort ∧ r.2.2.2.1 = x0_rowSize ∧ r.2.2.2.2.1 = x0_rows)) := by
    intro hV
    refine Sf.bind (sX7_refuse h_x0_shelf h_x0_rowSize h_x0_tapeSize h_x0_lines h_x0_line h_x0_changes h_x0_coins h_x0_goods h_x0_good h_x0_works h_x0_work h_x0_years h_x0_from h_x0_far h_x0_way h_x0_steps h_x0_queue (by decide)) ?_
    rintro ⟨v, g⟩ e
    exact Sf.ok (Or.inr ⟨hV, e, rfl, rfl, rfl, rfl⟩)
  refine Sf.bind (s_inq p1 0 7 (by decide) (by decide)) (fun v1 h1 => Sf.ite (fun hz => no (fun V => gd0 h1 hz V.1)) (fun hz => ?_))
  have c1 := gd1 h1 hz
  refine Sf.bind (s_inq p2 0 4 (by decide) (by decide)) (fun v6 h6 => Sf.ite (fun hz => no (fun V => gd0 h6 hz V.2.1)) (fun hz => ?_))
  have c2 := gd1 h6 hz
  refine Sf.bind (s_inq p3 0 40 (by decide) (by decide)) (fun v11 h11 => Sf.ite (fun hz => no (fun V => gd0 h11 hz V.2.2)) (fun hz => ?_))
  have c3 := gd1 h11 hz
  have hi8 : 0 ≤ p1 ∧ p1 < 8 := ⟨c1.1, Int32.lt_of_le_of_lt c1.2 (by decide)⟩
  refine Sf.wrb 8 rfl hi8 (fun f13 e13 => ?_)
  refine Sf.wrb 8 rfl hi8 (fun f14 e14 => ?_)
  refine Sf.wrb 8 rfl hi8 (fun f15 e15 => ?_)
  refine Sf.bind (P := fun w => ∀ s i, i < 40 → w s i = if s = p1.toNatClampNeg then 0 else x0_rows s i) ?_ (fun w h => Sf.ok (Or.inl ⟨⟨c1, c2, c3⟩, e13, e14, e15, h⟩))
  refine Sf.loop2 (fun (z17 : Int32) (z18 : Nat → Nat → Int64) => (0 ≤ z17 ∧ z17 ≤ 40) ∧ (∀ i, i < z17.toNatClampNeg → z18 p1.toNatClampNeg i = 0) ∧ ∀ s, s ≠ p1.toNatClampNeg → z18 s = x0_rows s) (fun z17 z18 => muUp z17) (fun z17 z18 h => ?_) (show (0 ≤ (0 : Int32) ∧ (0 : Int32) ≤ 40) ∧ (∀ i, i < (0 : Int32).toNatClampNeg → x0_rows p1.toNatClampNeg i = 0) ∧ ∀ s, s ≠ p1.toNatClampNeg → x0_rows s = x0_rows s from ⟨by decide, fun i hi => absurd hi (Nat.not_lt_zero i), fun _ _ => rfl⟩) (muUp_n hn)
  obtain ⟨i0, i1, i2⟩ := h
  unfold fX7_row_s67
  refine Sf.ite (fun hc => Sf.inr ?_) (fun hc => ?_)
  · have e : z17 = 40 := Int32.le_antisymm i0.2 hc
    rw [e] at i1
    intro s i hi
    by_cases es : s = p1.toNatClampNeg
    · rw [if_pos es, es]; exact i1 i hi
    · rw [if_neg es, i2 s es]
  obtain ⟨q0, q1, q3⟩ := up1 i0.1 (B := 40) (by decide) hc
  refine Sf.ckb 8 rfl hi8 (fun q21 e21 _ => ?_)
  refine Sf.wrb 40 rfl ⟨i0.1, q3⟩ (fun f22 e22 => ?_)
  refine Sf.inl (show (0 ≤ z17 + 1 ∧ z17 + 1 ≤ 40) ∧ (∀ i, i < (z17 + 1).toNatClampNeg → va_up z18 q21 f22 p1.toNatClampNeg i = 0) ∧ ∀ s, s ≠ p1.toNatClampNeg → va_up z18 q21 f22 s = x0_rows s from ⟨⟨q0, by clear i1 i2 e22 no h1 h6 h11; grind⟩, fun i hi => ?_, fun s hs => ?_⟩) (muUp_lt hc)
  · rw [q1] at hi
    rw [e21, va_eq, e22, e21]
    by_cases e : i = z17.toNatClampNeg
    · rw [e, va_eq]
    · rw [va_ne _ _ e]
      exact i1 i (by omega)
  · rw [e21, va_ne _ _ hs]
    exact i2 s hs
theorem dRow {n : Nat} {x0_refused : (Nat → Int32)} {x0_isKept : Int32} {x0_gone : Int32} {x0_spent : Int32} {x1_elements : (Nat → Nat → Int64)} {x1_held : (Nat → Int32)} {x1_sizes : (Nat → Int32)} {m_shelf : (Nat → Int32)} {m_rowSort : (Nat → Int32)} {m_rowSize : (Nat → Int32)} {m_rows : (Nat → Nat → Int64)} {m_moved : (Nat → Int64)} {m_shown : (Nat → Int32)} {m_tape : (Nat → Int32)} {m_tapeSize : Int32} {m_refused : (Nat → Int32)} {m_lines : Int32} {m_line : (Nat → Nat → Int32)} {m_changes : (Nat → Int32)} {m_coins : (Nat → Int32)} {m_goods : Int32} {m_good : (Nat → Nat → Int32)} {m_works : Int32} {m_work : (Nat → Nat → Int32)} {m_years : Int32} {m_gone : Int32} {m_spent : Int32} {m_at : Int32} {m_token : Int32} {m_from : Int32} {m_figures : Int64} {m_fault : Int32} {m_numbers : (Nat → Int32)} {m_statements : Int32} {m_left : (Nat → Int32)} {m_far : (Nat → Int32)} {m_tons : Int32} {m_way : (Nat → Int32)} {m_steps : Int32} {m_met : Int64} {m_queue : (Nat → Int32)} {m_totals : (Nat → Int32)} {p1 p2 p3 er fr : Int32} {e0 e2 e3 f0 f1 f2 f4 : Nat → Int32} {e1 f3 : Nat → Nat → Int64} (hn : 1000000000000 ≤ n) (h_m_shelf : (AI 0 2 m_shelf)) (h_m_rowSize : (AI 0 40 m_rowSize)) (h_m_tapeSize : (0 ≤ m_tapeSize ∧ m_tapeSize ≤ 250)) (h_m_lines : (0 ≤ m_lines ∧ m_lines ≤ 20)) (h_m_line : (LnM m_line)) (h_m_changes : (AI 0 99 m_changes)) (h_m_coins : (AI 0 9 m_coins)) (h_m_goods : (0 ≤ m_goods ∧ m_goods ≤ 8)) (h_m_good : (GdM m_good)) (h_m_works : (0 ≤ m_works ∧ m_works ≤ 7)) (h_m_work : (WkM m_work)) (h_m_years : (1 ≤ m_years ∧ m_years ≤ 30)) (h_m_from : (0 ≤ m_from ∧ m_from ≤ 250)) (h_m_far : (AI 0 1000000000 m_far)) (h_m_way : (AI 0 22 m_way)) (h_m_steps : (0 ≤ m_steps ∧ m_steps ≤ 37)) (h_m_queue : (AI 0 35 m_queue)) (hSh : ShA x1_elements x1_held x1_sizes m_shelf m_rowSort m_rowSize m_rows m_shown) (eqA : fX6_row n (x0_refused, x0_isKept, x0_gone, x0_spent) (x1_elements, x1_held, x1_sizes) p1 p2 p3 = some (er, e0, e1, e2, e3)) (eqB : fX7_row n (m_shelf, m_rowSort, m_rowSize, m_rows, m_moved, m_shown, m_tape, m_tapeSize, m_refused, m_lines, m_line, m_changes, m_coins, m_goods, m_good, m_works, m_work, m_years, m_gone, m_spent, m_at, m_token, m_from, m_figures, m_fault, m_numbers, m_statements, m_left, m_far, m_tons, m_way, m_steps, m_met, m_queue, m_totals) p1 p2 p3 = some (fr, (f0, f1, f2, f3, f4))) : ShA e1 e2 e3 f0 f1 f2 f3 m_shown := by
  have a := (rowC hn).at eqA
  have b := (rowR hn h_m_shelf h_m_rowSize h_m_tapeSize h_m_lines h_m_line h_m_changes h_m_coins h_m_goods h_m_good h_m_works h_m_work h_m_years h_m_from h_m_far h_m_way h_m_steps h_m_queue).at eqB
  rcases AP_eq a b with ⟨⟨hV, a1, a2, g, a3, a4⟩, b1, b2, b3, b4⟩ | ⟨_, ⟨a1, a2, a3⟩, b1, b2, b3, b4⟩
  · have a1 : e2 = _ := a1
    have a2 : e3 = _ := a2
    have a3 : e1 = _ := a3
    have b1 : f0 = _ := b1
    have b2 : f1 = _ := b2
    have b3 : f2 = _ := b3
    have b4 : ∀ s i, i < 40 → f3 s i = if s = p1.toNatClampNeg then 0 else m_rows s i := b4
    intro s hs
    by_cases e : s = p1.toNatClampNeg
    · refine Or.inr (Or.inl ⟨?_, ?_, ?_, ?_, fun i hi => ?_⟩)
      · rw [b1, e, va_eq]
      · rw [a1, b2, e, va_eq, va_eq]
      · rw [a1, e, va_eq]; exact hV.2.1
      · rw [a2, b3, e, va_eq, va_eq]
      · rw [b4 s i hi, if_pos e, a3, e, va_eq]; exact a4 i hi
    · rcases hSh s hs with ⟨x1, x2⟩ | ⟨x1, x2, x3, x4, x5⟩ | ⟨x1, x2⟩
      · refine Or.inl ⟨?_, ?_⟩
        · rw [b1, va_ne _ _ e]; exact x1
        · rw [a1, va_ne _ _ e]; exact x2
      · refine Or.inr (Or.inl ⟨?_, ?_, ?_, ?_, fun i hi => ?_⟩)
        · rw [b1, va_ne _ _ e]; exact x1
        · rw [a1, b2, va_ne _ _ e, va_ne _ _ e]; exact x2
        · rw [a1, va_ne _ _ e]; exact x3
        · rw [a2, b3, va_ne _ _ e, va_ne _ _ e]; exact x4
        · rw [b4 s i hi, if_neg e, a3, va_ne _ _ e]; exact x5 i hi
      · refine Or.inr (Or.inr ⟨?_, ?_⟩)
        · rw [b1, va_ne _ _ e]; exact x1
        · rw [a1, va_ne _ _ e]; exact x2
  · have a1 : e1 = _ := a1
    have a2 : e2 = _ := a2
    have a3 : e3 = _ := a3
    have b1 : f0 = _ := b1
    have b2 : f1 = _ := b2
    have b3 : f2 = _ := b3
    have b4 : f3 = _ := b4
    rw [a1, a2, a3, b1, b2, b3, b4]
    exact hSh
/-- show -/
theorem showC {x0_refused : (Nat → Int32)} {x0_isKept : Int32} {x0_gone : Int32} {x0_spent : Int32} {x1_elements : (Nat → Nat → Int64)} {x1_held : (Nat → Int32)} {x1_sizes : (Nat → Int32)} {x2_lineCount : Int32} {x2_goodsCount : Int32} {x2_workCount : Int32} {x2_years : Int32} {x2_lines : (Nat → Int32)} {x2_goods : (Nat → Int32)} {x2_works : (Nat → Int32)} {x2_change : (Nat → Int32)} {x2_coin : (Nat → Int32)} {x2_knownFree : (Nat → Int32)} {x2_isKnown : Int32} {p1 p2 : Int32} (h_x2_lineCount : (0 ≤ x2_lineCount ∧ x2_lineCount ≤ 20)) (h_x2_goodsCount : (0 ≤ x2_goodsCount ∧ x2_goodsCount ≤ 8)) (h_x2_workCount : (0 ≤ x2_workCount ∧ x2_workCount ≤ 7)) (h_x2_years : (1 ≤ x2_years ∧ x2_years ≤ 30)) (h_x2_lines : (LnOk x2_lines)) (h_x2_goods : (GdOk x2_goods)) (h_x2_works : (WkOk x2_works)) (h_x2_change : (AI 0 99 x2_change)) (h_x2_coin : (AI 0 9 x2_coin)) : Sf (fX6_show (x0_refused, x0_isKept, x0_gone, x0_spent) (x1_elements, x1_held, x1_sizes) (x2_lineCount, x2_goodsCount, x2_workCount, x2_years, x2_lines, x2_goods, x2_works, x2_change, x2_coin, x2_knownFree, x2_isKnown) p1 p2) (fun r => AP ((0 ≤ p1 ∧ p1 ≤ 7) ∧ (p2 = -1 ∨ (0 ≤ p2 ∧ p2 < x2_workCount))) r.1 (((0 ≤ p1 ∧ p1 ≤ 7) ∧ (p2 = -1 ∨ (0 ≤ p2 ∧ p2 < x2_workCount))) ∧ r.1 = 1 ∧ r.2.2 = va_up x1_held p1.toNatClampNeg (if p2 = -1 then -1 else 10 + p2)) (r.2.2 = x1_held)) := by
  unfold fX6_show
  dsimp only [u4, u3, u11]
  have no : ¬ ((0 ≤ p1 ∧ p1 ≤ 7) ∧ (p2 = -1 ∨ (0 ≤ p2 ∧ p2 < x2_workCount))) → Sf ((fX6_refuse (x0_refused, x0_isKept, x0_gone, x0_spent) (-2)).bind (u2 fun v g => some (v, g, x1_held))) (fun r => AP ((0 ≤ p1 ∧ p1 ≤ 7) ∧ (p2 = -1 ∨ (0 ≤ p2 ∧ p2 < x2_workCount))) r.1 (((0 ≤ p1 ∧ p1 ≤ 7) ∧ (p2 = -1 ∨ (0 ≤ p2 ∧ p2 < x2_workCount))) ∧ r.1 = 1 ∧ r.2.2 = va_up x1_held p1.toNatClampNeg (if p2 = -1 then -1 else 10 + p2)) (r.2.2 = x1_held)) := by
    intro hV
    refine Sf.bind refC ?_
    rintro ⟨v, g⟩ e
    exact Sf.ok (Or.inr ⟨hV, e, rfl⟩)
  refine Sf.bind sX2_has (fun v1 h1 => Sf.ite (fun hz => no (fun V => gd0 h1 hz V.1)) (fun hz => ?_))
  have c1 := gd1 h1 hz
  have hi8 : 0 ≤ p1 ∧ p1 < 8 := ⟨c1.1, Int32.lt_of_le_of_lt c1.2 (by decide)⟩
  refine Sf.ite (fun hm => ?_) (fun hm => ?_)
  · unfold fX6_show_j30
    rw [if_pos hm]
    refine Sf.wrb 8 rfl hi8 (fun f7 e7 => ?_)
    exact Sf.ok (Or.inl ⟨⟨c1, Or.inl hm⟩, ⟨c1, Or.inl hm⟩, rfl, by rw [if_pos hm]; exact e7⟩)
  · refine Sf.bind hasWorkS (fun v8 h8 => ?_)
    refine Sf.ite (fun hz => no (fun V => ?_)) (fun hz => ?_)
    · rcases V.2 with h | h
      · exact hm h
      · refine gd0 h8 hz ⟨h.1, ?_⟩
        have q := h_x2_workCount
        have r := h.2
        clear V no h1 h8
        grind
    · have c2 := gd1 h8 hz
      have c3 : 0 ≤ p2 ∧ p2 < x2_workCount := ⟨c2.1, by have q := h_x2_workCount; clear no h1 h8; grind⟩
      unfold fX6_show_j30
      rw [if_neg hm]
      refine Sf.wrb 8 rfl hi8 (fun f7 e7 => ?_)
      exact Sf.ok (Or.inl ⟨⟨c1, Or.inr c3⟩, ⟨c1, Or.inr c3⟩, rfl, by rw [if_neg hm]; exact e7⟩)
theorem showR {x0_shelf : (Nat → Int32)} {x0_rowSort : (Nat → Int32)} {x0_rowSize : (Nat → Int32)} {x0_rows : (Nat → Nat → Int64)} {x0_moved : (Nat → Int64)} {x0_shown : (Nat → Int32)} {x0_tape : (Nat → Int32)} {x0_tapeSize : Int32} {x0_refused : (Nat → Int32)} {x0_lines : Int32} {x0_line : (Nat → Nat → Int32)} {x0_changes : (Nat → Int32)} {x0_coins : (Nat → Int32)} {x0_goods : Int32} {x0_good : (Nat → Nat → Int32)} {x0_works : Int32} {x0_work : (Nat → Nat → Int32)} {x0_years : Int32} {x0_gone : Int32} {x0_spent : Int32} {x0_at : Int32} {x0_token : Int32} {x0_from : Int32} {x0_figures : Int64} {x0_fault : Int32} {x0_numbers : (Nat → Int32)} {x0_statements : Int32} {x0_left : (Nat → Int32)} {x0_far : (Nat → Int32)} {x0_tons : Int32} {x0_way : (Nat → Int32)} {x0_steps : Int32} {x0_met : Int64} {x0_queue : (Nat → Int32)} {x0_totals : (Nat → Int32)} {p1 p2 : Int32} (h_x0_shelf : (AI 0 2 x0_shelf)) (h_x0_rowSize : (AI 0 40 x0_rowSize)) (h_x0_tapeSize : (0 ≤ x0_tapeSize ∧ x0_tapeSize ≤ 250)) (h_x0_lines : (0 ≤ x0_lines ∧ x0_lines ≤ 20)) (h_x0_line : (LnM x0_line)) (h_x0_changes : (AI 0 99 x0_changes)) (h_x0_coins : (AI 0 9 x0_coins)) (h_x0_goods : (0 ≤ x0_goods ∧ x0_goods ≤ 8)) (h_x0_good : (GdM x0_good)) (h_x0_works : (0 ≤ x0_works ∧ x0_works ≤ 7)) (h_x0_work : (WkM x0_work)) (h_x0_years : (1 ≤ x0_years ∧ x0_years ≤ 30)) (h_x0_from : (0 ≤ x0_from ∧ x0_from ≤ 250)) (h_x0_far : (AI 0 1000000000 x0_far)) (h_x0_way : (AI 0 22 x0_way)) (h_x0_steps : (0 ≤ x0_steps ∧ x0_steps ≤ 37)) (h_x0_queue : (AI 0 35 x0_queue)) : Sf (fX7_show (x0_shelf, x0_rowSort, x0_rowSize, x0_rows, x0_moved, x0_shown, x0_tape, x0_tapeSize, x0_refused, x0_lines, x0_line, x0_changes, x0_coins, x0_goods, x0_good, x0_works, x0_work, x0_years, x0_gone, x0_spent, x0_at, x0_token, x0_from, x0_figures, x0_fault, x0_numbers, x0_statements, x0_left, x0_far, x0_tons, x0_way, x0_steps, x0_met, x0_queue, x0_totals) p1 p2) (fun r => AP ((0 ≤ p1 ∧ p1 ≤ 7) ∧ (p2 = -1 ∨ (0 ≤ p2 ∧ p2 < x0_works))) r.1 (r.1 = 1 ∧ r.2.1 = va_up x0_shelf p1.toNatClampNeg (if p2 = -1 then 0 else 2) ∧ r.2.2.1 = va_up x0_shown p1.toNatClampNeg p2) (r.2.1 = x0_shelf ∧ r.2.2.1 = x0_shown)) := by
  unfold fX7_show
  dsimp only [u35]
  have no : ¬ ((0 ≤ p1 ∧ p1 ≤ 7) ∧ (p2 = -1 ∨ (0 ≤ p2 ∧ p2 < x0_works))) → Sf ((fX7_refuse (x0_shelf, x0_rowSort, x0_rowSize, x0_rows, x0_moved, x0_shown, x0_tape, x0_tapeSize, x0_refused, x0_lines, x0_line, x0_changes, x0_coins, x0_goods, x0_good, x0_works, x0_work, x0_years, x0_gone, x0_spent, x0_at, x0_token, x0_from, x0_figures, x0_fault, x0_numbers, x0_statements, x0_left, x0_far, x0_tons, x0_way, x0_steps, x0_met, x0_queue, x0_totals) (-2)).bind (u2 fun v g => some (v, x0_shelf, x0_shown, g))) (fun r => AP ((0 ≤ p1 ∧ p1 ≤ 7) ∧ (p2 = -1 ∨ (0 ≤ p2 ∧ p2 < x0_works))) r.1 (r.1 = 1 ∧ r.2.1 = va_up x0_shelf p1.toNatClampNeg (if p2 = -1 then 0 else 2) ∧ r.2.2.1 = va_up x0_shown p1.toNatClampNeg p2) (r.2.1 = x0_shelf ∧ r.2.2.1 = x0_shown)) := by
    intro hV
    refine Sf.bind (sX7_refuse h_x0_shelf h_x0_rowSize h_x0_tapeSize h_x0_lines h_x0_line h_x0_changes h_x0_coins h_x0_goods h_x0_good h_x0_works h_x0_work h_x0_years h_x0_from h_x0_far h_x0_way h_x0_steps h_x0_queue (by decide)) ?_
    rintro ⟨v, g⟩ e
    exact Sf.ok (Or.inr ⟨hV, e, rfl, rfl⟩)
  refine Sf.bind (s_inq p1 0 7 (by decide) (by decide)) (fun v1 h1 => Sf.ite (fun hz => no (fun V => gd0 h1 hz V.1)) (fun hz => ?_))
  have c1 := gd1 h1 hz
  have hi8 : 0 ≤ p1 ∧ p1 < 8 := ⟨c1.1, Int32.lt_of_le_of_lt c1.2 (by decide)⟩
  refine Sf.ite (fun hm => ?_) (fun hm => ?_)
  · unfold fX7_show_j32
    rw [if_pos hm]
    unfold fX7_show_j47
    refine Sf.wrb 8 rfl hi8 (fun f7 e7 => ?_)
    refine Sf.wrb 8 rfl hi8 (fun f8 e8 => ?_)
    exact Sf.ok (Or.inl ⟨⟨c1, Or.inl hm⟩, rfl, by rw [if_pos hm]; exact e7, e8⟩)
  · have isw : Sf (fX7_isWork (x0_shelf, x0_rowSort, x0_rowSize, x0_rows, x0_moved, x0_shown, x0_tape, x0_tapeSize, x0_refused, x0_lines, x0_line, x0_changes, x0_coins, x0_goods, x0_good, x0_works, x0_work, x0_years, x0_gone, x0_spent, x0_at, x0_token, x0_from, x0_figures, x0_fault, x0_numbers, x0_statements, x0_left, x0_far, x0_tons, x0_way, x0_steps, x0_met, x0_queue, x0_totals) p2) (fun r => (r = 1 ∧ 0 ≤ p2 ∧ p2 < x0_works) ∨ (r = 0 ∧ ¬ (0 ≤ p2 ∧ p2 < x0_works))) := sX7_isWork h_x0_shelf h_x0_rowSize h_x0_tapeSize h_x0_lines h_x0_line h_x0_changes h_x0_coins h_x0_goods h_x0_good h_x0_works h_x0_work h_x0_years h_x0_from h_x0_far h_x0_way h_x0_steps h_x0_queue
    refine Sf.bind isw (fun v9 h9 => ?_)
    refine Sf.ite (fun hz => no (fun V => ?_)) (fun hz => ?_)
    · rcases V.2 with h | h
      · exact hm h
      · rcases h9 with h9 | h9
        · rw [h9.1] at hz; exact absurd hz (by decide)
        · exact h9.2 h
    · have c3 : 0 ≤ p2 ∧ p2 < x0_works := by
        rcases h9 with h9 | h9
        · exact h9.2
        · exact absurd h9.1 hz
      unfold fX7_show_j32
      rw [if_neg hm]
      unfold fX7_show_j47
      refine Sf.wrb 8 rfl hi8 (fun f7 e7 => ?_)
      refine Sf.wrb 8 rfl hi8 (fun f8 e8 => ?_)
      exact Sf.ok (Or.inl ⟨⟨c1, Or.inr c3⟩, rfl, by rw [if_neg hm]; exact e7, e8⟩)
theorem dShow {x0_refused : (Nat → Int32)} {x0_isKept : Int32} {x0_gone : Int32} {x0_spent : Int32} {x1_elements : (Nat → Nat → Int64)} {x1_held : (Nat → Int32)} {x1_sizes : (Nat → Int32)} {x2_lineCount : Int32} {x2_goodsCount : Int32} {x2_workCount : Int32} {x2_years : Int32} {x2_lines : (Nat → Int32)} {x2_goods : (Nat → Int32)} {x2_works : (Nat → Int32)} {x2_change : (Nat → Int32)} {x2_coin : (Nat → Int32)} {x2_knownFree : (Nat → Int32)} {x2_isKnown : Int32} {m_shelf : (Nat → Int32)} {m_rowSort : (Nat → Int32)} {m_rowSize : (Nat → Int32)} {m_rows : (Nat → Nat → Int64)} {m_moved : (Nat → Int64)} {m_shown : (Nat → Int32)} {m_tape : (Nat → Int32)} {m_tapeSize : Int32} {m_refused : (Nat → Int32)} {m_lines : Int32} {m_line : (Nat → Nat → Int32)} {m_changes : (Nat → Int32)} {m_coins : (Nat → Int32)} {m_goods : Int32} {m_good : (Nat → Nat → Int32)} {m_works : Int32} {m_work : (Nat → Nat → Int32)} {m_years : Int32} {m_gone : Int32} {m_spent : Int32} {m_at : Int32} {m_token : Int32} {m_from : Int32} {m_figures : Int64} {m_fault : Int32} {m_numbers : (Nat → Int32)} {m_statements : Int32} {m_left : (Nat → Int32)} {m_far : (Nat → Int32)} {m_tons : Int32} {m_way : (Nat → Int32)} {m_steps : Int32} {m_met : Int64} {m_queue : (Nat → Int32)} {m_totals : (Nat → Int32)} {p1 p2 er fr : Int32} {e0 e1 f0 f1 f2 : Nat → Int32} (h_x2_lineCount : (0 ≤ x2_lineCount ∧ x2_lineCount ≤ 20)) (h_x2_goodsCount : (0 ≤ x2_goodsCount ∧ x2_goodsCount ≤ 8)) (h_x2_workCount : (0 ≤ x2_workCount ∧ x2_workCount ≤ 7)) (h_x2_years : (1 ≤ x2_years ∧ x2_years ≤ 30)) (h_x2_lines : (LnOk x2_lines)) (h_x2_goods : (GdOk x2_goods)) (h_x2_works : (WkOk x2_works)) (h_x2_change : (AI 0 99 x2_change)) (h_x2_coin : (AI 0 9 x2_coin)) (h_m_shelf : (AI 0 2 m_shelf)) (h_m_rowSize : (AI 0 40 m_rowSize)) (h_m_tapeSize : (0 ≤ m_tapeSize ∧ m_tapeSize ≤ 250)) (h_m_lines : (0 ≤ m_lines ∧ m_lines ≤ 20)) (h_m_line : (LnM m_line)) (h_m_changes : (AI 0 99 m_changes)) (h_m_coins : (AI 0 9 m_coins)) (h_m_goods : (0 ≤ m_goods ∧ m_goods ≤ 8)) (h_m_good : (GdM m_good)) (h_m_works : (0 ≤ m_works ∧ m_works ≤ 7)) (h_m_work : (WkM m_work)) (h_m_years : (1 ≤ m_years ∧ m_years ≤ 30)) (h_m_from : (0 ≤ m_from ∧ m_from ≤ 250)) (h_m_far : (AI 0 1000000000 m_far)) (h_m_way : (AI 0 22 m_way)) (h_m_steps : (0 ≤ m_steps ∧ m_steps ≤ 37)) (h_m_queue : (AI 0 35 m_queue)) (hA : (LaD x2_lineCount x2_goodsCount x2_workCount x2_years x2_lines x2_goods x2_works x2_change x2_coin m_lines m_line m_changes m_coins m_goods m_good m_works m_work m_years)) (hSh : ShA x1_elements x1_held x1_sizes m_shelf m_rowSort m_rowSize m_rows m_shown) (eqA : fX6_show (x0_refused, x0_isKept, x0_gone, x0_spent) (x1_elements, x1_held, x1_sizes) (x2_lineCount, x2_goodsCount, x2_workCount, x2_years, x2_lines, x2_goods, x2_works, x2_change, x2_coin, x2_knownFree, x2_isKnown) p1 p2 = some (er, e0, e1)) (eqB : fX7_show (m_shelf, m_rowSort, m_rowSize, m_rows, m_moved, m_shown, m_tape, m_tapeSize, m_refused, m_lines, m_line, m_changes, m_coins, m_goods, m_good, m_works, m_work, m_years, m_gone, m_spent, m_at, m_token, m_from, m_figures, m_fault, m_numbers, m_statements, m_left, m_far, m_tons, m_way, m_steps, m_met, m_queue, m_totals) p1 p2 = some (fr, f0, f1, f2)) : er = fr ∧ ShA x1_elements e1 x1_sizes f0 m_rowSort m_rowSize m_rows f1 := by
  have a := (showC h_x2_lineCount h_x2_goodsCount h_x2_workCount h_x2_years h_x2_lines h_x2_goods h_x2_works h_x2_change h_x2_coin).at eqA
  have b := (showR h_m_shelf h_m_rowSize h_m_tapeSize h_m_lines h_m_line h_m_changes h_m_coins h_m_goods h_m_good h_m_works h_m_work h_m_years h_m_from h_m_far h_m_way h_m_steps h_m_queue).at eqB
  have ew : x2_workCount = m_works := hA.1.2.2.1
  rw [← ew] at b
  rcases AP_eq a b with ⟨⟨hV, a0, a1⟩, b0, b1, b2⟩ | ⟨e, a1, b1, b2⟩
  · have a0 : er = 1 := a0
    have b0 : fr = 1 := b0
    have a1 : e1 = _ := a1
    have b1 : f0 = _ := b1
    have b2 : f1 = _ := b2
    refine ⟨a0.trans b0.symm, fun s hs => ?_⟩
    by_cases e : s = p1.toNatClampNeg
    · by_cases hm : p2 = -1
      · refine Or.inl ⟨?_, ?_⟩
        · rw [b1, e, va_eq, if_pos hm]
        · rw [a1, e, va_eq, if_pos hm]
      · have hp : 0 ≤ p2 ∧ p2 < x2_workCount := by
          rcases hV.2 with h | h
          · exact absurd h hm
          · exact h
        refine Or.inr (Or.inr ⟨?_, ?_, ?_, ?_⟩)
        · rw [b1, e, va_eq, if_neg hm]
        · rw [a1, b2, e, va_eq, va_eq, if_neg hm]
        · rw [b2, e, va_eq]; exact hp.1
        · rw [b2, e, va_eq]
          have q := h_x2_workCount
          clear a b hA hSh hV
          grind
    · rcases hSh s hs with ⟨x1, x2⟩ | ⟨x1, x2, x3, x4, x5⟩ | ⟨x1, x2, x3⟩
      · refine Or.inl ⟨?_, ?_⟩
        · rw [b1, va_ne _ _ e]; exact x1
        · rw [a1, va_ne _ _ e]; exact x2
      · refine Or.inr (Or.inl ⟨?_, ?_, ?_, x4, x5⟩)
        · rw [b1, va_ne _ _ e]; exact x1
        · rw [a1, va_ne _ _ e]; exact x2
        · rw [a1, va_ne _ _ e]; exact x3
      · refine Or.inr (Or.inr ⟨?_, ?_, ?_⟩)
        · rw [b1, va_ne _ _ e]; exact x1
        · rw [a1, b2, va_ne _ _ e, va_ne _ _ e]; exact x2
        · rw [b2, va_ne _ _ e]; exact x3
  · have a1 : e1 = _ := a1
    have b1 : f0 = _ := b1
    have b2 : f1 = _ := b2
    rw [a1, b1, b2]
    exact ⟨e, hSh⟩
/-- holds, element -/
theorem dHolds {x0_refused : (Nat → Int32)} {x0_isKept : Int32} {x0_gone : Int32} {x0_spent : Int32} {x1_elements : (Nat → Nat → Int64)} {x1_held : (Nat → Int32)} {x1_sizes : (Nat → Int32)} {m_shelf : (Nat → Int32)} {m_rowSort : (Nat → Int32)} {m_rowSize : (Nat → Int32)} {m_rows : (Nat → Nat → Int64)} {m_moved : (Nat → Int64)} {m_shown : (Nat → Int32)} {m_tape : (Nat → Int32)} {m_tapeSize : Int32} {m_refused : (Nat → Int32)} {m_lines : Int32} {m_line : (Nat → Nat → Int32)} {m_changes : (Nat → Int32)} {m_coins : (Nat → Int32)} {m_goods : Int32} {m_good : (Nat → Nat → Int32)} {m_works : Int32} {m_work : (Nat → Nat → Int32)} {m_years : Int32} {m_gone : Int32} {m_spent : Int32} {m_at : Int32} {m_token : Int32} {m_from : Int32} {m_figures : Int64} {m_fault : Int32} {m_numbers : (Nat → Int32)} {m_statements : Int32} {m_left : (Nat → Int32)} {m_far : (Nat → Int32)} {m_tons : Int32} {m_way : (Nat → Int32)} {m_steps : Int32} {m_met : Int64} {m_queue : (Nat → Int32)} {m_totals : (Nat → Int32)} {p1 er fr : Int32} (h_m_shelf : (AI 0 2 m_shelf)) (h_m_rowSize : (AI 0 40 m_rowSize)) (h_m_tapeSize : (0 ≤ m_tapeSize ∧ m_tapeSize ≤ 250)) (h_m_lines : (0 ≤ m_lines ∧ m_lines ≤ 20)) (h_m_line : (LnM m_line)) (h_m_changes : (AI 0 99 m_changes)) (h_m_coins : (AI 0 9 m_coins)) (h_m_goods : (0 ≤ m_goods ∧ m_goods ≤ 8)) (h_m_good : (GdM m_good)) (h_m_works : (0 ≤ m_works ∧ m_works ≤ 7)) (h_m_work : (WkM m_work)) (h_m_years : (1 ≤ m_years ∧ m_years ≤ 30)) (h_m_from : (0 ≤ m_from ∧ m_from ≤ 250)) (h_m_far : (AI 0 1000000000 m_far)) (h_m_way : (AI 0 22 m_way)) (h_m_steps : (0 ≤ m_steps ∧ m_steps ≤ 37)) (h_m_queue : (AI 0 35 m_queue)) (hSh : ShA x1_elements x1_held x1_sizes m_shelf m_rowSort m_rowSize m_rows m_shown) (eqA : fX6_holds (x0_refused, x0_isKept, x0_gone, x0_spent) (x1_elements, x1_held, x1_sizes) p1 = some er) (eqB : fX7_holds (m_shelf, m_rowSort, m_rowSize, m_rows, m_moved, m_shown, m_tape, m_tapeSize, m_refused, m_lines, m_line, m_changes, m_coins, m_goods, m_good, m_works, m_work, m_years, m_gone, m_spent, m_at, m_token, m_from, m_figures, m_fault, m_numbers, m_statements, m_left, m_far, m_tons, m_way, m_steps, m_met, m_queue, m_totals) p1 = some fr) : er = fr := by
  have a : Sf (fX6_holds (x0_refused, x0_isKept, x0_gone, x0_spent) (x1_elements, x1_held, x1_sizes) p1) (fun r => r = if 0 ≤ p1 ∧ p1 ≤ 7 then x1_held p1.toNatClampNeg else -1) := by
    unfold fX6_holds
    dsimp only [u4, u3]
    refine Sf.bind sX2_has (fun v1 h1 => Sf.ite (fun hz => Sf.ok (by rw [if_neg (gd0 h1 hz)])) (fun hz => ?_))
    have c1 := gd1 h1 hz
    refine Sf.rdb 8 rfl ⟨c1.1, Int32.lt_of_le_of_lt c1.2 (by decide)⟩ (fun v3 e3 => Sf.ok ?_)
    rw [if_pos c1, e3]
  have b : Sf (fX7_holds (m_shelf, m_rowSort, m_rowSize, m_rows, m_moved, m_shown, m_tape, m_tapeSize, m_refused, m_lines, m_line, m_changes, m_coins, m_goods, m_good, m_works, m_work, m_years, m_gone, m_spent, m_at, m_token, m_from, m_figures, m_fault, m_numbers, m_statements, m_left, m_far, m_tons, m_way, m_steps, m_met, m_queue, m_totals) p1) (fun r => r = if 0 ≤ p1 ∧ p1 ≤ 7 then x1_held p1.toNatClampNeg else -1) := by
    unfold fX7_holds
    dsimp only [u35]
    refine Sf.bind (s_inq p1 0 7 (by decide) (by decide)) (fun v1 h1 => Sf.ite (fun hz => Sf.ok (by rw [if_neg (gd0 h1 hz)])) (fun hz => ?_))
    have c1 := gd1 h1 hz
    have hi8 : 0 ≤ p1 ∧ p1 < 8 := ⟨c1.1, Int32.lt_of_le_of_lt c1.2 (by decide)⟩
    rw [if_pos c1]
    refine Sf.rdb 8 rfl hi8 (fun v3 e3 => ?_)
    refine Sf.ite (fun h0 => Sf.ok ?_) (fun h0 => ?_)
    · rw [e3] at h0
      exact (((hSh _ (p8_of c1)).f.2.2).mpr h0).symm
    · rw [e3] at h0
      refine Sf.rdb 8 rfl hi8 (fun v4 e4 => ?_)
      refine Sf.ite (fun h1' => ?_) (fun h1' => ?_)
      · rw [e4] at h1'
        refine Sf.rdb 8 rfl hi8 (fun v6 e6 => Sf.ok ?_)
        rcases hSh _ (p8_of c1) with ⟨x1, _⟩ | ⟨_, x2, _⟩ | ⟨x1, _⟩
        · exact absurd x1 h0
        · rw [x2, e6]
        · rw [x1] at h1'; exact absurd h1' (by decide)
      · rw [e4] at h1'
        refine Sf.rdb 8 rfl hi8 (fun v5 e5 => Sf.ok ?_)
        rcases hSh _ (p8_of c1) with ⟨x1, _⟩ | ⟨x1, _⟩ | ⟨_, x2, _⟩
        · exact absurd x1 h0
        · exact absurd x1 h1'
        · rw [x2, e5]
  exact (a.at eqA).trans (b.at eqB).symm
theorem dElement {x0_refused : (Nat → Int32)} {x0_isKept : Int32} {x0_gone : Int32} {x0_spent : Int32} {x1_elements : (Nat → Nat → Int64)} {x1_held : (Nat → Int32)} {x1_sizes : (Nat → Int32)} {m_shelf : (Nat → Int32)} {m_rowSort : (Nat → Int32)} {m_rowSize : (Nat → Int32)} {m_rows : (Nat → Nat → Int64)} {m_moved : (Nat → Int64)} {m_shown : (Nat → Int32)} {m_tape : (Nat → Int32)} {m_tapeSize : Int32} {m_refused : (Nat → Int32)} {m_lines : Int32} {m_line : (Nat → Nat → Int32)} {m_changes : (Nat → Int32)} {m_coins : (Nat → Int32)} {m_goods : Int32} {m_good : (Nat → Nat → Int32)} {m_works : Int32} {m_work : (Nat → Nat → Int32)} {m_years : Int32} {m_gone : Int32} {m_spent : Int32} {m_at : Int32} {m_token : Int32} {m_from : Int32} {m_figures : Int64} {m_fault : Int32} {m_numbers : (Nat → Int32)} {m_statements : Int32} {m_left : (Nat → Int32)} {m_far : (Nat → Int32)} {m_tons : Int32} {m_way : (Nat → Int32)} {m_steps : Int32} {m_met : Int64} {m_queue : (Nat → Int32)} {m_totals : (Nat → Int32)} {p1 p2 : Int32} {er fr : Int64} (h_m_shelf : (AI 0 2 m_shelf)) (h_m_rowSize : (AI 0 40 m_rowSize)) (h_m_tapeSize : (0 ≤ m_tapeSize ∧ m_tapeSize ≤ 250)) (h_m_lines : (0 ≤ m_lines ∧ m_lines ≤ 20)) (h_m_line : (LnM m_line)) (h_m_changes : (AI 0 99 m_changes)) (h_m_coins : (AI 0 9 m_coins)) (h_m_goods : (0 ≤ m_goods ∧ m_goods ≤ 8)) (h_m_good : (GdM m_good)) (h_m_works : (0 ≤ m_works ∧ m_works ≤ 7)) (h_m_work : (WkM m_work)) (h_m_years : (1 ≤ m_years ∧ m_years ≤ 30)) (h_m_from : (0 ≤ m_from ∧ m_from ≤ 250)) (h_m_far : (AI 0 1000000000 m_far)) (h_m_way : (AI 0 22 m_way)) (h_m_steps : (0 ≤ m_steps ∧ m_steps ≤ 37)) (h_m_queue : (AI 0 35 m_queue)) (hSh : ShA x1_elements x1_held x1_sizes m_shelf m_rowSort m_rowSize m_rows m_shown) (eqA : fX6_element (x0_refused, x0_isKept, x0_gone, x0_spent) (x1_elements, x1_held, x1_sizes) p1 p2 = some er) (eqB : fX7_element (m_shelf, m_rowSort, m_rowSize, m_rows, m_moved, m_shown, m_tape, m_tapeSize, m_refused, m_lines, m_line, m_changes, m_coins, m_goods, m_good, m_works, m_work, m_years, m_gone, m_spent, m_at, m_token, m_from, m_figures, m_fault, m_numbers, m_statements, m_left, m_far, m_tons, m_way, m_steps, m_met, m_queue, m_totals) p1 p2 = some fr) : er = fr := by
  have h40 : ∀ x : Int32, (0 ≤ x ∧ x ≤ 40) → (0 ≤ p2 ∧ p2 ≤ x - 1) → 0 ≤ p2 ∧ p2 < 40 := by
    intro x hx h
    clear hSh eqA eqB
    grind
  have a : Sf (fX6_element (x0_refused, x0_isKept, x0_gone, x0_spent) (x1_elements, x1_held, x1_sizes) p1 p2) (fun r => r = if (0 ≤ p1 ∧ p1 ≤ 7) ∧ m_shelf p1.toNatClampNeg = 1 ∧ (0 ≤ p2 ∧ p2 ≤ m_rowSize p1.toNatClampNeg - 1) then m_rows p1.toNatClampNeg p2.toNatClampNeg else 0) := by
    unfold fX6_element
    dsimp only [u4, u3]
    refine Sf.bind sX2_has (fun v1 h1 => Sf.ite (fun hz => Sf.ok (by rw [if_neg (fun h => gd0 h1 hz h.1)])) (fun hz => ?_))
    have c1 := gd1 h1 hz
    have hi8 : 0 ≤ p1 ∧ p1 < 8 := ⟨c1.1, Int32.lt_of_le_of_lt c1.2 (by decide)⟩
    refine Sf.bind (hrS c1) (fun v3 h3 => ?_)
    have f2 := (hSh _ (p8_of c1)).f.2.1
    refine Sf.ite (fun hv => Sf.ok (by rw [if_neg (fun h => (h3.mp hv) (f2.mpr h.2.1))])) (fun hv => ?_)
    have y : m_shelf p1.toNatClampNeg = 1 := f2.mp (Classical.byContradiction fun h => hv (h3.mpr h))
    obtain ⟨e1, e2⟩ : x1_sizes p1.toNatClampNeg = m_rowSize p1.toNatClampNeg ∧ ∀ i, i < 40 → x1_elements p1.toNatClampNeg i = m_rows p1.toNatClampNeg i := by
      rcases hSh _ (p8_of c1) with ⟨x1, _⟩ | ⟨_, _, _, x4, x5⟩ | ⟨x1, _⟩
      · rw [y] at x1; exact absurd x1 (by decide)
      · exact ⟨x4, x5⟩
      · rw [y] at x1; exact absurd x1 (by decide)
    refine Sf.rdb 8 rfl hi8 (fun v5 e5 => ?_)
    rw [e1] at e5
    refine Sf.bind sX6_within (fun v6 h6 => ?_)
    rw [e5] at h6
    refine Sf.ite (fun h0 => Sf.ok (by rw [if_neg (fun h => gd0 h6 h0 h.2.2)])) (fun h0 => ?_)
    have c6 := gd1 h6 h0
    have hi := h40 _ (h_m_rowSize _) c6
    refine Sf.ckb 8 rfl hi8 (fun q eq _ => ?_)
    refine Sf.rdb 40 rfl hi (fun v9 e9 => Sf.ok ?_)
    rw [if_pos ⟨c1, y, c6⟩, e9, eq]
    exact e2 _ (i32_lt (M := 40) rfl hi)
  have b : Sf (fX7_element (m_shelf, m_rowSort, m_rowSize, m_rows, m_moved, m_shown, m_tape, m_tapeSize, m_refused, m_lines, m_line, m_changes, m_coins, m_goods, m_good, m_works, m_work, m_years, m_gone, m_spent, m_at, m_token, m_from, m_figures, m_fault, m_numbers, m_statements, m_left, m_far, m_tons, m_way, m_steps, m_met, m_queue, m_totals) p1 p2) (fun r => r = if (0 ≤ p1 ∧ p1 ≤ 7) ∧ m_shelf p1.toNatClampNeg = 1 ∧ (0 ≤ p2 ∧ p2 ≤ m_rowSize p1.toNatClampNeg - 1) then m_rows p1.toNatClampNeg p2.toNatClampNeg else 0) := by
    unfold fX7_element
    dsimp only [u35]
    refine Sf.bind (s_inq p1 0 7 (by decide) (by decide)) (fun v1 h1 => Sf.ite (fun hz => Sf.ok (by rw [if_neg (fun h => gd0 h1 hz h.1)])) (fun hz => ?_))
    have c1 := gd1 h1 hz
    have hi8 : 0 ≤ p1 ∧ p1 < 8 := ⟨c1.1, Int32.lt_of_le_of_lt c1.2 (by decide)⟩
    refine Sf.rdb 8 rfl hi8 (fun v3 e3 => ?_)
    refine Sf.ite (fun hv => ?_) (fun hv => Sf.ok (by rw [if_neg (fun h => hv (by rw [e3]; exact h.2.1))]))
    rw [e3] at hv
    refine Sf.rdb 8 rfl hi8 (fun v4 e4 => ?_)
    refine Sf.bind (s_inq p2 0 (v4 - 1) (by decide) rfl) (fun v5 h5 => ?_)
    rw [e4] at h5
    refine Sf.ite (fun h0 => Sf.ok (by rw [if_neg (fun h => gd0 h5 h0 h.2.2)])) (fun h0 => ?_)
    have c6 := gd1 h5 h0
    have hi := h40 _ (h_m_rowSize _) c6
    refine Sf.ckb 8 rfl hi8 (fun q eq _ => ?_)
    refine Sf.rdb 40 rfl hi (fun v8 e8 => Sf.ok ?_)
    rw [if_pos ⟨c1, hv, c6⟩, e8, eq]
  exact (a.at eqA).trans (b.at eqB).symm
end
section
/-! copy, back: the shelves alike -/
def cpA (p q i j n shp shq rsp rsq szp szq : Int32) : Int32 := if (0 ≤ p ∧ p ≤ 7) ∧ (0 ≤ q ∧ q ≤ 7) then (if shp = 2 ∨ shq = 2 ∨ (shp = 1 ∧ shq = 1 ∧ ¬ rsp = rsq) then -3 else if shp = 0 ∨ shq = 0 then -4 else if (0 ≤ n ∧ n ≤ 40) ∧ (0 ≤ i ∧ i ≤ szp - n) ∧ (0 ≤ j ∧ j ≤ szq - n) then n else -2) else -2
def cpD (p q i j n shp shq rsp rsq szp szq : Int32) : Prop := ((0 ≤ p ∧ p ≤ 7) ∧ (0 ≤ q ∧ q ≤ 7)) ∧ ¬ (shp = 2 ∨ shq = 2 ∨ (shp = 1 ∧ shq = 1 ∧ ¬ rsp = rsq)) ∧ ¬ (shp = 0 ∨ shq = 0) ∧ ((0 ≤ n ∧ n ≤ 40) ∧ (0 ≤ i ∧ i ≤ szp - n) ∧ (0 ≤ j ∧ j ≤ szq - n))
theorem cpq_rng {i n sz : Int32} (hs : 0 ≤ sz ∧ sz ≤ 40) (hn : 0 ≤ n ∧ n ≤ 40) (hi : 0 ≤ i ∧ i ≤ sz - n) : (0 ≤ i ∧ i ≤ 40) ∧ i.toInt + n.toInt ≤ 40 ∧ n ≤ sz := by
  have e40 : (40 : Int32).toInt = 40 := by decide
  have e0 : (0 : Int32).toInt = 0 := by decide
  have a := i32_b hs
  have b := i32_b hn
  have c := i32_b hi
  rw [e0, e40] at a b
  rw [e0] at c
  have d : (sz - n).toInt = sz.toInt - n.toInt := by
    rw [Int32.toInt_sub]
    exact bm (by omega) (by omega)
  rw [d] at c
  refine ⟨⟨hi.1, Int32.le_iff_toInt_le.mpr (by omega)⟩, by omega, Int32.le_iff_toInt_le.mpr (by omega)⟩
theorem copyC {x0_refused : (Nat → Int32)} {x0_isKept : Int32} {x0_gone : Int32} {x0_spent : Int32} {x1_elements : (Nat → Nat → Int64)} {x1_held : (Nat → Int32)} {x1_sizes : (Nat → Int32)} {m_shelf m_rowSort m_rowSize m_shown : Nat → Int32} {m_rows : Nat → Nat → Int64} {p1 p2 p3 p4 p5 : Int32} (hr : AI 0 2 m_shelf) (hz : AI 0 40 m_rowSize) (hSh : ShA x1_elements x1_held x1_sizes m_shelf m_rowSort m_rowSize m_rows m_shown) : Sf (fX6_copy (x0_refused, x0_isKept, x0_gone, x0_spent) (x1_elements, x1_held, x1_sizes) p1 p2 p3 p4 p5) (fun r => r.1 = cpA p1 p2 p3 p4 p5 (m_shelf p1.toNatClampNeg) (m_shelf p2.toNatClampNeg) (m_rowSort p1.toNatClampNeg) (m_rowSort p2.toNatClampNeg) (m_rowSize p1.toNatClampNeg) (m_rowSize p2.toNatClampNeg) ∧ (cpD p1 p2 p3 p4 p5 (m_shelf p1.toNatClampNeg) (m_shelf p2.toNatClampNeg) (m_rowSort p1.toNatClampNeg) (m_rowSort p2.toNatClampNeg) (m_rowSize p1.toNatClampNeg) (m_rowSize p2.toNatClampNeg) → r.2.2 = va_up x1_elements p2.toNatClampNeg (va_cpy (x1_elements p1.toNatClampNeg) (x1_elements p2.toNatClampNeg) p3.toNatClampNeg p4.toNatClampNeg p5.toNatClampNeg)) ∧ (¬ cpD p1 p2 p3 p4 p5 (m_shelf p1.toNatClampNeg) (m_shelf p2.toNatClampNeg) (m_rowSort p1.toNatClampNeg) (m_rowSort p2.toNatClampNeg) (m_rowSize p1.toNatClampNeg) (m_rowSize p2.toNatClampNeg) → r.2.2 = x1_elements)) := by
  generalize hA : cpA p1 p2 p3 p4 p5 (m_shelf p1.toNatClampNeg) (m_shelf p2.toNatClampNeg) (m_rowSort p1.toNatClampNeg) (m_rowSort p2.toNatClampNeg) (m_rowSize p1.toNatClampNeg) (m_rowSize p2.toNatClampNeg) = A
  generalize hD : cpD p1 p2 p3 p4 p5 (m_shelf p1.toNatClampNeg) (m_shelf p2.toNatClampNeg) (m_rowSort p1.toNatClampNeg) (m_rowSort p2.toNatClampNeg) (m_rowSize p1.toNatClampNeg) (m_rowSize p2.toNatClampNeg) = D
  unfold cpA at hA
  unfold cpD at hD
  have ref : ∀ c : Int32, c = A → ¬ D → Sf ((fX6_refuse (x0_refused, x0_isKept, x0_gone, x0_spent) c).bind (u2 fun v g => some (v, g, x1_elements))) (fun r => r.1 = A ∧ (D → r.2.2 = va_up x1_elements p2.toNatClampNeg (va_cpy (x1_elements p1.toNatClampNeg) (x1_elements p2.toNatClampNeg) p3.toNatClampNeg p4.toNatClampNeg p5.toNatClampNeg)) ∧ (¬ D → r.2.2 = x1_elements)) := by
    intro c e hd
    refine Sf.bind refC ?_
    rintro ⟨v, g⟩ ev
    exact Sf.ok ⟨Eq.trans ev e, fun h => absurd h hd, fun _ => rfl⟩
  unfold fX6_copy
  dsimp only [u4, u3]
  refine Sf.bind sX2_has (fun v1 h1 => Sf.ite (fun hz' => ?_) (fun hz' => ?_))
  · have no := gd0 h1 hz'
    exact ref _ (by rw [← hA, if_neg (fun h => no h.1)]) (by rw [← hD]; exact fun h => no h.1.1)
  have c1 := gd1 h1 hz'
  refine Sf.bind sX2_has (fun v6 h6 => Sf.ite (fun hz' => ?_) (fun hz' => ?_))
  · have no := gd0 h6 hz'
    exact ref _ (by rw [← hA, if_neg (fun h => no h.2)]) (by rw [← hD]; exact fun h => no h.1.2)
  have c2 := gd1 h6 hz'
  rw [if_pos ⟨c1, c2⟩] at hA
  obtain ⟨f1, f2, f3⟩ := (hSh _ (p8_of c1)).f
  obtain ⟨g1, g2, g3⟩ := (hSh _ (p8_of c2)).f
  have i1 : 0 ≤ p1 ∧ p1 < 8 := ⟨c1.1, Int32.lt_of_le_of_lt c1.2 (by decide)⟩
  have i2 : 0 ≤ p2 ∧ p2 < 8 := ⟨c2.1, Int32.lt_of_le_of_lt c2.2 (by decide)⟩
  refine Sf.bind (hwS c1) (fun v8 h8 => ?_)
  refine Sf.ite (fun hw => ?_) (fun hw => ?_)
  rotate_left
  · have y : m_shelf p1.toNatClampNeg = 2 := Classical.byContradiction fun h => hw (h8.mpr (f1.mpr h))
    exact ref _ (by rw [← hA, if_pos (Or.inl y)]) (by rw [← hD]; exact fun h => h.2.1 (Or.inl y))
  have n1 := f1.mp (h8.mp hw)
  refine Sf.bind (hwS c2) (fun v13 h13 => ?_)
  refine Sf.ite (fun hw => ?_) (fun hw => ?_)
  rotate_left
  · have y : m_shelf p2.toNatClampNeg = 2 := Classical.byContradiction fun h => hw (h13.mpr (g1.mpr h))
    exact ref _ (by rw [← hA, if_pos (Or.inr (Or.inl y))]) (by rw [← hD]; exact fun h => h.2.1 (Or.inr (Or.inl y)))
  have n2 := g1.mp (h13.mp hw)
  have differ : Sf (fX2_differ (x1_elements, x1_held, x1_sizes) p1 p2) (fun r => (r = 0 ↔ ¬ (m_shelf p1.toNatClampNeg = 1 ∧ m_shelf p2.toNatClampNeg = 1 ∧ ¬ m_rowSort p1.toNatClampNeg = m_rowSort p2.toNatClampNeg))) := by
    unfold fX2_differ
    try dsimp only [u3]
    refine Sf.rdb 8 rfl i1 (fun v1 e1 => ?_)
    refine Sf.ite (fun h => Sf.ok ?_) (fun h => ?_)
    · rw [e1] at h
      exact ⟨fun _ hh => by rw [f3.mp h] at hh; exact absurd hh.1 (by decide), fun _ => rfl⟩
    rw [e1] at h
    refine Sf.rdb 8 rfl i2 (fun v2 e2 => ?_)
    refine Sf.ite (fun h' => Sf.ok ?_) (fun h' => ?_)
    · rw [e2] at h'
      exact ⟨fun _ hh => by rw [g3.mp h'] at hh; exact absurd hh.2.1 (by decide), fun _ => rfl⟩
    rw [e2] at h'
    have k1 : m_shelf p1.toNatClampNeg = 1 ∧ x1_held p1.toNatClampNeg = m_rowSort p1.toNatClampNeg := by
      rcases hSh _ (p8_of c1) with ⟨a, b⟩ | ⟨a, b, _⟩ | ⟨a, _⟩
      · exact absurd b h
      · exact ⟨a, b⟩
      · exact absurd a n1
    have k2 : m_shelf p2.toNatClampNeg = 1 ∧ x1_held p2.toNatClampNeg = m_rowSort p2.toNatClampNeg := by
      rcases hSh _ (p8_of c2) with ⟨a, b⟩ | ⟨a, b, _⟩ | ⟨a, _⟩
      · exact absurd b h'
      · exact ⟨a, b⟩
      · exact absurd a n2
    refine Sf.rdb 8 rfl i1 (fun v3 e3 => ?_)
    refine Sf.rdb 8 rfl i2 (fun v4 e4 => ?_)
    rw [k1.2] at e3
    rw [k2.2] at e4
    refine Sf.ite (fun he => Sf.ok ?_) (fun he => Sf.ok ?_)
    · rw [e3, e4] at he
      exact ⟨fun _ hh => hh.2.2 he, fun _ => rfl⟩
    · rw [e3, e4] at he
      exact ⟨fun hh => absurd hh (by decide), fun hh => absurd ⟨k1.1, k2.1, he⟩ hh⟩
  refine Sf.bind differ (fun v18 h18 => ?_)
  refine Sf.ite (fun hw => ?_) (fun hw => ?_)
  rotate_left
  · have y : m_shelf p1.toNatClampNeg = 1 ∧ m_shelf p2.toNatClampNeg = 1 ∧ ¬ m_rowSort p1.toNatClampNeg = m_rowSort p2.toNatClampNeg := Classical.byContradiction fun h => hw (h18.mpr h)
    exact ref _ (by rw [← hA, if_pos (Or.inr (Or.inr y))]) (by rw [← hD]; exact fun h => h.2.1 (Or.inr (Or.inr y)))
  have nd : ¬ (m_shelf p1.toNatClampNeg = 2 ∨ m_shelf p2.toNatClampNeg = 2 ∨ (m_shelf p1.toNatClampNeg = 1 ∧ m_shelf p2.toNatClampNeg = 1 ∧ ¬ m_rowSort p1.toNatClampNeg = m_rowSort p2.toNatClampNeg)) := by
    rintro (h | h | h)
    · exact n1 h
    · exact n2 h
    · exact (h18.mp hw) h
  rw [if_neg nd] at hA
  refine Sf.rdb 8 rfl i1 (fun v20 e20 => ?_)
  refine Sf.ite (fun hw => ?_) (fun hw => ?_)
  · rw [e20] at hw
    have y := f3.mp hw
    exact ref _ (by rw [← hA, if_pos (Or.inl y)]) (by rw [← hD]; exact fun h => h.2.2.1 (Or.inl y))
  rw [e20] at hw
  have m1 : ¬ m_shelf p1.toNatClampNeg = 0 := fun h => hw (f3.mpr h)
  refine Sf.rdb 8 rfl i2 (fun v24 e24 => ?_)
  refine Sf.ite (fun hw => ?_) (fun hw => ?_)
  · rw [e24] at hw
    have y := g3.mp hw
    exact ref _ (by rw [← hA, if_pos (Or.inr y)]) (by rw [← hD]; exact fun h => h.2.2.1 (Or.inr y))
  rw [e24] at hw
  have m2 : ¬ m_shelf p2.toNatClampNeg = 0 := fun h => hw (g3.mpr h)
  have nn : ¬ (m_shelf p1.toNatClampNeg = 0 ∨ m_shelf p2.toNatClampNeg = 0) := by
    rintro (h | h)
    · exact m1 h
    · exact m2 h
  rw [if_neg nn] at hA
  have s1 : x1_sizes p1.toNatClampNeg = m_rowSize p1.toNatClampNeg := by
    rcases hSh _ (p8_of c1) with ⟨a, b⟩ | ⟨_, _, _, b, _⟩ | ⟨a, _⟩
    · exact absurd a m1
    · exact b
    · exact absurd a n1
  have s2 : x1_sizes p2.toNatClampNeg = m_rowSize p2.toNatClampNeg := by
    rcases hSh _ (p8_of c2) with ⟨a, b⟩ | ⟨_, _, _, b, _⟩ | ⟨a, _⟩
    · exact absurd a m2
    · exact b
    · exact absurd a n2
  refine Sf.bind sX6_within (fun v25 h25 => Sf.ite (fun hz' => ?_) (fun hz' => ?_))
  · have no := gd0 h25 hz'
    exact ref _ (by rw [← hA, if_neg (fun h => no h.1)]) (by rw [← hD]; exact fun h => no h.2.2.2.1)
  have c5 := gd1 h25 hz'
  refine Sf.rdb 8 rfl i1 (fun v30 e30 => ?_)
  rw [s1] at e30
  refine Sf.bind sX6_within (fun v31 h31 => ?_)
  rw [e30] at h31
  refine Sf.ite (fun hz' => ?_) (fun hz' => ?_)
  · have no := gd0 h31 hz'
    exact ref _ (by rw [← hA, if_neg (fun h => no h.2.1)]) (by rw [← hD]; exact fun h => no h.2.2.2.2.1)
  have c3 := gd1 h31 hz'
  refine Sf.rdb 8 rfl i2 (fun v36 e36 => ?_)
  rw [s2] at e36
  refine Sf.bind sX6_within (fun v37 h37 => ?_)
  rw [e36] at h37
  refine Sf.ite (fun hz' => ?_) (fun hz' => ?_)
  · have no := gd0 h37 hz'
    exact ref _ (by rw [← hA, if_neg (fun h => no h.2.2)]) (by rw [← hD]; exact fun h => no h.2.2.2.2.2)
  have c4 := gd1 h37 hz'
  rw [if_pos ⟨c5, c3, c4⟩] at hA
  obtain ⟨r1, r2, _⟩ := cpq_rng (hz _) c5 c3
  obtain ⟨r3, r4, _⟩ := cpq_rng (hz _) c5 c4
  refine Sf.ckb 8 rfl i1 (fun q39 e39 _ => ?_)
  refine Sf.ckb 8 rfl i2 (fun q40 e40 _ => ?_)
  refine Sf.cpyb ⟨c3.1, c4.1, c5.1⟩ r2 r4 (fun f41 e41 => ?_)
  refine Sf.ok ⟨hA, fun _ => ?_, fun h => absurd (by rw [← hD]; exact ⟨⟨c1, c2⟩, nd, nn, c5, c3, c4⟩) h⟩
  show va_up x1_elements q40 f41 = _
  rw [e41, e39, e40]
theorem copyR {n : Nat} {x0_shelf : (Nat → Int32)} {x0_rowSort : (Nat → Int32)} {x0_rowSize : (Nat → Int32)} {x0_rows : (Nat → Nat → Int64)} {x0_moved : (Nat → Int64)} {x0_shown : (Nat → Int32)} {x0_tape : (Nat → Int32)} {x0_tapeSize : Int32} {x0_refused : (Nat → Int32)} {x0_lines : Int32} {x0_line : (Nat → Nat → Int32)} {x0_changes : (Nat → Int32)} {x0_coins : (Nat → Int32)} {x0_goods : Int32} {x0_good : (Nat → Nat → Int32)} {x0_works : Int32} {x0_work : (Nat → Nat → Int32)} {x0_years : Int32} {x0_gone : Int32} {x0_spent : Int32} {x0_at : Int32} {x0_token : Int32} {x0_from : Int32} {x0_figures : Int64} {x0_fault : Int32} {x0_numbers : (Nat → Int32)} {x0_statements : Int32} {x0_left : (Nat → Int32)} {x0_far : (Nat → Int32)} {x0_tons : Int32} {x0_way : (Nat → Int32)} {x0_steps : Int32} {x0_met : Int64} {x0_queue : (Nat → Int32)} {x0_totals : (Nat → Int32)} {p1 p2 p3 p4 p5 : Int32} (hn : 1000000000000 ≤ n) (h_x0_shelf : (AI 0 2 x0_shelf)) (h_x0_rowSize : (AI 0 40 x0_rowSize)) (h_x0_tapeSize : (0 ≤ x0_tapeSize ∧ x0_tapeSize ≤ 250)) (h_x0_lines : (0 ≤ x0_lines ∧ x0_lines ≤ 20)) (h_x0_line : (LnM x0_line)) (h_x0_changes : (AI 0 99 x0_changes)) (h_x0_coins : (AI 0 9 x0_coins)) (h_x0_goods : (0 ≤ x0_goods ∧ x0_goods ≤ 8)) (h_x0_good : (GdM x0_good)) (h_x0_works : (0 ≤ x0_works ∧ x0_works ≤ 7)) (h_x0_work : (WkM x0_work)) (h_x0_years : (1 ≤ x0_years ∧ x0_years ≤ 30)) (h_x0_from : (0 ≤ x0_from ∧ x0_from ≤ 250)) (h_x0_far : (AI 0 1000000000 x0_far)) (h_x0_way : (AI 0 22 x0_way)) (h_x0_steps : (0 ≤ x0_steps ∧ x0_steps ≤ 37)) (h_x0_queue : (AI 0 35 x0_queue)) : Sf (fX7_copy n (x0_shelf, x0_rowSort, x0_rowSize, x0_rows, x0_moved, x0_shown, x0_tape, x0_tapeSize, x0_refused, x0_lines, x0_line, x0_changes, x0_coins, x0_goods, x0_good, x0_works, x0_work, x0_years, x0_gone, x0_spent, x0_at, x0_token, x0_from, x0_figures, x0_fault, x0_numbers, x0_statements, x0_left, x0_far, x0_tons, x0_way, x0_steps, x0_met, x0_queue, x0_totals) p1 p2 p3 p4 p5) (fun r => r.1 = cpA p1 p2 p3 p4 p5 (x0_shelf p1.toNatClampNeg) (x0_shelf p2.toNatClampNeg) (x0_rowSort p1.toNatClampNeg) (x0_rowSort p2.toNatClampNeg) (x0_rowSize p1.toNatClampNeg) (x0_rowSize p2.toNatClampNeg) ∧ (cpD p1 p2 p3 p4 p5 (x0_shelf p1.toNatClampNeg) (x0_shelf p2.toNatClampNeg) (x0_rowSort p1.toNatClampNeg) (x0_rowSort p2.toNatClampNeg) (x0_rowSize p1.toNatClampNeg) (x0_rowSize p2.toNatClampNeg) → ∃ g, r.2.1 = va_up x0_rows p2.toNatClampNeg g ∧ ∀ i, g i = if p4.toNatClampNeg ≤ i ∧ i < p4.toNatClampNeg + p5.toNatClampNeg then x0_rows p1.toNatClampNeg (p3.toNatClampNeg + (i - p4.toNatClampNeg)) else x0_rows p2.toNatClampNeg i) ∧ (¬ cpD p1 p2 p3 p4 p5 (x0_shelf p1.toNatClampNeg) (x0_shelf p2.toNatClampNeg) (x0_rowSort p1.toNatClampNeg) (x0_rowSort p2.toNatClampNeg) (x0_rowSize p1.toNatClampNeg) (x0_rowSize p2.toNatClampNeg) → r.2.1 = x0_rows)) := by
  generalize hA : cpA p1 p2 p3 p4 p5 (x0_shelf p1.toNatClampNeg) (x0_shelf p2.toNatClampNeg) (x0_rowSort p1.toNatClampNeg) (x0_rowSort p2.toNatClampNeg) (x0_rowSize p1.toNatClampNeg) (x0_rowSize p2.toNatClampNeg) = A
  generalize hD : cpD p1 p2 p3 p4 p5 (x0_shelf p1.toNatClampNeg) (x0_shelf p2.toNatClampNeg) (x0_rowSort p1.toNatClampNeg) (x0_rowSort p2.toNatClampNeg) (x0_rowSize p1.toNatClampNeg) (x0_rowSize p2.toNatClampNeg) = D
  unfold cpA at hA
  unfold cpD at hD
  have ref : ∀ c : Int32, (-6 ≤ c ∧ c ≤ -2) → c = A → ¬ D → Sf ((fX7_refuse (x0_shelf, x0_rowSort, x0_rowSize, x0_rows, x0_moved, x0_shown, x0_tape, x0_tapeSize, x0_refused, x0_lines, x0_line, x0_changes, x0_coins, x0_goods, x0_good, x0_works, x0_work, x0_years, x0_gone, x0_spent, x0_at, x0_token, x0_from, x0_figures, x0_fault, x0_numbers, x0_statements, x0_left, x0_far, x0_tons, x0_way, x0_steps, x0_met, x0_queue, x0_totals) c).bind (u2 fun v g => some (v, x0_rows, x0_moved, g))) (fun r => r.1 = A ∧ (D → ∃ g, r.2.1 = va_up x0_rows p2.toNatClampNeg g ∧ ∀ i, g i = if p4.toNatClampNeg ≤ i ∧ i < p4.toNatClampNeg + p5.toNatClampNeg then x0_rows p1.toNatClampNeg (p3.toNatClampNeg + (i - p4.toNatClampNeg)) else x0_rows p2.toNatClampNeg i) ∧ (¬ D → r.2.1 = x0_rows)) := by
    intro c hc e hd
    refine Sf.bind (sX7_refuse h_x0_shelf h_x0_rowSize h_x0_tapeSize h_x0_lines h_x0_line h_x0_changes h_x0_coins h_x0_goods h_x0_good h_x0_works h_x0_work h_x0_years h_x0_from h_x0_far h_x0_way h_x0_steps h_x0_queue hc) ?_
    rintro ⟨v, g⟩ ev
    exact Sf.ok ⟨Eq.trans ev e, fun h => absurd h hd, fun _ => rfl⟩
  unfold fX7_copy
  dsimp only [u35]
  refine Sf.bind (s_inq p1 0 7 (by decide) (by decide)) (fun v1 h1 => Sf.ite (fun hz' => ?_) (fun hz' => ?_))
  · have no := gd0 h1 hz'
    exact ref _ (by decide) (by rw [← hA, if_neg (fun h => no h.1)]) (by rw [← hD]; exact fun h => no h.1.1)
  have c1 := gd1 h1 hz'
  refine Sf.bind (s_inq p2 0 7 (by decide) (by decide)) (fun v6 h6 => Sf.ite (fun hz' => ?_) (fun hz' => ?_))
  · have no := gd0 h6 hz'
    exact ref _ (by decide) (by rw [← hA, if_neg (fun h => no h.2)]) (by rw [← hD]; exact fun h => no h.1.2)
  have c2 := gd1 h6 hz'
  rw [if_pos ⟨c1, c2⟩] at hA
  have i1 : 0 ≤ p1 ∧ p1 < 8 := ⟨c1.1, Int32.lt_of_le_of_lt c1.2 (by decide)⟩
  have i2 : 0 ≤ p2 ∧ p2 < 8 := ⟨c2.1, Int32.lt_of_le_of_lt c2.2 (by decide)⟩
  refine Sf.rdb 8 rfl i1 (fun v8 e8 => ?_)
  refine Sf.ite (fun y => ?_) (fun n1 => ?_)
  · rw [e8] at y
    exact ref _ (by decide) (by rw [← hA, if_pos (Or.inl y)]) (by rw [← hD]; exact fun h => h.2.1 (Or.inl y))
  rw [e8] at n1
  refine Sf.rdb 8 rfl i2 (fun v12 e12 => ?_)
  refine Sf.ite (fun y => ?_) (fun n2 => ?_)
  · rw [e12] at y
    exact ref _ (by decide) (by rw [← hA, if_pos (Or.inr (Or.inl y))]) (by rw [← hD]; exact fun h => h.2.1 (Or.inr (Or.inl y)))
  rw [e12] at n2
  have rest : ¬ (x0_shelf p1.toNatClampNeg = 1 ∧ x0_shelf p2.toNatClampNeg = 1 ∧ ¬ x0_rowSort p1.toNatClampNeg = x0_rowSort p2.toNatClampNeg) → Sf (fX7_copy_j93 n p1 p2 p3 p4 p5 x0_shelf x0_rowSort x0_rowSize x0_rows x0_moved x0_shown x0_tape x0_tapeSize x0_refused x0_lines x0_line x0_changes x0_coins x0_goods x0_good x0_works x0_work x0_years x0_gone x0_spent x0_at x0_token x0_from x0_figures x0_fault x0_numbers x0_statements x0_left x0_far x0_tons x0_way x0_steps x0_met x0_queue x0_totals) (fun r => r.1 = A ∧ (D → ∃ g, r.2.1 = va_up x0_rows p2.toNatClampNeg g ∧ ∀ i, g i = if p4.toNatClampNeg ≤ i ∧ i < p4.toNatClampNeg + p5.toNatClampNeg then x0_rows p1.toNatClampNeg (p3.toNatClampNeg + (i - p4.toNatClampNeg)) else x0_rows p2.toNatClampNeg i) ∧ (¬ D → r.2.1 = x0_rows)) := by
    intro n3
    have nd : ¬ (x0_shelf p1.toNatClampNeg = 2 ∨ x0_shelf p2.toNatClampNeg = 2 ∨ (x0_shelf p1.toNatClampNeg = 1 ∧ x0_shelf p2.toNatClampNeg = 1 ∧ ¬ x0_rowSort p1.toNatClampNeg = x0_rowSort p2.toNatClampNeg)) := by
      rintro (h | h | h)
      · exact n1 h
      · exact n2 h
      · exact n3 h
    rw [if_neg nd] at hA
    unfold fX7_copy_j93
    refine Sf.rdb 8 rfl i1 (fun v17 e17 => ?_)
    refine Sf.ite (fun y => ?_) (fun m1 => ?_)
    · rw [e17] at y
      exact ref _ (by decide) (by rw [← hA, if_pos (Or.inl y)]) (by rw [← hD]; exact fun h => h.2.2.1 (Or.inl y))
    rw [e17] at m1
    refine Sf.rdb 8 rfl i2 (fun v21 e21 => ?_)
    refine Sf.ite (fun y => ?_) (fun m2 => ?_)
    · rw [e21] at y
      exact ref _ (by decide) (by rw [← hA, if_pos (Or.inr y)]) (by rw [← hD]; exact fun h => h.2.2.1 (Or.inr y))
    rw [e21] at m2
    have nn : ¬ (x0_shelf p1.toNatClampNeg = 0 ∨ x0_shelf p2.toNatClampNeg = 0) := by
      rintro (h | h)
      · exact m1 h
      · exact m2 h
    rw [if_neg nn] at hA
    have z1 := h_x0_rowSize p1.toNatClampNeg
    have z2 := h_x0_rowSize p2.toNatClampNeg
    have bad : ¬ ((0 ≤ p5 ∧ p5 ≤ 40) ∧ (0 ≤ p3 ∧ p3 ≤ x0_rowSize p1.toNatClampNeg - p5) ∧ (0 ≤ p4 ∧ p4 ≤ x0_rowSize p2.toNatClampNeg - p5)) → Sf ((fX7_refuse (x0_shelf, x0_rowSort, x0_rowSize, x0_rows, x0_moved, x0_shown, x0_tape, x0_tapeSize, x0_refused, x0_lines, x0_line, x0_changes, x0_coins, x0_goods, x0_good, x0_works, x0_work, x0_years, x0_gone, x0_spent, x0_at, x0_token, x0_from, x0_figures, x0_fault, x0_numbers, x0_statements, x0_left, x0_far, x0_tons, x0_way, x0_steps, x0_met, x0_queue, x0_totals) (-2)).bind (u2 fun v g => some (v, x0_rows, x0_moved, g))) (fun r => r.1 = A ∧ (D → ∃ g, r.2.1 = va_up x0_rows p2.toNatClampNeg g ∧ ∀ i, g i = if p4.toNatClampNeg ≤ i ∧ i < p4.toNatClampNeg + p5.toNatClampNeg then x0_rows p1.toNatClampNeg (p3.toNatClampNeg + (i - p4.toNatClampNeg)) else x0_rows p2.toNatClampNeg i) ∧ (¬ D → r.2.1 = x0_rows)) := by
      intro hb
      exact ref _ (by decide) (by rw [← hA, if_neg hb]) (by rw [← hD]; exact fun h => hb h.2.2.2)
    refine Sf.ite (fun y => bad (fun h => absurd h.1.1 (Int32.not_le.mpr y))) (fun k5 => ?_)
    have k5 := Int32.not_lt.mp k5
    refine Sf.ite (fun y => bad (fun h => absurd h.2.1.1 (Int32.not_le.mpr y))) (fun k3 => ?_)
    have k3 := Int32.not_lt.mp k3
    refine Sf.ite (fun y => bad (fun h => absurd h.2.2.1 (Int32.not_le.mpr y))) (fun k4 => ?_)
    have k4 := Int32.not_lt.mp k4
    refine Sf.rdb 8 rfl i1 (fun v31 e31 => ?_)
    rw [e31]
    refine Sf.ite (fun y => bad (fun h => absurd (cpq_rng z1 h.1 h.2.1).2.2 (Int32.not_le.mpr y))) (fun k6 => ?_)
    have k6 := Int32.not_lt.mp k6
    refine Sf.rdb 8 rfl i2 (fun v35 e35 => ?_)
    rw [e35]
    refine Sf.ite (fun y => bad (fun h => absurd (cpq_rng z2 h.1 h.2.2).2.2 (Int32.not_le.mpr y))) (fun k7 => ?_)
    refine Sf.rdb 8 rfl i1 (fun v39 e39 => ?_)
    rw [e39]
    refine Sf.ite (fun y => bad (fun h => absurd h.2.1.2 (Int32.not_le.mpr y))) (fun k8 => ?_)
    have k8 := Int32.not_lt.mp k8
    refine Sf.rdb 8 rfl i2 (fun v43 e43 => ?_)
    rw [e43]
    refine Sf.ite (fun k9 => ?_) (fun y => bad (fun h => y h.2.2.2))
    have c5 : 0 ≤ p5 ∧ p5 ≤ 40 := ⟨k5, Int32.le_trans k6 z1.2⟩
    have c3 : 0 ≤ p3 ∧ p3 ≤ x0_rowSize p1.toNatClampNeg - p5 := ⟨k3, k8⟩
    have c4 : 0 ≤ p4 ∧ p4 ≤ x0_rowSize p2.toNatClampNeg - p5 := ⟨k4, k9⟩
    rw [if_pos ⟨c5, c3, c4⟩] at hA
    obtain ⟨r1, r2, _⟩ := cpq_rng z1 c5 c3
    obtain ⟨r3, r4, _⟩ := cpq_rng z2 c5 c4
    have e40 : (40 : Int32).toInt = 40 := by decide
    have x3 := i32_cl k3
    have x4 := i32_cl k4
    have x5 := i32_cl k5
    have sum : ∀ (a z : Int32), 0 ≤ a → (a.toInt + p5.toInt ≤ 40) → 0 ≤ z → ¬ p5 ≤ z → (0 ≤ a + z ∧ a + z < 40) ∧ (a + z).toNatClampNeg = a.toNatClampNeg + z.toNatClampNeg := by
      intro a z ha hs hz hl
      have l := Int32.lt_iff_toInt_lt.mp (Int32.not_le.mp hl)
      have ha' := i32_nn ha
      have hz' := i32_nn hz
      have e : (a + z).toInt = a.toInt + z.toInt := i32_add (by omega) (by omega)
      have e0 : (0 : Int32).toInt = 0 := by decide
      have n0 : 0 ≤ a + z := Int32.le_iff_toInt_le.mpr (by omega)
      refine ⟨⟨n0, Int32.lt_iff_toInt_lt.mpr (by omega)⟩, ?_⟩
      have p := i32_cl n0
      have q := i32_cl ha
      have r := i32_cl hz
      omega
    refine Sf.bind (P := fun w => ∀ k, k < p5.toNatClampNeg → w k = x0_rows p1.toNatClampNeg (p3.toNatClampNeg + k)) ?_ (fun w48 h48 => ?_)
    · refine Sf.loop2 (fun (z45 : Int32) (z46 : Nat → Int64) => (0 ≤ z45 ∧ z45 ≤ p5) ∧ ∀ k, k < z45.toNatClampNeg → z46 k = x0_rows p1.toNatClampNeg (p3.toNatClampNeg + k)) (fun z45 z46 => muUp z45) (fun z45 z46 h => ?_) (show (0 ≤ (0 : Int32) ∧ (0 : Int32) ≤ p5) ∧ ∀ k, k < (0 : Int32).toNatClampNeg → x0_moved k = x0_rows p1.toNatClampNeg (p3.toNatClampNeg + k) from ⟨⟨by decide, k5⟩, fun k hk => absurd hk (Nat.not_lt_zero k)⟩) (muUp_n hn)
      obtain ⟨j0, j1⟩ := h
      unfold fX7_copy_s191
      refine Sf.ite (fun hc => Sf.inr ?_) (fun hc => ?_)
      · have e : z45 = p5 := Int32.le_antisymm j0.2 hc
        rw [e] at j1
        exact j1
      obtain ⟨u0, u1, u3⟩ := up1 j0.1 (Int32.le_trans c5.2 (by decide)) hc
      obtain ⟨w1, w2⟩ := sum p3 z45 k3 r2 j0.1 hc
      refine Sf.ckb 8 rfl i1 (fun q57 e57 _ => ?_)
      refine Sf.rdb 40 rfl w1 (fun v58 e58 => ?_)
      rw [w2, e57] at e58
      have hz45 : 0 ≤ z45 ∧ z45 < 40 := ⟨j0.1, Int32.lt_of_lt_of_le u3 c5.2⟩
      refine Sf.wrb 40 rfl hz45 (fun f59 e59 => ?_)
      refine Sf.inl (show (0 ≤ z45 + 1 ∧ z45 + 1 ≤ p5) ∧ ∀ k, k < (z45 + 1).toNatClampNeg → f59 k = x0_rows p1.toNatClampNeg (p3.toNatClampNeg + k) from ⟨⟨u0, ?_⟩, fun k hk => ?_⟩) (muUp_lt hc)
      · have a := Int32.lt_iff_toInt_lt.mp u3
        have b := i32_cl u0
        have c := i32_cl j0.1
        exact Int32.le_iff_toInt_le.mpr (by omega)
      · rw [u1] at hk
        rw [e59]
        by_cases e : k = z45.toNatClampNeg
        · rw [e, va_eq, e58]
        · rw [va_ne _ _ e]
          exact j1 k (by omega)
    · have h48 : ∀ k, k < p5.toNatClampNeg → w48 k = x0_rows p1.toNatClampNeg (p3.toNatClampNeg + k) := h48
      refine Sf.bind (P := fun w => ∃ g, w = va_up x0_rows p2.toNatClampNeg g ∧ ∀ i, g i = if p4.toNatClampNeg ≤ i ∧ i < p4.toNatClampNeg + p5.toNatClampNeg then x0_rows p1.toNatClampNeg (p3.toNatClampNeg + (i - p4.toNatClampNeg)) else x0_rows p2.toNatClampNeg i) ?_ (fun w53 h53 => Sf.ok ⟨hA, fun _ => h53, fun h => absurd (by rw [← hD]; exact ⟨⟨c1, c2⟩, nd, nn, c5, c3, c4⟩) h⟩)
      refine Sf.loop2 (fun (z50 : Int32) (z51 : Nat → Nat → Int64) => (0 ≤ z50 ∧ z50 ≤ p5) ∧ ∃ g, z51 = va_up x0_rows p2.toNatClampNeg g ∧ ∀ i, g i = if p4.toNatClampNeg ≤ i ∧ i < p4.toNatClampNeg + z50.toNatClampNeg then x0_rows p1.toNatClampNeg (p3.toNatClampNeg + (i - p4.toNatClampNeg)) else x0_rows p2.toNatClampNeg i) (fun z50 z51 => muUp z50) (fun z50 z51 h => ?_) (show (0 ≤ (0 : Int32) ∧ (0 : Int32) ≤ p5) ∧ ∃ g, x0_rows = va_up x0_rows p2.toNatClampNeg g ∧ ∀ i, g i = if p4.toNatClampNeg ≤ i ∧ i < p4.toNatClampNeg + (0 : Int32).toNatClampNeg then x0_rows p1.toNatClampNeg (p3.toNatClampNeg + (i - p4.toNatClampNeg)) else x0_rows p2.toNatClampNeg i from ⟨⟨by decide, k5⟩, x0_rows p2.toNatClampNeg, ?_, fun i => ?_⟩) (muUp_n hn)
      · obtain ⟨j0, g, j1, j2⟩ := h
        unfold fX7_copy_s225
        refine Sf.ite (fun hc => Sf.inr ?_) (fun hc => ?_)
        · have e : z50 = p5 := Int32.le_antisymm j0.2 hc
          rw [e] at j2
          exact ⟨g, j1, j2⟩
        obtain ⟨u0, u1, u3⟩ := up1 j0.1 (Int32.le_trans c5.2 (by decide)) hc
        obtain ⟨w1, w2⟩ := sum p4 z50 k4 r4 j0.1 hc
        have hz50 : 0 ≤ z50 ∧ z50 < 40 := ⟨j0.1, Int32.lt_of_lt_of_le u3 c5.2⟩
        have zlt : z50.toNatClampNeg < p5.toNatClampNeg := by
          have a := Int32.lt_iff_toInt_lt.mp u3
          have c := i32_cl j0.1
          omega
        refine Sf.ckb 8 rfl i2 (fun q54 e54 _ => ?_)
        refine Sf.rdb 40 rfl hz50 (fun v55 e55 => ?_)
        rw [h48 _ zlt] at e55
        refine Sf.wrb 40 rfl w1 (fun f56 e56 => ?_)
        rw [w2, e54, j1, va_eq] at e56
        refine Sf.inl (show (0 ≤ z50 + 1 ∧ z50 + 1 ≤ p5) ∧ ∃ g, va_up z51 q54 f56 = va_up x0_rows p2.toNatClampNeg g ∧ ∀ i, g i = if p4.toNatClampNeg ≤ i ∧ i < p4.toNatClampNeg + (z50 + 1).toNatClampNeg then x0_rows p1.toNatClampNeg (p3.toNatClampNeg + (i - p4.toNatClampNeg)) else x0_rows p2.toNatClampNeg i from ⟨⟨u0, ?_⟩, f56, by rw [j1, e54, va_up_up], fun i => ?_⟩) (muUp_lt hc)
        · have a := Int32.lt_iff_toInt_lt.mp u3
          have b := i32_cl u0
          have c := i32_cl j0.1
          exact Int32.le_iff_toInt_le.mpr (by omega)
        · rw [u1, e56]
          by_cases e : i = p4.toNatClampNeg + z50.toNatClampNeg
          · rw [e, va_eq, e55, if_pos ⟨by omega, by omega⟩]
            congr 1
            omega
          · rw [va_ne _ _ e, j2 i]
            by_cases h : p4.toNatClampNeg ≤ i ∧ i < p4.toNatClampNeg + z50.toNatClampNeg
            · rw [if_pos h, if_pos ⟨h.1, by omega⟩]
            · rw [if_neg h, if_neg (fun hh => h ⟨hh.1, by omega⟩)]
      · funext s
        by_cases e : s = p2.toNatClampNeg
        · rw [e, va_eq]
        · rw [va_ne _ _ e]
      · rw [if_neg (fun hh => absurd hh.2 (by rw [show (0 : Int32).toNatClampNeg = 0 from rfl]; omega))]
  refine Sf.rdb 8 rfl i1 (fun v16 e16 => ?_)
  refine Sf.ite (fun y1 => ?_) (fun y1 => rest (fun h => y1 (by rw [e16]; exact h.1)))
  rw [e16] at y1
  refine Sf.rdb 8 rfl i2 (fun v66 e66 => ?_)
  refine Sf.ite (fun y2 => ?_) (fun y2 => rest (fun h => y2 (by rw [e66]; exact h.2.1)))
  rw [e66] at y2
  refine Sf.rdb 8 rfl i1 (fun v67 e67 => ?_)
  refine Sf.rdb 8 rfl i2 (fun v68 e68 => ?_)
  refine Sf.ite (fun y3 => rest (fun h => h.2.2 (by rw [← e67, ← e68]; exact y3))) (fun y3 => ?_)
  rw [e67, e68] at y3
  exact ref _ (by decide) (by rw [← hA, if_pos (Or.inr (Or.inr ⟨y1, y2, y3⟩))]) (by rw [← hD]; exact fun h => h.2.1 (Or.inr (Or.inr ⟨y1, y2, y3⟩)))
theorem dCopy {n : Nat} {x0_refused : (Nat → Int32)} {x0_isKept : Int32} {x0_gone : Int32} {x0_spent : Int32} {x1_elements : (Nat → Nat → Int64)} {x1_held : (Nat → Int32)} {x1_sizes : (Nat → Int32)} {m_shelf : (Nat → Int32)} {m_rowSort : (Nat → Int32)} {m_rowSize : (Nat → Int32)} {m_rows : (Nat → Nat → Int64)} {m_moved : (Nat → Int64)} {m_shown : (Nat → Int32)} {m_tape : (Nat → Int32)} {m_tapeSize : Int32} {m_refused : (Nat → Int32)} {m_lines : Int32} {m_line : (Nat → Nat → Int32)} {m_changes : (Nat → Int32)} {m_coins : (Nat → Int32)} {m_goods : Int32} {m_good : (Nat → Nat → Int32)} {m_works : Int32} {m_work : (Nat → Nat → Int32)} {m_years : Int32} {m_gone : Int32} {m_spent : Int32} {m_at : Int32} {m_token : Int32} {m_from : Int32} {m_figures : Int64} {m_fault : Int32} {m_numbers : (Nat → Int32)} {m_statements : Int32} {m_left : (Nat → Int32)} {m_far : (Nat → Int32)} {m_tons : Int32} {m_way : (Nat → Int32)} {m_steps : Int32} {m_met : Int64} {m_queue : (Nat → Int32)} {m_totals : (Nat → Int32)} {p1 p2 p3 p4 p5 er fr : Int32} {e0 f2 : Nat → Int32} {e1 f0 : Nat → Nat → Int64} {f1 : Nat → Int64} (hn : 1000000000000 ≤ n) (h_m_shelf : (AI 0 2 m_shelf)) (h_m_rowSize : (AI 0 40 m_rowSize)) (h_m_tapeSize : (0 ≤ m_tapeSize ∧ m_tapeSize ≤ 250)) (h_m_lines : (0 ≤ m_lines ∧ m_lines ≤ 20)) (h_m_line : (LnM m_line)) (h_m_changes : (AI 0 99 m_changes)) (h_m_coins : (AI 0 9 m_coins)) (h_m_goods : (0 ≤ m_goods ∧ m_goods ≤ 8)) (h_m_good : (GdM m_good)) (h_m_works : (0 ≤ m_works ∧ m_works ≤ 7)) (h_m_work : (WkM m_work)) (h_m_years : (1 ≤ m_years ∧ m_years ≤ 30)) (h_m_from : (0 ≤ m_from ∧ m_from ≤ 250)) (h_m_far : (AI 0 1000000000 m_far)) (h_m_way : (AI 0 22 m_way)) (h_m_steps : (0 ≤ m_steps ∧ m_steps ≤ 37)) (h_m_queue : (AI 0 35 m_queue)) (hSh : ShA x1_elements x1_held x1_sizes m_shelf m_rowSort m_rowSize m_rows m_shown) (eqA : fX6_copy (x0_refused, x0_isKept, x0_gone, x0_spent) (x1_elements, x1_held, x1_sizes) p1 p2 p3 p4 p5 = some (er, e0, e1)) (eqB : fX7_copy n (m_shelf, m_rowSort, m_rowSize, m_rows, m_moved, m_shown, m_tape, m_tapeSize, m_refused, m_lines, m_line, m_changes, m_coins, m_goods, m_good, m_works, m_work, m_years, m_gone, m_spent, m_at, m_token, m_from, m_figures, m_fault, m_numbers, m_statements, m_left, m_far, m_tons, m_way, m_steps, m_met, m_queue, m_totals) p1 p2 p3 p4 p5 = some (fr, f0, f1, f2)) : er = fr ∧ ShA e1 x1_held x1_sizes m_shelf m_rowSort m_rowSize f0 m_shown := by
  obtain ⟨a1, a2, a3⟩ := (copyC h_m_shelf h_m_rowSize hSh).at eqA
  obtain ⟨b1, b2, b3⟩ := (copyR hn h_m_shelf h_m_rowSize h_m_tapeSize h_m_lines h_m_line h_m_changes h_m_coins h_m_goods h_m_good h_m_works h_m_work h_m_years h_m_from h_m_far h_m_way h_m_steps h_m_queue).at eqB
  have a1 : er = _ := a1
  have b1 : fr = _ := b1
  have a2 : _ → e1 = _ := a2
  have a3 : _ → e1 = x1_elements := a3
  have b2 : _ → ∃ g, f0 = va_up m_rows p2.toNatClampNeg g ∧ _ := b2
  have b3 : _ → f0 = m_rows := b3
  refine ⟨a1.trans b1.symm, ?_⟩
  by_cases hd : cpD p1 p2 p3 p4 p5 (m_shelf p1.toNatClampNeg) (m_shelf p2.toNatClampNeg) (m_rowSort p1.toNatClampNeg) (m_rowSort p2.toNatClampNeg) (m_rowSize p1.toNatClampNeg) (m_rowSize p2.toNatClampNeg)
  · obtain ⟨⟨c1, c2⟩, n1, n2, c5, c3, c4⟩ := id hd
    have y : ∀ k, ¬ m_shelf k = 2 → ¬ m_shelf k = 0 → m_shelf k = 1 := by
      intro k h h'
      rcases sh_rng h_m_shelf k with x | x | x
      · exact absurd x h'
      · exact x
      · exact absurd x h
    have y1 := y p1.toNatClampNeg (fun h => n1 (Or.inl h)) (fun h => n2 (Or.inl h))
    have y2 := y p2.toNatClampNeg (fun h => n1 (Or.inr (Or.inl h))) (fun h => n2 (Or.inr h))
    obtain ⟨g, g1, g2⟩ := b2 hd
    have r3 := (cpq_rng (h_m_rowSize p1.toNatClampNeg) c5 c3).2.1
    have x3 := i32_cl c3.1
    have x4 := i32_cl c4.1
    have x5 := i32_cl c5.1
    have k1 : ∀ i, i < 40 → x1_elements p1.toNatClampNeg i = m_rows p1.toNatClampNeg i := by
      rcases hSh _ (p8_of c1) with ⟨a, _⟩ | ⟨_, _, _, _, b⟩ | ⟨a, _⟩
      · rw [y1] at a; exact absurd a (by decide)
      · exact b
      · rw [y1] at a; exact absurd a (by decide)
    refine hSh.put y2 (a2 hd) g1 (fun k _ i hi => ?_)
    rw [g2 i]
    unfold va_cpy
    by_cases h : p4.toNatClampNeg ≤ i ∧ i < p4.toNatClampNeg + p5.toNatClampNeg
    · rw [if_pos h, if_pos h]
      exact k1 _ (by omega)
    · rw [if_neg h, if_neg h]
      exact k i hi
  · rw [a3 hd, b3 hd]
    exact hSh
/-- back -/
theorem dropC {n : Nat} {x0_elements : (Nat → Nat → Int64)} {x0_held : (Nat → Int32)} {x0_sizes : (Nat → Int32)} {W : Int32} (hn : 1000000000000 ≤ n) (hW : 0 ≤ W) : Sf (fX2_dropWorksFrom n (x0_elements, x0_held, x0_sizes) W) (fun r => ∀ s, s < 8 → r s = if 10 ≤ x0_held s ∧ W ≤ x0_held s - 10 then -1 else x0_held s) := by
  unfold fX2_dropWorksFrom
  try dsimp only [u3]
  refine Sf.bind (P := fun r => ∀ s, s < 8 → r s = if 10 ≤ x0_held s ∧ W ≤ x0_held s - 10 then -1 else x0_held s) ?_ (fun r h => Sf.ok h)
  refine Sf.loop2 (fun (z2 : Int32) (z3 : Nat → Int32) => (0 ≤ z2 ∧ z2 ≤ 8) ∧ (∀ s, s < z2.toNatClampNeg → z3 s = if 10 ≤ x0_held s ∧ W ≤ x0_held s - 10 then -1 else x0_held s) ∧ ∀ s, z2.toNatClampNeg ≤ s → z3 s = x0_held s) (fun z2 z3 => muUp z2) (fun z2 z3 h => ?_) (show (0 ≤ (0 : Int32) ∧ (0 : Int32) ≤ 8) ∧ (∀ s, s < (0 : Int32).toNatClampNeg → x0_held s = if 10 ≤ x0_held s ∧ W ≤ x0_held s - 10 then -1 else x0_held s) ∧ ∀ s, (0 : Int32).toNatClampNeg ≤ s → x0_held s = x0_held s from ⟨by decide, fun s hs => absurd hs (Nat.not_lt_zero s), fun _ _ => rfl⟩) (muUp_n hn)
  obtain ⟨i0, i1, i2⟩ := h
  unfold fX2_dropWorksFrom_s2
  refine Sf.ite (fun hc => Sf.inr ?_) (fun hc => ?_)
  · have e : z2 = 8 := Int32.le_antisymm i0.2 hc
    rw [e] at i1
    exact i1
  obtain ⟨u0, u1, u3⟩ := up1 i0.1 (B := 8) (by decide) hc
  have hz7 : 0 ≤ z2 ∧ z2 ≤ 7 := ⟨i0.1, by clear i1 i2; grind⟩
  have row := i2 _ (Nat.le_refl _)
  have nx : 0 ≤ z2 + 1 ∧ z2 + 1 ≤ 8 := ⟨u0, by clear i1 i2; grind⟩
  have wk : Sf (fX2_workIn (x0_elements, z3, x0_sizes) z2) (fun r => r = if 10 ≤ x0_held z2.toNatClampNeg then x0_held z2.toNatClampNeg - 10 else -1) := by
    unfold fX2_workIn
    try dsimp only [u3]
    refine Sf.bind (hwS hz7) (fun v1 h1 => ?_)
    have h1 : v1 = 0 ↔ z3 z2.toNatClampNeg < 10 := h1
    rw [row] at h1
    refine Sf.ite (fun hv => Sf.ok ?_) (fun hv => ?_)
    · rw [if_neg (Int32.not_le.mpr (h1.mp hv))]
    · refine Sf.rdb 8 rfl ⟨hz7.1, u3⟩ (fun v3 e3 => Sf.ok ?_)
      have e3 : v3 = z3 z2.toNatClampNeg := e3
      rw [if_pos (Int32.not_lt.mp (fun h => hv (h1.mpr h))), e3, row]
  refine Sf.bind wk (fun v6 e6 => ?_)
  refine Sf.ite (fun hv => ?_) (fun hv => ?_)
  · refine Sf.inl (show (0 ≤ z2 + 1 ∧ z2 + 1 ≤ 8) ∧ (∀ s, s < (z2 + 1).toNatClampNeg → z3 s = if 10 ≤ x0_held s ∧ W ≤ x0_held s - 10 then -1 else x0_held s) ∧ ∀ s, (z2 + 1).toNatClampNeg ≤ s → z3 s = x0_held s from ⟨nx, fun s hs => ?_, fun s hs => ?_⟩) (muUp_lt hc)
    · rw [u1] at hs
      by_cases e : s = z2.toNatClampNeg
      · rw [e, row, if_neg]
        rintro ⟨a, b⟩
        rw [if_pos a] at e6
        rw [e6] at hv
        exact Int32.not_lt.mpr b hv
      · exact i1 s (by omega)
    · rw [u1] at hs
      exact i2 s (by omega)
  · refine Sf.wrb 8 rfl ⟨hz7.1, u3⟩ (fun f8 e8 => ?_)
    refine Sf.inl (show (0 ≤ z2 + 1 ∧ z2 + 1 ≤ 8) ∧ (∀ s, s < (z2 + 1).toNatClampNeg → f8 s = if 10 ≤ x0_held s ∧ W ≤ x0_held s - 10 then -1 else x0_held s) ∧ ∀ s, (z2 + 1).toNatClampNeg ≤ s → f8 s = x0_held s from ⟨nx, fun s hs => ?_, fun s hs => ?_⟩) (muUp_lt hc)
    · rw [u1] at hs
      rw [e8]
      by_cases e : s = z2.toNatClampNeg
      · rw [e, va_eq]
        have a : 10 ≤ x0_held z2.toNatClampNeg := by
          refine Classical.byContradiction fun h => ?_
          rw [if_neg h] at e6
          rw [e6] at hv
          exact hv (Int32.lt_of_lt_of_le (by decide) hW)
        rw [if_pos a] at e6
        rw [if_pos ⟨a, by rw [← e6]; exact Int32.not_lt.mp hv⟩]
      · rw [va_ne _ _ e]
        exact i1 s (by omega)
    · rw [u1] at hs
      rw [e8, va_ne _ _ (by omega)]
      exact i2 s (by omega)
theorem drop7 {n : Nat} {sn sh : Nat → Int32} {W : Int32} (hn : 1000000000000 ≤ n) : Sf (lp (u2 (fX7_back_s24 sn W)) n (0, sh)) (fun r => ∀ s, s < 8 → r s = if sh s = 2 ∧ W ≤ sn s then 0 else sh s) := by
  refine Sf.loop2 (fun (z2 : Int32) (z3 : Nat → Int32) => (0 ≤ z2 ∧ z2 ≤ 8) ∧ (∀ s, s < z2.toNatClampNeg → z3 s = if sh s = 2 ∧ W ≤ sn s then 0 else sh s) ∧ ∀ s, z2.toNatClampNeg ≤ s → z3 s = sh s) (fun z2 z3 => muUp z2) (fun z2 z3 h => ?_) (show (0 ≤ (0 : Int32) ∧ (0 : Int32) ≤ 8) ∧ (∀ s, s < (0 : Int32).toNatClampNeg → sh s = if sh s = 2 ∧ W ≤ sn s then 0 else sh s) ∧ ∀ s, (0 : Int32).toNatClampNeg ≤ s → sh s = sh s from ⟨by decide, fun s hs => absurd hs (Nat.not_lt_zero s), fun _ _ => rfl⟩) (muUp_n hn)
  obtain ⟨i0, i1, i2⟩ := h
  unfold fX7_back_s24
  refine Sf.ite (fun hc => Sf.inr ?_) (fun hc => ?_)
  · have e : z2 = 8 := Int32.le_antisymm i0.2 hc
    rw [e] at i1
    exact i1
  obtain ⟨u0, u1, u3⟩ := up1 i0.1 (B := 8) (by decide) hc
  have row := i2 _ (Nat.le_refl _)
  have nx : 0 ≤ z2 + 1 ∧ z2 + 1 ≤ 8 := ⟨u0, by clear i1 i2; grind⟩
  have same : ¬ (sh z2.toNatClampNeg = 2 ∧ W ≤ sn z2.toNatClampNeg) → (0 ≤ z2 + 1 ∧ z2 + 1 ≤ 8) ∧ (∀ s, s < (z2 + 1).toNatClampNeg → z3 s = if sh s = 2 ∧ W ≤ sn s then 0 else sh s) ∧ ∀ s, (z2 + 1).toNatClampNeg ≤ s → z3 s = sh s := by
    intro hno
    refine ⟨nx, fun s hs => ?_, fun s hs => ?_⟩
    · rw [u1] at hs
      by_cases e : s = z2.toNatClampNeg
      · rw [e, row, if_neg hno]
      · exact i1 s (by omega)
    · rw [u1] at hs
      exact i2 s (by omega)
  refine Sf.rdb 8 rfl ⟨i0.1, u3⟩ (fun v19 e19 => ?_)
  rw [row] at e19
  refine Sf.ite (fun hv => ?_) (fun hv => Sf.inl (same (fun h => hv (by rw [e19]; exact h.1))) (muUp_lt hc))
  rw [e19] at hv
  refine Sf.rdb 8 rfl ⟨i0.1, u3⟩ (fun v20 e20 => ?_)
  refine Sf.ite (fun hl => Sf.inl (same (fun h => ?_)) (muUp_lt hc)) (fun hl => ?_)
  · rw [e20] at hl
    exact Int32.not_lt.mpr h.2 hl
  rw [e20] at hl
  refine Sf.wrb 8 rfl ⟨i0.1, u3⟩ (fun f21 e21 => ?_)
  refine Sf.inl (show (0 ≤ z2 + 1 ∧ z2 + 1 ≤ 8) ∧ (∀ s, s < (z2 + 1).toNatClampNeg → f21 s = if sh s = 2 ∧ W ≤ sn s then 0 else sh s) ∧ ∀ s, (z2 + 1).toNatClampNeg ≤ s → f21 s = sh s from ⟨nx, fun s hs => ?_, fun s hs => ?_⟩) (muUp_lt hc)
  · rw [u1] at hs
    rw [e21]
    by_cases e : s = z2.toNatClampNeg
    · rw [e, va_eq, if_pos ⟨hv, Int32.not_lt.mp hl⟩]
    · rw [va_ne _ _ e]
      exact i1 s (by omega)
  · rw [u1] at hs
    rw [e21, va_ne _ _ (by omega)]
    exact i2 s (by omega)
theorem ShA.back {el : Nat → Nat → Int64} {he si sh rs rz he' sh' : Nat → Int32} {rw_ : Nat → Nat → Int64} {sn : Nat → Int32} {W : Int32} (h : ShA el he si sh rs rz rw_ sn) (e1 : ∀ s, s < 8 → he' s = if 10 ≤ he s ∧ W ≤ he s - 10 then -1 else he s) (e2 : ∀ s, s < 8 → sh' s = if sh s = 2 ∧ W ≤ sn s then 0 else sh s) : ShA el he' si sh' rs rz rw_ sn := by
  intro s hs
  have a := e1 s hs
  have b := e2 s hs
  rcases h s hs with ⟨x1, x2⟩ | ⟨x1, x2, x3, x4, x5⟩ | ⟨x1, x2, x3⟩
  · refine Or.inl ⟨?_, ?_⟩
    · rw [b, if_neg (fun hh => absurd (x1.symm.trans hh.1) (by decide))]; exact x1
    · rw [a, if_neg (fun hh => absurd hh.1 (by rw [x2]; decide))]; exact x2
  · have n10 : ¬ 10 ≤ he s := by
      have q := x3
      generalize he s = x at q
      clear a b h e1 e2 x2 x5
      grind
    have a' : he' s = he s := by rw [a, if_neg (fun hh => n10 hh.1)]
    refine Or.inr (Or.inl ⟨?_, ?_, ?_, x4, x5⟩)
    · rw [b, if_neg (fun hh => absurd (x1.symm.trans hh.1) (by decide))]; exact x1
    · rw [a']; exact x2
    · rw [a']; exact x3
  · have y : 10 ≤ he s ∧ he s - 10 = sn s := by
      rw [x2]
      generalize sn s = x at x3
      clear a b h e1 e2 x2
      refine ⟨by grind, by grind⟩
    by_cases hw : W ≤ sn s
    · refine Or.inl ⟨?_, ?_⟩
      · rw [b, if_pos ⟨x1, hw⟩]
      · rw [a, if_pos ⟨y.1, by rw [y.2]; exact hw⟩]
    · refine Or.inr (Or.inr ⟨?_, ?_, x3⟩)
      · rw [b, if_neg (fun hh => hw hh.2)]; exact x1
      · rw [a, if_neg (fun hh => hw (by rw [← y.2]; exact hh.2))]; exact x2
theorem dBackS {n : Nat} {x0_refused : (Nat → Int32)} {x0_isKept : Int32} {x0_gone : Int32} {x0_spent : Int32} {x1_lineCount : Int32} {x1_goodsCount : Int32} {x1_workCount : Int32} {x1_years : Int32} {x1_lines : (Nat → Int32)} {x1_goods : (Nat → Int32)} {x1_works : (Nat → Int32)} {x1_change : (Nat → Int32)} {x1_coin : (Nat → Int32)} {x1_knownFree : (Nat → Int32)} {x1_isKnown : Int32} {x2_elements : (Nat → Nat → Int64)} {x2_held : (Nat → Int32)} {x2_sizes : (Nat → Int32)} {x3_lineCount : Int32} {x3_goodsCount : Int32} {x3_workCount : Int32} {x3_years : Int32} {x3_lines : (Nat → Int32)} {x3_goods : (Nat → Int32)} {x3_works : (Nat → Int32)} {x3_change : (Nat → Int32)} {x3_coin : (Nat → Int32)} {x3_knownFree : (Nat → Int32)} {x3_isKnown : Int32} {m_shelf : (Nat → Int32)} {m_rowSort : (Nat → Int32)} {m_rowSize : (Nat → Int32)} {m_rows : (Nat → Nat → Int64)} {m_moved : (Nat → Int64)} {m_shown : (Nat → Int32)} {m_tape : (Nat → Int32)} {m_tapeSize : Int32} {m_refused : (Nat → Int32)} {m_lines : Int32} {m_line : (Nat → Nat → Int32)} {m_changes : (Nat → Int32)} {m_coins : (Nat → Int32)} {m_goods : Int32} {m_good : (Nat → Nat → Int32)} {m_works : Int32} {m_work : (Nat → Nat → Int32)} {m_years : Int32} {m_gone : Int32} {m_spent : Int32} {m_at : Int32} {m_token : Int32} {m_from : Int32} {m_figures : Int64} {m_fault : Int32} {m_numbers : (Nat → Int32)} {m_statements : Int32} {m_left : (Nat → Int32)} {m_far : (Nat → Int32)} {m_tons : Int32} {m_way : (Nat → Int32)} {m_steps : Int32} {m_met : Int64} {m_queue : (Nat → Int32)} {m_totals : (Nat → Int32)} {k_shelf : (Nat → Int32)} {k_rowSort : (Nat → Int32)} {k_rowSize : (Nat → Int32)} {k_rows : (Nat → Nat → Int64)} {k_moved : (Nat → Int64)} {k_shown : (Nat → Int32)} {k_tape : (Nat → Int32)} {k_tapeSize : Int32} {k_refused : (Nat → Int32)} {k_lines : Int32} {k_line : (Nat → Nat → Int32)} {k_changes : (Nat → Int32)} {k_coins : (Nat → Int32)} {k_goods : Int32} {k_good : (Nat → Nat → Int32)} {k_works : Int32} {k_work : (Nat → Nat → Int32)} {k_years : Int32} {k_gone : Int32} {k_spent : Int32} {k_at : Int32} {k_token : Int32} {k_from : Int32} {k_figures : Int64} {k_fault : Int32} {k_numbers : (Nat → Int32)} {k_statements : Int32} {k_left : (Nat → Int32)} {k_far : (Nat → Int32)} {k_tons : Int32} {k_way : (Nat → Int32)} {k_steps : Int32} {k_met : Int64} {k_queue : (Nat → Int32)} {k_totals : (Nat → Int32)} {er e1 e2 e3 e4 e10 fr f2 f6 f8 f10 f11 f12 : Int32} {e0 eh e5 e6 e7 e8 e9 f0 f1 f4 f5 : Nat → Int32} {f3 f7 f9 : Nat → Nat → Int32} (hn : 1000000000000 ≤ n) (h_x1_lineCount : (0 ≤ x1_lineCount ∧ x1_lineCount ≤ 20)) (h_x1_goodsCount : (0 ≤ x1_goodsCount ∧ x1_goodsCount ≤ 8)) (h_x1_workCount : (0 ≤ x1_workCount ∧ x1_workCount ≤ 7)) (h_x1_years : (1 ≤ x1_years ∧ x1_years ≤ 30)) (h_x1_lines : (LnOk x1_lines)) (h_x1_goods : (GdOk x1_goods)) (h_x1_works : (WkOk x1_works)) (h_x1_change : (AI 0 99 x1_change)) (h_x1_coin : (AI 0 9 x1_coin)) (hk0 : ¬ x0_isKept = 0) (hSh : ShA x2_elements x2_held x2_sizes m_shelf m_rowSort m_rowSize m_rows m_shown) (hW : x1_workCount = k_works) (eqA : fX6_back n (x0_refused, x0_isKept, x0_gone, x0_spent) (x1_lineCount, x1_goodsCount, x1_workCount, x1_years, x1_lines, x1_goods, x1_works, x1_change, x1_coin, x1_knownFree, x1_isKnown) (x2_elements, x2_held, x2_sizes) (x3_lineCount, x3_goodsCount, x3_workCount, x3_years, x3_lines, x3_goods, x3_works, x3_change, x3_coin, x3_knownFree, x3_isKnown) = some (er, e0, eh, (e1, e2, e3, e4, e5, e6, e7, e8, e9, e10))) (eqB : fX7_back n (m_shelf, m_rowSort, m_rowSize, m_rows, m_moved, m_shown, m_tape, m_tapeSize, m_refused, m_lines, m_line, m_changes, m_coins, m_goods, m_good, m_works, m_work, m_years, m_gone, m_spent, m_at, m_token, m_from, m_figures, m_fault, m_numbers, m_statements, m_left, m_far, m_tons, m_way, m_steps, m_met, m_queue, m_totals) (k_shelf, k_rowSort, k_rowSize, k_rows, k_moved, k_shown, k_tape, k_tapeSize, k_refused, k_lines, k_line, k_changes, k_coins, k_goods, k_good, k_works, k_work, k_years, k_gone, k_spent, k_at, k_token, k_from, k_figures, k_fault, k_numbers, k_statements, k_left, k_far, k_tons, k_way, k_steps, k_met, k_queue, k_totals) = some (fr, (f0, f1, f2, f3, f4, f5, f6, f7, f8, f9, f10, f11, f12))) : ShA x2_elements eh x2_sizes f0 m_rowSort m_rowSize m_rows m_shown := by
  have a : Sf (fX6_back n (x0_refused, x0_isKept, x0_gone, x0_spent) (x1_lineCount, x1_goodsCount, x1_workCount, x1_years, x1_lines, x1_goods, x1_works, x1_change, x1_coin, x1_knownFree, x1_isKnown) (x2_elements, x2_held, x2_sizes) (x3_lineCount, x3_goodsCount, x3_workCount, x3_years, x3_lines, x3_goods, x3_works, x3_change, x3_coin, x3_knownFree, x3_isKnown)) (fun r => ∀ s, s < 8 → r.2.2.1 s = if 10 ≤ x2_held s ∧ x1_workCount ≤ x2_held s - 10 then -1 else x2_held s) := by
    unfold fX6_back
    dsimp only [u4, u11, u3]
    refine Sf.ite (fun h => absurd h hk0) (fun _ => ?_)
    refine Sf.bind (takeC h_x1_lineCount h_x1_goodsCount h_x1_workCount h_x1_years h_x1_lines h_x1_goods h_x1_works h_x1_change h_x1_coin) ?_
    rintro ⟨g2, g3, g4, g5, g6, g7, g8, g9, g10, g11⟩ ⟨_, _, s2, _⟩
    have s2 : g4 = x1_workCount := s2
    try dsimp only [u10]
    rw [s2]
    refine Sf.bind (dropC hn h_x1_workCount.1) (fun g13 h13 => Sf.ok h13)
  have b : Sf (fX7_back n (m_shelf, m_rowSort, m_rowSize, m_rows, m_moved, m_shown, m_tape, m_tapeSize, m_refused, m_lines, m_line, m_changes, m_coins, m_goods, m_good, m_works, m_work, m_years, m_gone, m_spent, m_at, m_token, m_from, m_figures, m_fault, m_numbers, m_statements, m_left, m_far, m_tons, m_way, m_steps, m_met, m_queue, m_totals) (k_shelf, k_rowSort, k_rowSize, k_rows, k_moved, k_shown, k_tape, k_tapeSize, k_refused, k_lines, k_line, k_changes, k_coins, k_goods, k_good, k_works, k_work, k_years, k_gone, k_spent, k_at, k_token, k_from, k_figures, k_fault, k_numbers, k_statements, k_left, k_far, k_tons, k_way, k_steps, k_met, k_queue, k_totals)) (fun r => ∀ s, s < 8 → r.2.1 s = if m_shelf s = 2 ∧ k_works ≤ m_shown s then 0 else m_shelf s) := by
    unfold fX7_back
    dsimp only [u35]
    refine Sf.bind (takeFromR hn) ?_
    rintro ⟨g2, g3, g4, g5, g6, g7, g8, g9, g10, g11, g12⟩ ⟨_, _, _, _, _, _, s7, _⟩
    have s7 : g8 = k_works := s7
    try dsimp only [u11]
    rw [s7]
    exact Sf.bind (drop7 hn) (fun w18 h18 => Sf.ok h18)
  refine hSh.back (W := x1_workCount) (a.at eqA) ?_
  rw [hW]
  exact b.at eqB
end
section
/-! says; the works shown stay there -/
def Pf {α : Type} (x : Option α) (Q : α → Prop) : Prop := ∀ r, x = some r → Q r
theorem Pf.ok {α : Type} {a : α} {Q : α → Prop} (h : Q a) : Pf (some a) Q := by
  intro r e
  cases e
  exact h
theorem Pf.bindP {α β : Type} {x : Option α} {f : α → Option β} {P : α → Prop} {Q : β → Prop} (hx : Pf x P) (hf : ∀ a, P a → Pf (f a) Q) : Pf (x.bind f) Q := by
  intro r e
  cases x with
  | none => cases e
  | some a => exact hf a (hx a rfl) r e
theorem Pf.bind {α β : Type} {x : Option α} {f : α → Option β} {Q : β → Prop} (hf : ∀ a, Pf (f a) Q) : Pf (x.bind f) Q := Pf.bindP (P := fun _ => True) (fun _ _ => trivial) (fun a _ => hf a)
theorem Pf.ite {α : Type} {c : Prop} [inst : Decidable c] {a b : Option α} {Q : α → Prop} (h1 : c → Pf a Q) (h2 : ¬ c → Pf b Q) : Pf (if c then a else b) Q := by
  by_cases h : c
  · rw [if_pos h]; exact h1 h
  · rw [if_neg h]; exact h2 h
theorem Pf.loop {S E : Type} {step : S → Option (S ⊕ E)} {Q : E → Prop} (I : S → Prop) (hs : ∀ s, I s → Pf (step s) (fun r => Sum.elim I Q r)) : ∀ (n : Nat) (s : S), I s → Pf (lp step n s) Q := by
  intro n
  induction n with
  | zero => intro s _ r e; cases e
  | succ n ih =>
    intro s hI r e
    cases er : step s with
    | none => simp only [lp, er] at e; cases e
    | some w =>
      have hw := hs s hI w er
      cases w with
      | inl s' =>
        simp only [lp, er] at e
        exact ih s' hw r e
      | inr x =>
        simp only [lp, er] at e
        cases e
        exact hw
theorem takeP {x0_lineCount : Int32} {x0_goodsCount : Int32} {x0_workCount : Int32} {x0_years : Int32} {x0_lines : (Nat → Int32)} {x0_goods : (Nat → Int32)} {x0_works : (Nat → Int32)} {x0_change : (Nat → Int32)} {x0_coin : (Nat → Int32)} {x0_knownFree : (Nat → Int32)} {x0_isKnown : Int32} {x1_lineCount : Int32} {x1_goodsCount : Int32} {x1_workCount : Int32} {x1_years : Int32} {x1_lines : (Nat → Int32)} {x1_goods : (Nat → Int32)} {x1_works : (Nat → Int32)} {x1_change : (Nat → Int32)} {x1_coin : (Nat → Int32)} {x1_knownFree : (Nat → Int32)} {x1_isKnown : Int32} : Pf (fX1_take (x0_lineCount, x0_goodsCount, x0_workCount, x0_years, x0_lines, x0_goods, x0_works, x0_change, x0_coin, x0_knownFree, x0_isKnown) (x1_lineCount, x1_goodsCount, x1_workCount, x1_years, x1_lines, x1_goods, x1_works, x1_change, x1_coin, x1_knownFree, x1_isKnown)) (fun r => r.2.2.1 = x1_workCount) := by
  unfold fX1_take
  dsimp only [u11]
  exact Pf.bind (fun _ => Pf.bind (fun _ => Pf.bind (fun _ => Pf.bind (fun _ => Pf.bind (fun _ => Pf.ok rfl)))))
theorem inc7 {w : Int32} (h0 : 0 ≤ w) (h : w < 7) : w ≤ w + 1 := by grind
theorem addWorkP {x0_lineCount : Int32} {x0_goodsCount : Int32} {x0_workCount : Int32} {x0_years : Int32} {x0_lines : (Nat → Int32)} {x0_goods : (Nat → Int32)} {x0_works : (Nat → Int32)} {x0_change : (Nat → Int32)} {x0_coin : (Nat → Int32)} {x0_knownFree : (Nat → Int32)} {x0_isKnown : Int32} {p1 p2 p3 p4 : Int32} (h : 0 ≤ x0_workCount) : Pf (fX1_addWork (x0_lineCount, x0_goodsCount, x0_workCount, x0_years, x0_lines, x0_goods, x0_works, x0_change, x0_coin, x0_knownFree, x0_isKnown) p1 p2 p3 p4) (fun r => x0_workCount ≤ r.1) := by
  unfold fX1_addWork
  dsimp only [u11]
  exact Pf.ite (fun hc => Pf.bind (fun _ => Pf.bind (fun _ => Pf.bind (fun _ => Pf.bind (fun _ => Pf.bind (fun _ => Pf.ok (inc7 h hc))))))) (fun _ => Pf.ok (Int32.le_refl _))
theorem readWorkP {n : Nat} {x0_bytes : (Nat → Int32)} {x0_size : Int32} {x0_start : Int32} {x0_end : Int32} {x0_token : Int32} {x0_value : Int32} {x1_lineCount : Int32} {x1_goodsCount : Int32} {x1_workCount : Int32} {x1_years : Int32} {x1_lines : (Nat → Int32)} {x1_goods : (Nat → Int32)} {x1_works : (Nat → Int32)} {x1_change : (Nat → Int32)} {x1_coin : (Nat → Int32)} {x1_knownFree : (Nat → Int32)} {x1_isKnown : Int32} (h : 0 ≤ x1_workCount) : Pf (fX3_readWork n (x0_bytes, x0_size, x0_start, x0_end, x0_token, x0_value) (x1_lineCount, x1_goodsCount, x1_workCount, x1_years, x1_lines, x1_goods, x1_works, x1_change, x1_coin, x1_knownFree, x1_isKnown)) (fun r => x1_workCount ≤ r.2.2.2.2.2.1) := by
  have j90 : ∀ v6 y16 y25 x26 x27 x28 x29 y30 : Int32, Pf (fX3_readWork_j90 x1_lineCount x1_goodsCount x1_workCount x1_years x1_lines x1_goods x1_works x1_change x1_coin x1_knownFree x1_isKnown v6 y16 y25 x26 x27 x28 x29 y30) (fun r => x1_workCount ≤ r.2.2.2.2.2.1) := by
    intro v6 y16 y25 x26 x27 x28 x29 y30
    unfold fX3_readWork_j90
    refine Pf.ite (fun _ => Pf.ok (Int32.le_refl _)) (fun _ => Pf.bindP (addWorkP h) (fun a ha => ?_))
    dsimp only [u3]
    exact Pf.ok ha
  have j70 : ∀ v6 y16 x21 x22 x23 x24 y25 : Int32, Pf (fX3_readWork_j70 n x0_bytes x0_size x1_lineCount x1_goodsCount x1_workCount x1_years x1_lines x1_goods x1_works x1_change x1_coin x1_knownFree x1_isKnown v6 y16 x21 x22 x23 x24 y25) (fun r => x1_workCount ≤ r.2.2.2.2.2.1) := by
    intro v6 y16 x21 x22 x23 x24 y25
    unfold fX3_readWork_j70
    refine Pf.ite (fun _ => j90 _ _ _ _ _ _ _ _) (fun _ => Pf.bind (fun a => ?_))
    dsimp only [u5]
    exact j90 _ _ _ _ _ _ _ _
  have j30 : ∀ v6 x12 x13 x14 x15 y16 : Int32, Pf (fX3_readWork_j30 n x0_bytes x0_size x1_lineCount x1_goodsCount x1_workCount x1_years x1_lines x1_goods x1_works x1_change x1_coin x1_knownFree x1_isKnown v6 x12 x13 x14 x15 y16) (fun r => x1_workCount ≤ r.2.2.2.2.2.1) := by
    intro v6 x12 x13 x14 x15 y16
    unfold fX3_readWork_j30
    refine Pf.ite (fun _ => Pf.ok (Int32.le_refl _)) (fun _ => Pf.bind (fun a => Pf.bind (fun b => Pf.ite (fun _ => Pf.bind (fun c => ?_)) (fun _ => Pf.bind (fun c => ?_)))))
    · dsimp only [u5]
      exact j70 _ _ _ _ _ _ _
    · dsimp only [u5]
      exact j70 _ _ _ _ _ _ _
  unfold fX3_readWork
  dsimp only [u6, u11]
  refine Pf.bind (fun a => ?_)
  dsimp only [u4]
  refine Pf.bind (fun b => ?_)
  dsimp only [u5]
  refine Pf.ite (fun _ => j30 _ _ _ _ _ _) (fun _ => Pf.bind (fun c => Pf.bind (fun d => ?_)))
  dsimp only [u5]
  exact j30 _ _ _ _ _ _
theorem readStP {n : Nat} {x0_bytes : (Nat → Int32)} {x0_size : Int32} {x0_start : Int32} {x0_end : Int32} {x0_token : Int32} {x0_value : Int32} {x1_lineCount : Int32} {x1_goodsCount : Int32} {x1_workCount : Int32} {x1_years : Int32} {x1_lines : (Nat → Int32)} {x1_goods : (Nat → Int32)} {x1_works : (Nat → Int32)} {x1_change : (Nat → Int32)} {x1_coin : (Nat → Int32)} {x1_knownFree : (Nat → Int32)} {x1_isKnown : Int32} (h : 0 ≤ x1_workCount) : Pf (fX3_readStatement n (x0_bytes, x0_size, x0_start, x0_end, x0_token, x0_value) (x1_lineCount, x1_goodsCount, x1_workCount, x1_years, x1_lines, x1_goods, x1_works, x1_change, x1_coin, x1_knownFree, x1_isKnown)) (fun r => x1_workCount ≤ r.2.2.2.2.2.2.2.1) := by
  unfold fX3_readStatement
  dsimp only [u6, u11]
  refine Pf.bind (fun _ => Pf.ite (fun _ => ?_) (fun _ => Pf.ite (fun _ => Pf.ok (Int32.le_refl _)) (fun _ => Pf.bind (fun a => ?_))))
  · refine Pf.bind (fun _ => Pf.ite (fun _ => ?_) (fun _ => Pf.ite (fun _ => Pf.ok (Int32.le_refl _)) (fun _ => Pf.bind (fun a => ?_))))
    · refine Pf.bind (fun _ => Pf.ite (fun _ => ?_) (fun _ => Pf.ite (fun _ => Pf.ok (Int32.le_refl _)) (fun _ => Pf.bindP (readWorkP h) (fun a ha => ?_))))
      · refine Pf.bind (fun _ => Pf.ite (fun _ => ?_) (fun _ => Pf.bind (fun a => ?_)))
        · refine Pf.bind (fun _ => Pf.ite (fun _ => ?_) (fun _ => Pf.bind (fun a => ?_)))
          · refine Pf.bind (fun _ => Pf.ite (fun _ => Pf.ok (Int32.le_refl _)) (fun _ => Pf.bind (fun a => ?_)))
            dsimp only [u6]
            exact Pf.ite (fun _ => Pf.ok (Int32.le_refl _)) (fun _ => Pf.ok (Int32.le_refl _))
          · dsimp only [u7]
            exact Pf.bind (fun _ => Pf.ok (Int32.le_refl _))
        · dsimp only [u7]
          exact Pf.bind (fun _ => Pf.ok (Int32.le_refl _))
      · dsimp only [u8]
        exact Pf.ite (fun _ => Pf.ok ha) (fun _ => Pf.ok ha)
    · dsimp only [u8]
      exact Pf.ite (fun _ => Pf.ok (Int32.le_refl _)) (fun _ => Pf.ok (Int32.le_refl _))
  · dsimp only [u8]
    exact Pf.ite (fun _ => Pf.ok (Int32.le_refl _)) (fun _ => Pf.ok (Int32.le_refl _))
theorem readIntoP {n : Nat} {x0_bytes : (Nat → Int32)} {x0_size : Int32} {x0_start : Int32} {x0_end : Int32} {x0_token : Int32} {x0_value : Int32} {x1_lineCount : Int32} {x1_goodsCount : Int32} {x1_workCount : Int32} {x1_years : Int32} {x1_lines : (Nat → Int32)} {x1_goods : (Nat → Int32)} {x1_works : (Nat → Int32)} {x1_change : (Nat → Int32)} {x1_coin : (Nat → Int32)} {x1_knownFree : (Nat → Int32)} {x1_isKnown : Int32} (h : 0 ≤ x1_workCount) : Pf (fX3_readInto n (x0_bytes, x0_size, x0_start, x0_end, x0_token, x0_value) (x1_lineCount, x1_goodsCount, x1_workCount, x1_years, x1_lines, x1_goods, x1_works, x1_change, x1_coin, x1_knownFree, x1_isKnown)) (fun r => x1_workCount ≤ r.2.2.2.2.2.2.2.1) := by
  unfold fX3_readInto
  dsimp only [u6, u11]
  refine Pf.bind (fun a => ?_)
  dsimp only [u4]
  refine Pf.bindP (P := fun r => Sum.elim (fun w => x1_workCount ≤ w.2.2.2.2.2.2.1) (Sum.elim (fun w => x1_workCount ≤ w.2.2.2.2.2.2.2.1) (Sum.elim (fun w => x1_workCount ≤ w.2.2.2.2.2.2.1) (fun w => x1_workCount ≤ w.2.2.2.2.2.2.1))) r) ?_ (fun r hr => ?_)
  · refine Pf.loop (fun z => x1_workCount ≤ z.2.2.2.2.2.2.2.1) (fun z hz => ?_) _ _ (Int32.le_refl _)
    unfold fX3_readInto_s11
    dsimp only [u15]
    refine Pf.ite (fun _ => Pf.ok hz) (fun _ => Pf.bindP (readStP (Int32.le_trans h hz)) (fun a ha => ?_))
    have ha := Int32.le_trans hz ha
    dsimp only [u6, u10]
    refine Pf.ite (fun _ => Pf.ok ha) (fun _ => Pf.ite (fun _ => Pf.ok ha) (fun _ => Pf.ite (fun _ => Pf.bind (fun b => ?_)) (fun _ => Pf.ok ha)))
    dsimp only [u4]
    exact Pf.ok ha
  · rcases r with w | w | w | w
    · exact Pf.ok hr
    · exact Pf.ok hr
    · exact Pf.ok hr
    · exact Pf.ok hr
theorem landP {n : Nat} {x0_refused : (Nat → Int32)} {x0_isKept : Int32} {x0_gone : Int32} {x0_spent : Int32} {x1_gained : Nat → Int32} {x2_lineCount : Int32} {x2_goodsCount : Int32} {x2_workCount : Int32} {x2_years : Int32} {x2_lines : (Nat → Int32)} {x2_goods : (Nat → Int32)} {x2_works : (Nat → Int32)} {x2_change : (Nat → Int32)} {x2_coin : (Nat → Int32)} {x2_knownFree : (Nat → Int32)} {x2_isKnown : Int32} {x3_lineCount : Int32} {x3_goodsCount : Int32} {x3_workCount : Int32} {x3_years : Int32} {x3_lines : (Nat → Int32)} {x3_goods : (Nat → Int32)} {x3_works : (Nat → Int32)} {x3_change : (Nat → Int32)} {x3_coin : (Nat → Int32)} {x3_knownFree : (Nat → Int32)} {x3_isKnown : Int32} {x4_bytes : (Nat → Int32)} {x4_size : Int32} {x4_start : Int32} {x4_end : Int32} {x4_token : Int32} {x4_value : Int32} (h : 0 ≤ x3_workCount) : Pf (fX6_land n (x0_refused, x0_isKept, x0_gone, x0_spent) x1_gained (x2_lineCount, x2_goodsCount, x2_workCount, x2_years, x2_lines, x2_goods, x2_works, x2_change, x2_coin, x2_knownFree, x2_isKnown) (x3_lineCount, x3_goodsCount, x3_workCount, x3_years, x3_lines, x3_goods, x3_works, x3_change, x3_coin, x3_knownFree, x3_isKnown) (x4_bytes, x4_size, x4_start, x4_end, x4_token, x4_value)) (fun r => x3_workCount ≤ r.2.2.2.1.2.2.1) := by
  unfold fX6_land
  dsimp only [u4, u11, u6]
  refine Pf.bindP takeP (fun G1 h1 => ?_)
  dsimp only [u10]
  refine Pf.bindP (readIntoP (by rw [h1]; exact h)) (fun r hr => ?_)
  rw [h1] at hr
  dsimp only [u6, u10]
  refine Pf.ite (fun _ => Pf.bindP takeP (fun G h2 => ?_)) (fun _ => Pf.bind (fun b => ?_))
  · try dsimp only [u10]
    refine Pf.ok ?_
    show x3_workCount ≤ G.2.2.1
    rw [h2]
    exact hr
  · dsimp only [u2]
    exact Pf.ok (Int32.le_refl _)
theorem workP {m_shelf : (Nat → Int32)} {m_rowSort : (Nat → Int32)} {m_rowSize : (Nat → Int32)} {m_rows : (Nat → Nat → Int64)} {m_moved : (Nat → Int64)} {m_shown : (Nat → Int32)} {m_tape : (Nat → Int32)} {m_tapeSize : Int32} {m_refused : (Nat → Int32)} {m_lines : Int32} {m_line : (Nat → Nat → Int32)} {m_changes : (Nat → Int32)} {m_coins : (Nat → Int32)} {m_goods : Int32} {m_good : (Nat → Nat → Int32)} {m_works : Int32} {m_work : (Nat → Nat → Int32)} {m_years : Int32} {m_gone : Int32} {m_spent : Int32} {m_at : Int32} {m_token : Int32} {m_from : Int32} {m_figures : Int64} {m_fault : Int32} {m_numbers : (Nat → Int32)} {m_statements : Int32} {m_left : (Nat → Int32)} {m_far : (Nat → Int32)} {m_tons : Int32} {m_way : (Nat → Int32)} {m_steps : Int32} {m_met : Int64} {m_queue : (Nat → Int32)} {m_totals : (Nat → Int32)} {p1 p2 p3 p4 : Int32} (h0 : 0 ≤ m_works) (h7 : m_works ≤ 7) : Pf (fX7_work (m_shelf, m_rowSort, m_rowSize, m_rows, m_moved, m_shown, m_tape, m_tapeSize, m_refused, m_lines, m_line, m_changes, m_coins, m_goods, m_good, m_works, m_work, m_years, m_gone, m_spent, m_at, m_token, m_from, m_figures, m_fault, m_numbers, m_statements, m_left, m_far, m_tons, m_way, m_steps, m_met, m_queue, m_totals) p1 p2 p3 p4) (fun r => m_works ≤ r.2.2.1) := by
  have rf : ∀ c : Int32, Pf ((fX7_refuse (m_shelf, m_rowSort, m_rowSize, m_rows, m_moved, m_shown, m_tape, m_tapeSize, m_refused, m_lines, m_line, m_changes, m_coins, m_goods, m_good, m_works, m_work, m_years, m_gone, m_spent, m_at, m_token, m_from, m_figures, m_fault, m_numbers, m_statements, m_left, m_far, m_tons, m_way, m_steps, m_met, m_queue, m_totals) c).bind (u2 fun v g => some (v, g, m_works, m_work))) (fun r => m_works ≤ r.2.2.1) := by
    intro c
    refine Pf.bind (fun a => ?_)
    dsimp only [u2]
    exact Pf.ok (Int32.le_refl _)
  unfold fX7_work
  dsimp only [u35]
  refine Pf.bind (fun _ => Pf.ite (fun _ => rf _) (fun _ => Pf.bind (fun _ => Pf.ite (fun _ => rf _) (fun _ => Pf.bind (fun _ => Pf.ite (fun _ => rf _) (fun _ => Pf.bind (fun _ => Pf.ite (fun _ => rf _) (fun _ => Pf.ite (fun _ => rf _) (fun h => ?_)))))))))
  refine Pf.bind (fun _ => Pf.bind (fun _ => Pf.bind (fun _ => Pf.bind (fun _ => Pf.bind (fun _ => Pf.bind (fun _ => Pf.ok ?_))))))
  exact inc7 h0 (by grind)
/-- a WORK shown is one of the land's -/
def ShW (sh sn : Nat → Int32) (w : Int32) : Prop := ∀ s, s < 8 → sh s = 2 → sn s < w
theorem ShW.mono {sh sn : Nat → Int32} {w w' : Int32} (h : ShW sh sn w) (e : w ≤ w') : ShW sh sn w' := fun s hs h2 => Int32.lt_of_lt_of_le (h s hs h2) e
theorem wRow {n : Nat} {m_shelf : (Nat → Int32)} {m_rowSort : (Nat → Int32)} {m_rowSize : (Nat → Int32)} {m_rows : (Nat → Nat → Int64)} {m_moved : (Nat → Int64)} {m_shown : (Nat → Int32)} {m_tape : (Nat → Int32)} {m_tapeSize : Int32} {m_refused : (Nat → Int32)} {m_lines : Int32} {m_line : (Nat → Nat → Int32)} {m_changes : (Nat → Int32)} {m_coins : (Nat → Int32)} {m_goods : Int32} {m_good : (Nat → Nat → Int32)} {m_works : Int32} {m_work : (Nat → Nat → Int32)} {m_years : Int32} {m_gone : Int32} {m_spent : Int32} {m_at : Int32} {m_token : Int32} {m_from : Int32} {m_figures : Int64} {m_fault : Int32} {m_numbers : (Nat → Int32)} {m_statements : Int32} {m_left : (Nat → Int32)} {m_far : (Nat → Int32)} {m_tons : Int32} {m_way : (Nat → Int32)} {m_steps : Int32} {m_met : Int64} {m_queue : (Nat → Int32)} {m_totals : (Nat → Int32)} {p1 p2 p3 fr : Int32} {f0 f1 f2 f4 : Nat → Int32} {f3 : Nat → Nat → Int64} (hn : 1000000000000 ≤ n) (h_m_shelf : (AI 0 2 m_shelf)) (h_m_rowSize : (AI 0 40 m_rowSize)) (h_m_tapeSize : (0 ≤ m_tapeSize ∧ m_tapeSize ≤ 250)) (h_m_lines : (0 ≤ m_lines ∧ m_lines ≤ 20)) (h_m_line : (LnM m_line)) (h_m_changes : (AI 0 99 m_changes)) (h_m_coins : (AI 0 9 m_coins)) (h_m_goods : (0 ≤ m_goods ∧ m_goods ≤ 8)) (h_m_good : (GdM m_good)) (h_m_works : (0 ≤ m_works ∧ m_works ≤ 7)) (h_m_work : (WkM m_work)) (h_m_years : (1 ≤ m_years ∧ m_years ≤ 30)) (h_m_from : (0 ≤ m_from ∧ m_from ≤ 250)) (h_m_far : (AI 0 1000000000 m_far)) (h_m_way : (AI 0 22 m_way)) (h_m_steps : (0 ≤ m_steps ∧ m_steps ≤ 37)) (h_m_queue : (AI 0 35 m_queue)) (hSw : ShW m_shelf m_shown m_works) (eqB : fX7_row n (m_shelf, m_rowSort, m_rowSize, m_rows, m_moved, m_shown, m_tape, m_tapeSize, m_refused, m_lines, m_line, m_changes, m_coins, m_goods, m_good, m_works, m_work, m_years, m_gone, m_spent, m_at, m_token, m_from, m_figures, m_fault, m_numbers, m_statements, m_left, m_far, m_tons, m_way, m_steps, m_met, m_queue, m_totals) p1 p2 p3 = some (fr, (f0, f1, f2, f3, f4))) : ShW f0 m_shown m_works := by
  have b := (rowR hn h_m_shelf h_m_rowSize h_m_tapeSize h_m_lines h_m_line h_m_changes h_m_coins h_m_goods h_m_good h_m_works h_m_work h_m_years h_m_from h_m_far h_m_way h_m_steps h_m_queue).at eqB
  rcases b with ⟨_, b1, _⟩ | ⟨_, _, b1, _⟩
  · have b1 : f0 = _ := b1
    intro s hs h2
    rw [b1] at h2
    by_cases e : s = p1.toNatClampNeg
    · rw [e, va_eq] at h2
      exact absurd h2 (by decide)
    · rw [va_ne _ _ e] at h2
      exact hSw s hs h2
  · have b1 : f0 = _ := b1
    rw [b1]
    exact hSw
theorem wShow {m_shelf : (Nat → Int32)} {m_rowSort : (Nat → Int32)} {m_rowSize : (Nat → Int32)} {m_rows : (Nat → Nat → Int64)} {m_moved : (Nat → Int64)} {m_shown : (Nat → Int32)} {m_tape : (Nat → Int32)} {m_tapeSize : Int32} {m_refused : (Nat → Int32)} {m_lines : Int32} {m_line : (Nat → Nat → Int32)} {m_changes : (Nat → Int32)} {m_coins : (Nat → Int32)} {m_goods : Int32} {m_good : (Nat → Nat → Int32)} {m_works : Int32} {m_work : (Nat → Nat → Int32)} {m_years : Int32} {m_gone : Int32} {m_spent : Int32} {m_at : Int32} {m_token : Int32} {m_from : Int32} {m_figures : Int64} {m_fault : Int32} {m_numbers : (Nat → Int32)} {m_statements : Int32} {m_left : (Nat → Int32)} {m_far : (Nat → Int32)} {m_tons : Int32} {m_way : (Nat → Int32)} {m_steps : Int32} {m_met : Int64} {m_queue : (Nat → Int32)} {m_totals : (Nat → Int32)} {p1 p2 fr : Int32} {f0 f1 f2 : Nat → Int32} (h_m_shelf : (AI 0 2 m_shelf)) (h_m_rowSize : (AI 0 40 m_rowSize)) (h_m_tapeSize : (0 ≤ m_tapeSize ∧ m_tapeSize ≤ 250)) (h_m_lines : (0 ≤ m_lines ∧ m_lines ≤ 20)) (h_m_line : (LnM m_line)) (h_m_changes : (AI 0 99 m_changes)) (h_m_coins : (AI 0 9 m_coins)) (h_m_goods : (0 ≤ m_goods ∧ m_goods ≤ 8)) (h_m_good : (GdM m_good)) (h_m_works : (0 ≤ m_works ∧ m_works ≤ 7)) (h_m_work : (WkM m_work)) (h_m_years : (1 ≤ m_years ∧ m_years ≤ 30)) (h_m_from : (0 ≤ m_from ∧ m_from ≤ 250)) (h_m_far : (AI 0 1000000000 m_far)) (h_m_way : (AI 0 22 m_way)) (h_m_steps : (0 ≤ m_steps ∧ m_steps ≤ 37)) (h_m_queue : (AI 0 35 m_queue)) (hSw : ShW m_shelf m_shown m_works) (eqB : fX7_show (m_shelf, m_rowSort, m_rowSize, m_rows, m_moved, m_shown, m_tape, m_tapeSize, m_refused, m_lines, m_line, m_changes, m_coins, m_goods, m_good, m_works, m_work, m_years, m_gone, m_spent, m_at, m_token, m_from, m_figures, m_fault, m_numbers, m_statements, m_left, m_far, m_tons, m_way, m_steps, m_met, m_queue, m_totals) p1 p2 = some (fr, f0, f1, f2)) : ShW f0 f1 m_works := by
  have b := (showR h_m_shelf h_m_rowSize h_m_tapeSize h_m_lines h_m_line h_m_changes h_m_coins h_m_goods h_m_good h_m_works h_m_work h_m_years h_m_from h_m_far h_m_way h_m_steps h_m_queue).at eqB
  rcases b with ⟨hV, _, b1, b2⟩ | ⟨_, _, b1, b2⟩
  · have b1 : f0 = _ := b1
    have b2 : f1 = _ := b2
    intro s hs h2
    rw [b1] at h2
    rw [b2]
    by_cases e : s = p1.toNatClampNeg
    · rw [e, va_eq] at h2
      rw [e, va_eq]
      by_cases hm : p2 = -1
      · rw [if_pos hm] at h2
        exact absurd h2 (by decide)
      · rcases hV.2 with h | h
        · exact absurd h hm
        · exact h.2
    · rw [va_ne _ _ e] at h2
      rw [va_ne _ _ e]
      exact hSw s hs h2
  · have b1 : f0 = _ := b1
    have b2 : f1 = _ := b2
    rw [b1, b2]
    exact hSw
theorem wBack {n : Nat} {m_shelf : (Nat → Int32)} {m_rowSort : (Nat → Int32)} {m_rowSize : (Nat → Int32)} {m_rows : (Nat → Nat → Int64)} {m_moved : (Nat → Int64)} {m_shown : (Nat → Int32)} {m_tape : (Nat → Int32)} {m_tapeSize : Int32} {m_refused : (Nat → Int32)} {m_lines : Int32} {m_line : (Nat → Nat → Int32)} {m_changes : (Nat → Int32)} {m_coins : (Nat → Int32)} {m_goods : Int32} {m_good : (Nat → Nat → Int32)} {m_works : Int32} {m_work : (Nat → Nat → Int32)} {m_years : Int32} {m_gone : Int32} {m_spent : Int32} {m_at : Int32} {m_token : Int32} {m_from : Int32} {m_figures : Int64} {m_fault : Int32} {m_numbers : (Nat → Int32)} {m_statements : Int32} {m_left : (Nat → Int32)} {m_far : (Nat → Int32)} {m_tons : Int32} {m_way : (Nat → Int32)} {m_steps : Int32} {m_met : Int64} {m_queue : (Nat → Int32)} {m_totals : (Nat → Int32)} {k_shelf : (Nat → Int32)} {k_rowSort : (Nat → Int32)} {k_rowSize : (Nat → Int32)} {k_rows : (Nat → Nat → Int64)} {k_moved : (Nat → Int64)} {k_shown : (Nat → Int32)} {k_tape : (Nat → Int32)} {k_tapeSize : Int32} {k_refused : (Nat → Int32)} {k_lines : Int32} {k_line : (Nat → Nat → Int32)} {k_changes : (Nat → Int32)} {k_coins : (Nat → Int32)} {k_goods : Int32} {k_good : (Nat → Nat → Int32)} {k_works : Int32} {k_work : (Nat → Nat → Int32)} {k_years : Int32} {k_gone : Int32} {k_spent : Int32} {k_at : Int32} {k_token : Int32} {k_from : Int32} {k_figures : Int64} {k_fault : Int32} {k_numbers : (Nat → Int32)} {k_statements : Int32} {k_left : (Nat → Int32)} {k_far : (Nat → Int32)} {k_tons : Int32} {k_way : (Nat → Int32)} {k_steps : Int32} {k_met : Int64} {k_queue : (Nat → Int32)} {k_totals : (Nat → Int32)} {fr f2 f6 f8 f10 f11 f12 : Int32} {f0 f1 f4 f5 : Nat → Int32} {f3 f7 f9 : Nat → Nat → Int32} (hn : 1000000000000 ≤ n) (eqB : fX7_back n (m_shelf, m_rowSort, m_rowSize, m_rows, m_moved, m_shown, m_tape, m_tapeSize, m_refused, m_lines, m_line, m_changes, m_coins, m_goods, m_good, m_works, m_work, m_years, m_gone, m_spent, m_at, m_token, m_from, m_figures, m_fault, m_numbers, m_statements, m_left, m_far, m_tons, m_way, m_steps, m_met, m_queue, m_totals) (k_shelf, k_rowSort, k_rowSize, k_rows, k_moved, k_shown, k_tape, k_tapeSize, k_refused, k_lines, k_line, k_changes, k_coins, k_goods, k_good, k_works, k_work, k_years, k_gone, k_spent, k_at, k_token, k_from, k_figures, k_fault, k_numbers, k_statements, k_left, k_far, k_tons, k_way, k_steps, k_met, k_queue, k_totals) = some (fr, (f0, f1, f2, f3, f4, f5, f6, f7, f8, f9, f10, f11, f12))) : ShW f0 m_shown f8 := by
  have b : Sf (fX7_back n (m_shelf, m_rowSort, m_rowSize, m_rows, m_moved, m_shown, m_tape, m_tapeSize, m_refused, m_lines, m_line, m_changes, m_coins, m_goods, m_good, m_works, m_work, m_years, m_gone, m_spent, m_at, m_token, m_from, m_figures, m_fault, m_numbers, m_statements, m_left, m_far, m_tons, m_way, m_steps, m_met, m_queue, m_totals) (k_shelf, k_rowSort, k_rowSize, k_rows, k_moved, k_shown, k_tape, k_tapeSize, k_refused, k_lines, k_line, k_changes, k_coins, k_goods, k_good, k_works, k_work, k_years, k_gone, k_spent, k_at, k_token, k_from, k_figures, k_fault, k_numbers, k_statements, k_left, k_far, k_tons, k_way, k_steps, k_met, k_queue, k_totals)) (fun r => ShW r.2.1 m_shown r.2.2.2.2.2.2.2.2.2.1) := by
    unfold fX7_back
    dsimp only [u35]
    refine Sf.bind (takeFromR hn) ?_
    rintro ⟨g2, g3, g4, g5, g6, g7, g8, g9, g10, g11, g12⟩ _
    try dsimp only [u11]
    refine Sf.bind (drop7 hn) (fun w18 h18 => Sf.ok (show ShW w18 m_shown g8 from fun s hs h2 => ?_))
    rw [h18 s hs] at h2
    by_cases h : m_shelf s = 2 ∧ g8 ≤ m_shown s
    · rw [if_pos h] at h2
      exact absurd h2 (by decide)
    · rw [if_neg h] at h2
      exact Int32.not_le.mp (fun hl => h ⟨h2, hl⟩)
  exact b.at eqB
/-- says -/
abbrev syV (k : Nat → Int32) (q : Int32) : Int32 := if q = 0 then k 3 else if 4 ≤ q then 100 * k 1 + k 2 else k 1
def syA (p q sh : Int32) (k : Nat → Int32) : Int32 := if (0 ≤ p ∧ p ≤ 7) ∧ (0 ≤ q ∧ q ≤ 5) then (if sh = 1 then -3 else if sh = 0 then -4 else if Und (k 0) q then syV k q else -3) else -2
theorem isUnderR {p q : Int32} : Sf (fX7_isUnder p q) (fun r => (r = 1 ∧ Und p q) ∨ (r = 0 ∧ ¬ Und p q)) := by
  unfold fX7_isUnder
  refine Sf.ite (fun h => Sf.ok (Or.inl ⟨rfl, Or.inl h⟩)) (fun h0 => ?_)
  refine Sf.ite (fun h => Sf.ok (Or.inl ⟨rfl, Or.inr (Or.inl h)⟩)) (fun he => ?_)
  have j : ¬ (q = 1 ∧ p = 2) → Sf (fX7_isUnder_j19 p q) (fun r => (r = 1 ∧ Und p q) ∨ (r = 0 ∧ ¬ Und p q)) := by
    intro hn
    have no : ¬ (q = 4 ∧ p = 5) → ¬ Und p q := by
      intro h4 h
      rcases h with h | h | h | h
      · exact h0 h
      · exact he h
      · exact hn h
      · exact h4 h
    unfold fX7_isUnder_j19
    exact Sf.ite (fun h4 => Sf.ite (fun h5 => Sf.ok (Or.inl ⟨rfl, Or.inr (Or.inr (Or.inr ⟨h4, h5⟩))⟩)) (fun h5 => Sf.ok (Or.inr ⟨rfl, no (fun h => h5 h.2)⟩))) (fun h4 => Sf.ok (Or.inr ⟨rfl, no (fun h => h4 h.1)⟩))
  exact Sf.ite (fun h1 => Sf.ite (fun h2 => Sf.ok (Or.inl ⟨rfl, Or.inr (Or.inr (Or.inl ⟨h1, h2⟩))⟩)) (fun h2 => j (fun h => h2 h.2))) (fun h1 => j (fun h => h1 h.1))
theorem saysR {x0_shelf : (Nat → Int32)} {x0_rowSort : (Nat → Int32)} {x0_rowSize : (Nat → Int32)} {x0_rows : (Nat → Nat → Int64)} {x0_moved : (Nat → Int64)} {x0_shown : (Nat → Int32)} {x0_tape : (Nat → Int32)} {x0_tapeSize : Int32} {x0_refused : (Nat → Int32)} {x0_lines : Int32} {x0_line : (Nat → Nat → Int32)} {x0_changes : (Nat → Int32)} {x0_coins : (Nat → Int32)} {x0_goods : Int32} {x0_good : (Nat → Nat → Int32)} {x0_works : Int32} {x0_work : (Nat → Nat → Int32)} {x0_years : Int32} {x0_gone : Int32} {x0_spent : Int32} {x0_at : Int32} {x0_token : Int32} {x0_from : Int32} {x0_figures : Int64} {x0_fault : Int32} {x0_numbers : (Nat → Int32)} {x0_statements : Int32} {x0_left : (Nat → Int32)} {x0_far : (Nat → Int32)} {x0_tons : Int32} {x0_way : (Nat → Int32)} {x0_steps : Int32} {x0_met : Int64} {x0_queue : (Nat → Int32)} {x0_totals : (Nat → Int32)} {p1 p2 : Int32} (h_x0_shelf : (AI 0 2 x0_shelf)) (h_x0_rowSize : (AI 0 40 x0_rowSize)) (h_x0_tapeSize : (0 ≤ x0_tapeSize ∧ x0_tapeSize ≤ 250)) (h_x0_lines : (0 ≤ x0_lines ∧ x0_lines ≤ 20)) (h_x0_line : (LnM x0_line)) (h_x0_changes : (AI 0 99 x0_changes)) (h_x0_coins : (AI 0 9 x0_coins)) (h_x0_goods : (0 ≤ x0_goods ∧ x0_goods ≤ 8)) (h_x0_good : (GdM x0_good)) (h_x0_works : (0 ≤ x0_works ∧ x0_works ≤ 7)) (h_x0_work : (WkM x0_work)) (h_x0_years : (1 ≤ x0_years ∧ x0_years ≤ 30)) (h_x0_from : (0 ≤ x0_from ∧ x0_from ≤ 250)) (h_x0_far : (AI 0 1000000000 x0_far)) (h_x0_way : (AI 0 22 x0_way)) (h_x0_steps : (0 ≤ x0_steps ∧ x0_steps ≤ 37)) (h_x0_queue : (AI 0 35 x0_queue)) (hS : ∀ k : Nat, x0_shelf k = 2 → 0 ≤ x0_shown k ∧ x0_shown k ≤ 6) : Sf (fX7_says (x0_shelf, x0_rowSort, x0_rowSize, x0_rows, x0_moved, x0_shown, x0_tape, x0_tapeSize, x0_refused, x0_lines, x0_line, x0_changes, x0_coins, x0_goods, x0_good, x0_works, x0_work, x0_years, x0_gone, x0_spent, x0_at, x0_token, x0_from, x0_figures, x0_fault, x0_numbers, x0_statements, x0_left, x0_far, x0_tons, x0_way, x0_steps, x0_met, x0_queue, x0_totals) p1 p2) (fun r => r.1 = syA p1 p2 (x0_shelf p1.toNatClampNeg) (x0_work (x0_shown p1.toNatClampNeg).toNatClampNeg)) := by
  generalize hA : syA p1 p2 (x0_shelf p1.toNatClampNeg) (x0_work (x0_shown p1.toNatClampNeg).toNatClampNeg) = A
  have ref : ∀ c : Int32, (-6 ≤ c ∧ c ≤ -2) → c = A → Sf ((fX7_refuse (x0_shelf, x0_rowSort, x0_rowSize, x0_rows, x0_moved, x0_shown, x0_tape, x0_tapeSize, x0_refused, x0_lines, x0_line, x0_changes, x0_coins, x0_goods, x0_good, x0_works, x0_work, x0_years, x0_gone, x0_spent, x0_at, x0_token, x0_from, x0_figures, x0_fault, x0_numbers, x0_statements, x0_left, x0_far, x0_tons, x0_way, x0_steps, x0_met, x0_queue, x0_totals) c).bind (u2 fun v g => some (v, g))) (fun r => r.1 = A) := by
    intro c hc e
    refine Sf.bind (sX7_refuse h_x0_shelf h_x0_rowSize h_x0_tapeSize h_x0_lines h_x0_line h_x0_changes h_x0_coins h_x0_goods h_x0_good h_x0_works h_x0_work h_x0_years h_x0_from h_x0_far h_x0_way h_x0_steps h_x0_queue hc) ?_
    rintro ⟨v, g⟩ e2
    exact Sf.ok (Eq.trans (show v = c from e2) e)
  unfold fX7_says
  dsimp only [u35]
  refine Sf.bind (s_inq p1 0 7 (by decide) (by decide)) (fun v1 h1 => Sf.ite (fun hz => ref _ (by decide) (by rw [← hA]; unfold syA; rw [if_neg (fun h => gd0 h1 hz h.1)])) (fun hz => ?_))
  have c1 := gd1 h1 hz
  refine Sf.bind (s_inq p2 0 5 (by decide) (by decide)) (fun v6 h6 => Sf.ite (fun hz => ref _ (by decide) (by rw [← hA]; unfold syA; rw [if_neg (fun h => gd0 h6 hz h.2)])) (fun hz => ?_))
  have c2 := gd1 h6 hz
  have hi8 : 0 ≤ p1 ∧ p1 < 8 := ⟨c1.1, Int32.lt_of_le_of_lt c1.2 (by decide)⟩
  unfold syA at hA
  rw [if_pos ⟨c1, c2⟩] at hA
  refine Sf.rdb 8 rfl hi8 (fun v8 e8 => ?_)
  rw [e8]
  refine Sf.ite (fun hs => ref _ (by decide) (by rw [← hA, if_pos hs])) (fun hs1 => ?_)
  rw [if_neg hs1] at hA
  refine Sf.rdb 8 rfl hi8 (fun v12 e12 => ?_)
  rw [e12]
  refine Sf.ite (fun hs => ?_) (fun hs2 => ?_)
  · have hs0 : ¬ x0_shelf p1.toNatClampNeg = 0 := by rw [hs]; decide
    rw [if_neg hs0] at hA
    have hq := hS _ hs
    have hq7 : 0 ≤ x0_shown p1.toNatClampNeg ∧ x0_shown p1.toNatClampNeg < 7 := ⟨hq.1, Int32.lt_of_le_of_lt hq.2 (by decide)⟩
    refine Sf.rdb 8 rfl hi8 (fun v23 e23 => ?_)
    rw [e23]
    refine Sf.ckb 7 rfl hq7 (fun q24 e24 _ => ?_)
    rw [e24]
    refine Sf.rdb 5 rfl (by decide) (fun v25 e25 => ?_)
    have e25 : v25 = x0_work (x0_shown p1.toNatClampNeg).toNatClampNeg 0 := e25
    rw [e25]
    refine Sf.bind isUnderR (fun v26 h26 => ?_)
    refine Sf.ite (fun hz => ref _ (by decide) ?_) (fun hz => ?_)
    · rcases h26 with h | h
      · exact absurd (h.1.symm.trans hz) (by decide)
      · rw [← hA, if_neg h.2]
    rcases h26 with h | h
    · rw [if_pos h.2] at hA
      unfold fX7_says_j78
      refine Sf.rdb 8 rfl hi8 (fun v13 e13 => ?_)
      rw [e13, if_neg hs0]
      refine Sf.rdb 8 rfl hi8 (fun v14 e14 => ?_)
      rw [e14]
      refine Sf.ckb 7 rfl hq7 (fun q15 e15 _ => ?_)
      rw [e15]
      unfold syV at hA
      refine Sf.ite (fun h0 => ?_) (fun h0 => Sf.ite (fun h4 => ?_) (fun h4 => ?_))
      · rw [if_pos h0] at hA
        refine Sf.rdb 5 rfl (by decide) (fun v19 e19 => Sf.ok ?_)
        rw [← hA]
        exact e19
      · rw [if_neg h0, if_pos h4] at hA
        refine Sf.rdb 5 rfl (by decide) (fun v16 e16 => ?_)
        refine Sf.rdb 5 rfl (by decide) (fun v17 e17 => Sf.ok ?_)
        have e16 : v16 = x0_work (x0_shown p1.toNatClampNeg).toNatClampNeg 1 := e16
        have e17 : v17 = x0_work (x0_shown p1.toNatClampNeg).toNatClampNeg 2 := e17
        rw [← hA, e16, e17]
      · rw [if_neg h0, if_neg h4] at hA
        refine Sf.rdb 5 rfl (by decide) (fun v18 e18 => Sf.ok ?_)
        rw [← hA]
        exact e18
    · exact absurd h.1 hz
  · have hs0 : x0_shelf p1.toNatClampNeg = 0 := by
      rcases sh_rng h_x0_shelf p1.toNatClampNeg with h | h | h
      · exact h
      · exact absurd h hs1
      · exact absurd h hs2
    unfold fX7_says_j78
    refine Sf.rdb 8 rfl hi8 (fun v13 e13 => ?_)
    rw [e13, if_pos hs0]
    exact ref _ (by decide) (by rw [← hA, if_pos hs0])
theorem saysC {n : Nat} {x0_refused : (Nat → Int32)} {x0_isKept : Int32} {x0_gone : Int32} {x0_spent : Int32} {x1_elements : (Nat → Nat → Int64)} {x1_held : (Nat → Int32)} {x1_sizes : (Nat → Int32)} {x2_lineCount : Int32} {x2_goodsCount : Int32} {x2_workCount : Int32} {x2_years : Int32} {x2_lines : (Nat → Int32)} {x2_goods : (Nat → Int32)} {x2_works : (Nat → Int32)} {x2_change : (Nat → Int32)} {x2_coin : (Nat → Int32)} {x2_knownFree : (Nat → Int32)} {x2_isKnown : Int32} {m_shelf m_rowSort m_rowSize m_shown : Nat → Int32} {m_rows : Nat → Nat → Int64} {p1 p2 : Int32} (hn : 1000000000000 ≤ n) (h_x2_lineCount : (0 ≤ x2_lineCount ∧ x2_lineCount ≤ 20)) (h_x2_goodsCount : (0 ≤ x2_goodsCount ∧ x2_goodsCount ≤ 8)) (h_x2_workCount : (0 ≤ x2_workCount ∧ x2_workCount ≤ 7)) (h_x2_years : (1 ≤ x2_years ∧ x2_years ≤ 30)) (h_x2_lines : (LnOk x2_lines)) (h_x2_goods : (GdOk x2_goods)) (h_x2_works : (WkOk x2_works)) (h_x2_change : (AI 0 99 x2_change)) (h_x2_coin : (AI 0 9 x2_coin)) (hr : AI 0 2 m_shelf) (hSh : ShA x1_elements x1_held x1_sizes m_shelf m_rowSort m_rowSize m_rows m_shown) (hSw : ShW m_shelf m_shown x2_workCount) (hW : ∀ k, k < x2_workCount.toNatClampNeg → Wf1 (ro 5 x2_works) x2_lineCount k) : Sf (fX6_says n (x0_refused, x0_isKept, x0_gone, x0_spent) (x1_elements, x1_held, x1_sizes) (x2_lineCount, x2_goodsCount, x2_workCount, x2_years, x2_lines, x2_goods, x2_works, x2_change, x2_coin, x2_knownFree, x2_isKnown) p1 p2) (fun r => r.1 = syA p1 p2 (m_shelf p1.toNatClampNeg) (ro 5 x2_works (m_shown p1.toNatClampNeg).toNatClampNeg)) := by
  generalize hA : syA p1 p2 (m_shelf p1.toNatClampNeg) (ro 5 x2_works (m_shown p1.toNatClampNeg).toNatClampNeg) = A
  have ref : ∀ c : Int32, c = A → Sf ((fX6_refuse (x0_refused, x0_isKept, x0_gone, x0_spent) c).bind (u2 fun v g => some (v, g))) (fun r => r.1 = A) := by
    intro c e
    refine Sf.bind refC ?_
    rintro ⟨v, g⟩ e2
    exact Sf.ok (Eq.trans (show v = c from e2) e)
  unfold fX6_says
  dsimp only [u4, u3, u11]
  refine Sf.bind sX2_has (fun v1 h1 => Sf.ite (fun hz => ref _ (by rw [← hA]; unfold syA; rw [if_neg (fun h => gd0 h1 hz h.1)])) (fun hz => ?_))
  have c1 := gd1 h1 hz
  refine Sf.bind sX6_within (fun v6 h6 => Sf.ite (fun hz => ref _ (by rw [← hA]; unfold syA; rw [if_neg (fun h => gd0 h6 hz h.2)])) (fun hz => ?_))
  have c2 := gd1 h6 hz
  unfold syA at hA
  rw [if_pos ⟨c1, c2⟩] at hA
  have hi8 : 0 ≤ p1 ∧ p1 < 8 := ⟨c1.1, Int32.lt_of_le_of_lt c1.2 (by decide)⟩
  have wk : Sf (fX2_workIn (x1_elements, x1_held, x1_sizes) p1) (fun r => r = if 10 ≤ x1_held p1.toNatClampNeg then x1_held p1.toNatClampNeg - 10 else -1) := by
    unfold fX2_workIn
    try dsimp only [u3]
    refine Sf.bind (hwS c1) (fun v1 h1 => ?_)
    refine Sf.ite (fun hv => Sf.ok ?_) (fun hv => ?_)
    · rw [if_neg (Int32.not_le.mpr (h1.mp hv))]
    · refine Sf.rdb 8 rfl hi8 (fun v3 e3 => Sf.ok ?_)
      rw [if_pos (Int32.not_lt.mp (fun h => hv (h1.mpr h))), e3]
  refine Sf.bind wk (fun v8 e8 => ?_)
  refine Sf.bind (hrS c1) (fun v10 h10 => ?_)
  have sh := hSh p1.toNatClampNeg (p8_of c1)
  refine Sf.ite (fun hz => ?_) (fun hz => ref _ ?_)
  · have hs1 : ¬ m_shelf p1.toNatClampNeg = 1 := fun h => h10.mp hz (sh.f.2.1.mpr h)
    rw [if_neg hs1] at hA
    rcases sh_rng hr p1.toNatClampNeg with h | h | h
    · rw [if_pos h] at hA
      have hd : x1_held p1.toNatClampNeg = -1 := sh.f.2.2.mpr h
      rw [hd, if_neg (by decide)] at e8
      subst e8
      refine Sf.bind hasWorkS (fun v15 h15 => ?_)
      refine Sf.ite (fun _ => ?_) (fun hx => ?_)
      · unfold fX6_says_j77
        refine Sf.bind hasWorkS (fun v17 h17 => ?_)
        refine Sf.ite (fun _ => ref _ hA) (fun hx => ?_)
        rcases h17 with h | h
        · exact absurd h.2.1 (by decide)
        · exact absurd h.1 hx
      · rcases h15 with h | h
        · exact absurd h.2.1 (by decide)
        · exact absurd h.1 hx
    · exact absurd h hs1
    · have hs0 : ¬ m_shelf p1.toNatClampNeg = 0 := by rw [h]; decide
      rw [if_neg hs0] at hA
      obtain ⟨d1, d2, d3⟩ : x1_held p1.toNatClampNeg = 10 + m_shown p1.toNatClampNeg ∧ 0 ≤ m_shown p1.toNatClampNeg ∧ m_shown p1.toNatClampNeg ≤ 6 := by
        rcases sh with ⟨a, _⟩ | ⟨a, _⟩ | ⟨_, a⟩
        · exact absurd a hs0
        · exact absurd a hs1
        · exact a
      have d4 := hSw _ (p8_of c1) h
      generalize m_shown p1.toNatClampNeg = w at hA d1 d2 d3 d4
      have e8 : v8 = w := by
        rw [e8, d1, if_pos (by clear hA hSw sh; grind), Int32.add_comm, Int32.add_sub_cancel]
      subst e8
      have hw : v8 ≤ x2_workCount - 1 := by
        have q := h_x2_workCount
        clear hA hSw sh
        grind
      have hb : v8.toNatClampNeg < x2_workCount.toNatClampNeg := by
        have x := i32_cl d2
        have y := i32_cl h_x2_workCount.1
        have z := Int32.lt_iff_toInt_lt.mp d4
        omega
      have hk := (hW _ hb).1
      refine Sf.bind hasWorkS (fun v15 h15 => ?_)
      refine Sf.ite (fun hx => ?_) (fun _ => ?_)
      · rcases h15 with h | h
        · exact absurd (h.1.symm.trans hx) (by decide)
        · rcases h.2 with h | h
          · exact absurd d2 (Int32.not_le.mpr h)
          · exact absurd hw (Int32.not_le.mpr h)
      refine Sf.bind (ofWorkV h_x2_works ⟨d2, d3⟩ (by decide)) (fun v34 e34 => ?_)
      have e34 : v34 = ro 5 x2_works v8.toNatClampNeg 0 := e34
      rw [e34]
      refine Sf.bind (isUnderC hn hk c2) (fun v36 h36 => ?_)
      refine Sf.ite (fun hx => ref _ ?_) (fun hx => ?_)
      · rcases h36 with h | h
        · exact absurd (h.1.symm.trans hx) (by decide)
        · rw [← hA, if_neg h.2]
      rcases h36 with h36 | h36
      · rw [if_pos h36.2] at hA
        unfold syV at hA
        unfold fX6_says_j77
        refine Sf.bind hasWorkS (fun v17 h17 => ?_)
        refine Sf.ite (fun hx => ?_) (fun _ => ?_)
        · rcases h17 with h | h
          · exact absurd (h.1.symm.trans hx) (by decide)
          · rcases h.2 with h | h
            · exact absurd d2 (Int32.not_le.mpr h)
            · exact absurd hw (Int32.not_le.mpr h)
        have two : 4 ≤ p2 → Sf ((fX1_ofWork (x2_lineCount, x2_goodsCount, x2_workCount, x2_years, x2_lines, x2_goods, x2_works, x2_change, x2_coin, x2_knownFree, x2_isKnown) v8 1).bind (fun a => (fX1_ofWork (x2_lineCount, x2_goodsCount, x2_workCount, x2_years, x2_lines, x2_goods, x2_works, x2_change, x2_coin, x2_knownFree, x2_isKnown) v8 2).bind (fun b => some (100 * a + b, x0_refused)))) (fun r => r.1 = A) := by
          intro h4
          rw [if_neg (fun h => by rw [h] at h4; exact absurd h4 (by decide)), if_pos h4] at hA
          refine Sf.bind (ofWorkV h_x2_works ⟨d2, d3⟩ (by decide)) (fun a ea => ?_)
          refine Sf.bind (ofWorkV h_x2_works ⟨d2, d3⟩ (by decide)) (fun b eb => Sf.ok ?_)
          have ea : a = ro 5 x2_works v8.toNatClampNeg 1 := ea
          have eb : b = ro 5 x2_works v8.toNatClampNeg 2 := eb
          rw [← hA, ea, eb]
        refine Sf.ite (fun h0 => ?_) (fun h0 => Sf.ite (fun h4 => two (by rw [h4]; decide)) (fun h4 => Sf.ite (fun h5 => two (by rw [h5]; decide)) (fun h5 => ?_)))
        · rw [if_pos h0] at hA
          refine Sf.bind (ofWorkV h_x2_works ⟨d2, d3⟩ (by decide)) (fun v19 e19 => Sf.ok ?_)
          rw [← hA]
          exact e19
        · rw [if_neg h0, if_neg (fun h => by clear hA hSw sh; grind)] at hA
          refine Sf.bind (ofWorkV h_x2_works ⟨d2, d3⟩ (by decide)) (fun v29 e29 => Sf.ok ?_)
          rw [← hA]
          exact e29
      · exact absurd h36.1 hx
  · have hs1 : m_shelf p1.toNatClampNeg = 1 := sh.f.2.1.mp (Classical.byContradiction fun h => hz (h10.mpr h))
    rw [← hA, if_pos hs1]
theorem syA_congr {p q sh : Int32} {k k' : Nat → Int32} (h : sh = 2 → ∀ c, c < 5 → k c = k' c) (hr : sh = 0 ∨ sh = 1 ∨ sh = 2) : syA p q sh k = syA p q sh k' := by
  unfold syA
  rcases hr with h0 | h0 | h0
  · rw [h0]; rfl
  · rw [h0]; rfl
  · unfold syV
    rw [h h0 0 (by decide), h h0 1 (by decide), h h0 2 (by decide), h h0 3 (by decide)]
theorem dSays {n : Nat} {x0_refused : (Nat → Int32)} {x0_isKept : Int32} {x0_gone : Int32} {x0_spent : Int32} {x1_elements : (Nat → Nat → Int64)} {x1_held : (Nat → Int32)} {x1_sizes : (Nat → Int32)} {x2_lineCount : Int32} {x2_goodsCount : Int32} {x2_workCount : Int32} {x2_years : Int32} {x2_lines : (Nat → Int32)} {x2_goods : (Nat → Int32)} {x2_works : (Nat → Int32)} {x2_change : (Nat → Int32)} {x2_coin : (Nat → Int32)} {x2_knownFree : (Nat → Int32)} {x2_isKnown : Int32} {m_shelf : (Nat → Int32)} {m_rowSort : (Nat → Int32)} {m_rowSize : (Nat → Int32)} {m_rows : (Nat → Nat → Int64)} {m_moved : (Nat → Int64)} {m_shown : (Nat → Int32)} {m_tape : (Nat → Int32)} {m_tapeSize : Int32} {m_refused : (Nat → Int32)} {m_lines : Int32} {m_line : (Nat → Nat → Int32)} {m_changes : (Nat → Int32)} {m_coins : (Nat → Int32)} {m_goods : Int32} {m_good : (Nat → Nat → Int32)} {m_works : Int32} {m_work : (Nat → Nat → Int32)} {m_years : Int32} {m_gone : Int32} {m_spent : Int32} {m_at : Int32} {m_token : Int32} {m_from : Int32} {m_figures : Int64} {m_fault : Int32} {m_numbers : (Nat → Int32)} {m_statements : Int32} {m_left : (Nat → Int32)} {m_far : (Nat → Int32)} {m_tons : Int32} {m_way : (Nat → Int32)} {m_steps : Int32} {m_met : Int64} {m_queue : (Nat → Int32)} {m_totals : (Nat → Int32)} {p1 p2 er fr : Int32} {e0 f0 : Nat → Int32} (hn : 1000000000000 ≤ n) (h_x2_lineCount : (0 ≤ x2_lineCount ∧ x2_lineCount ≤ 20)) (h_x2_goodsCount : (0 ≤ x2_goodsCount ∧ x2_goodsCount ≤ 8)) (h_x2_workCount : (0 ≤ x2_workCount ∧ x2_workCount ≤ 7)) (h_x2_years : (1 ≤ x2_years ∧ x2_years ≤ 30)) (h_x2_lines : (LnOk x2_lines)) (h_x2_goods : (GdOk x2_goods)) (h_x2_works : (WkOk x2_works)) (h_x2_change : (AI 0 99 x2_change)) (h_x2_coin : (AI 0 9 x2_coin)) (h_m_shelf : (AI 0 2 m_shelf)) (h_m_rowSize : (AI 0 40 m_rowSize)) (h_m_tapeSize : (0 ≤ m_tapeSize ∧ m_tapeSize ≤ 250)) (h_m_lines : (0 ≤ m_lines ∧ m_lines ≤ 20)) (h_m_line : (LnM m_line)) (h_m_changes : (AI 0 99 m_changes)) (h_m_coins : (AI 0 9 m_coins)) (h_m_goods : (0 ≤ m_goods ∧ m_goods ≤ 8)) (h_m_good : (GdM m_good)) (h_m_works : (0 ≤ m_works ∧ m_works ≤ 7)) (h_m_work : (WkM m_work)) (h_m_years : (1 ≤ m_years ∧ m_years ≤ 30)) (h_m_from : (0 ≤ m_from ∧ m_from ≤ 250)) (h_m_far : (AI 0 1000000000 m_far)) (h_m_way : (AI 0 22 m_way)) (h_m_steps : (0 ≤ m_steps ∧ m_steps ≤ 37)) (h_m_queue : (AI 0 35 m_queue)) (hS : ∀ k : Nat, m_shelf k = 2 → 0 ≤ m_shown k ∧ m_shown k ≤ 6) (hA : (LaD x2_lineCount x2_goodsCount x2_workCount x2_years x2_lines x2_goods x2_works x2_change x2_coin m_lines m_line m_changes m_coins m_goods m_good m_works m_work m_years)) (hSh : ShA x1_elements x1_held x1_sizes m_shelf m_rowSort m_rowSize m_rows m_shown) (hSw : ShW m_shelf m_shown m_works) (eqA : fX6_says n (x0_refused, x0_isKept, x0_gone, x0_spent) (x1_elements, x1_held, x1_sizes) (x2_lineCount, x2_goodsCount, x2_workCount, x2_years, x2_lines, x2_goods, x2_works, x2_change, x2_coin, x2_knownFree, x2_isKnown) p1 p2 = some (er, e0)) (eqB : fX7_says (m_shelf, m_rowSort, m_rowSize, m_rows, m_moved, m_shown, m_tape, m_tapeSize, m_refused, m_lines, m_line, m_changes, m_coins, m_goods, m_good, m_works, m_work, m_years, m_gone, m_spent, m_at, m_token, m_from, m_figures, m_fault, m_numbers, m_statements, m_left, m_far, m_tons, m_way, m_steps, m_met, m_queue, m_totals) p1 p2 = some (fr, f0)) : er = fr := by
  have ew : x2_workCount = m_works := hA.1.2.2.1
  have a := (saysC hn h_x2_lineCount h_x2_goodsCount h_x2_workCount h_x2_years h_x2_lines h_x2_goods h_x2_works h_x2_change h_x2_coin h_m_shelf hSh (by rw [ew]; exact hSw) hA.2.2.2.2.2.2).at eqA
  have b := (saysR h_m_shelf h_m_rowSize h_m_tapeSize h_m_lines h_m_line h_m_changes h_m_coins h_m_goods h_m_good h_m_works h_m_work h_m_years h_m_from h_m_far h_m_way h_m_steps h_m_queue hS).at eqB
  refine Eq.trans (show er = _ from a) (Eq.trans ?_ (show fr = _ from b).symm)
  by_cases hp : 0 ≤ p1 ∧ p1 ≤ 7
  · refine syA_congr (fun h c hc => hA.2.2.2.1 _ ?_ c hc) (sh_rng h_m_shelf _)
    have w := hSw _ (p8_of hp) h
    rw [← ew] at w
    have x := i32_cl (hS _ h).1
    have y := i32_cl h_x2_workCount.1
    have z := Int32.lt_iff_toInt_lt.mp w
    omega
  · unfold syA
    rw [if_neg (fun h => hp h.1), if_neg (fun h => hp h.1)]
end

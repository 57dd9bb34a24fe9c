/-! goods, change, coin, years, washed -/
theorem addGoodsS {x0_lineCount : Int32} {x0_goodsCount : Int32} {x0_workCount : Int32} {x0_years : Int32} {x0_lines : (Nat → Int32)} {x0_goods : (Nat → Int32)} {x0_works : (Nat → Int32)} {x0_change : (Nat → Int32)} {x0_coin : (Nat → Int32)} {x0_knownFree : (Nat → Int32)} {x0_isKnown : Int32} {p1 p2 p3 : Int32} (hL : 0 ≤ x0_goodsCount ∧ x0_goodsCount < 8) : Sf (fX1_addGoods (x0_lineCount, x0_goodsCount, x0_workCount, x0_years, x0_lines, x0_goods, x0_works, x0_change, x0_coin, x0_knownFree, x0_isKnown) p1 p2 p3) (fun r => r.1 = x0_goodsCount + 1 ∧ r.2.2 = 0 ∧ AddR 3 (ro 3 x0_goods) (ro 3 r.2.1) x0_goodsCount.toNatClampNeg [p1, p2, p3]) := by
  unfold fX1_addGoods
  dsimp only [u11]
  rw [if_pos hL.2]
  have ix : ∀ c : Int32, 0 ≤ c ∧ c < 3 → _ := fun c hc => ixg (z := x0_goodsCount) (c := c) hL hc
  refine Sf.wrb 24 rfl (ix 0 (by decide)).1 (fun f1 e1 => ?_)
  refine Sf.wrb 24 rfl (ix 1 (by decide)).1 (fun f2 e2 => ?_)
  refine Sf.wrb 24 rfl (ix 2 (by decide)).1 (fun f3 e3 => ?_)
  rw [(ix 0 (by decide)).2, show (0 : Int32).toNatClampNeg = 0 from rfl] at e1
  rw [(ix 1 (by decide)).2, show (1 : Int32).toNatClampNeg = 1 from rfl] at e2
  rw [(ix 2 (by decide)).2, show (2 : Int32).toNatClampNeg = 2 from rfl] at e3
  refine Sf.ok ⟨rfl, rfl, fun l hl c hc => ?_, fun c hc => ?_⟩
  · show ro 3 f3 l c = _
    rw [ro_eq hc, ro_eq hc, e3, va_ne _ _ (by omega), e2, va_ne _ _ (by omega), e1, va_ne _ _ (by omega)]
  · show ro 3 f3 _ c = _
    rw [ro_eq hc, e3, e2, e1]
    rcases (show c = 0 ∨ c = 1 ∨ c = 2 by omega) with rfl | rfl | rfl
    · rw [va_ne _ _ (by omega), va_ne _ _ (by omega), va_eq]; rfl
    · rw [va_ne _ _ (by omega), va_eq]; rfl
    · rw [va_eq]; rfl
def VGoods (p1 p2 p3 : Int32) : Prop := (0 ≤ p1 ∧ p1 ≤ 11) ∧ (0 ≤ p2 ∧ p2 ≤ 11) ∧ p1 ≠ p2 ∧ (1 ≤ p3 ∧ p3 ≤ 99)
theorem goodsC {x0_refused : (Nat → Int32)} {x0_isKept : Int32} {x0_gone : Int32} {x0_spent : Int32} {x1_lineCount : Int32} {x1_goodsCount : Int32} {x1_workCount : Int32} {x1_years : Int32} {x1_lines : (Nat → Int32)} {x1_goods : (Nat → Int32)} {x1_works : (Nat → Int32)} {x1_change : (Nat → Int32)} {x1_coin : (Nat → Int32)} {x1_knownFree : (Nat → Int32)} {x1_isKnown : Int32} {p1 p2 p3 : Int32} (h_x1_goodsCount : 0 ≤ x1_goodsCount ∧ x1_goodsCount ≤ 8) : Sf (fX6_goods (x0_refused, x0_isKept, x0_gone, x0_spent) (x1_lineCount, x1_goodsCount, x1_workCount, x1_years, x1_lines, x1_goods, x1_works, x1_change, x1_coin, x1_knownFree, x1_isKnown) p1 p2 p3) (fun r => AQ (VGoods p1 p2 p3) (8 ≤ x1_goodsCount) r.1 (r.1 = x1_goodsCount ∧ r.2.2.1 = x1_goodsCount + 1 ∧ r.2.2.2.2 = 0 ∧ AddR 3 (ro 3 x1_goods) (ro 3 r.2.2.2.1) x1_goodsCount.toNatClampNeg [p1, p2, p3]) (r.2.2.1 = x1_goodsCount ∧ r.2.2.2.1 = x1_goods ∧ r.2.2.2.2 = x1_isKnown)) := by
  unfold fX6_goods
  dsimp only [u4, u11]
  have no : ¬ VGoods p1 p2 p3 → Sf ((fX6_refuse (x0_refused, x0_isKept, x0_gone, x0_spent) (-2)).bind (u2 fun v g => some (v, g, x1_goodsCount, x1_goods, x1_isKnown))) (fun r => AQ (VGoods p1 p2 p3) (8 ≤ x1_goodsCount) r.1 (r.1 = x1_goodsCount ∧ r.2.2.1 = x1_goodsCount + 1 ∧ r.2.2.2.2 = 0 ∧ AddR 3 (ro 3 x1_goods) (ro 3 r.2.2.2.1) x1_goodsCount.toNatClampNeg [p1, p2, p3]) (r.2.2.1 = x1_goodsCount ∧ r.2.2.2.1 = x1_goods ∧ r.2.2.2.2 = x1_isKnown)) := by
    intro hV
    refine Sf.bind refC ?_
    rintro ⟨v, g⟩ e
    exact Sf.ok (Or.inr (Or.inr ⟨hV, e, rfl, rfl, rfl⟩))
  refine Sf.bind sX6_isPlace (fun v1 h1 => Sf.ite (fun hz => no (fun V => gd0 h1 hz V.1)) (fun hz => ?_))
  have c1 := gd1 h1 hz
  refine Sf.bind sX6_isPlace (fun v6 h6 => Sf.ite (fun hz => no (fun V => gd0 h6 hz V.2.1)) (fun hz => ?_))
  have c2 := gd1 h6 hz
  refine Sf.ite (fun hz => no (fun V => V.2.2.1 hz)) (fun c3 => ?_)
  refine Sf.bind sX6_within (fun v14 h14 => Sf.ite (fun hz => no (fun V => gd0 h14 hz V.2.2.2)) (fun hz => ?_))
  have V : VGoods p1 p2 p3 := ⟨c1, c2, c3, gd1 h14 hz⟩
  refine Sf.ite (fun hl => ?_) (fun hl => ?_)
  · refine Sf.bind (addGoodsS ⟨h_x1_goodsCount.1, hl⟩) ?_
    rintro ⟨g31, g32, g33⟩ ⟨e1, e2, e3⟩
    have e1 : g31 = x1_goodsCount + 1 := e1
    refine Sf.ok (Or.inl ⟨V, Int32.not_le.mpr hl, ?_, e1, e2, e3⟩)
    show g31 - 1 = x1_goodsCount
    rw [e1]
    grind
  · refine Sf.bind refC ?_
    rintro ⟨v, g⟩ e
    exact Sf.ok (Or.inr (Or.inl ⟨V, Int32.not_lt.mp hl, e, rfl, rfl, rfl⟩))
theorem goodsR {x0_shelf : (Nat → Int32)} {x0_rowSort : (Nat → Int32)} {x0_rowSize : (Nat → Int32)} {x0_rows : (Nat → Nat → Int64)} {x0_moved : (Nat → Int64)} {x0_shown : (Nat → Int32)} {x0_tape : (Nat → Int32)} {x0_tapeSize : Int32} {x0_refused : (Nat → Int32)} {x0_lines : Int32} {x0_line : (Nat → Nat → Int32)} {x0_changes : (Nat → Int32)} {x0_coins : (Nat → Int32)} {x0_goods : Int32} {x0_good : (Nat → Nat → Int32)} {x0_works : Int32} {x0_work : (Nat → Nat → Int32)} {x0_years : Int32} {x0_gone : Int32} {x0_spent : Int32} {x0_at : Int32} {x0_token : Int32} {x0_from : Int32} {x0_figures : Int64} {x0_fault : Int32} {x0_numbers : (Nat → Int32)} {x0_statements : Int32} {x0_left : (Nat → Int32)} {x0_far : (Nat → Int32)} {x0_tons : Int32} {x0_way : (Nat → Int32)} {x0_steps : Int32} {x0_met : Int64} {x0_queue : (Nat → Int32)} {x0_totals : (Nat → Int32)} {p1 p2 p3 : Int32} (h_x0_shelf : (AI 0 2 x0_shelf)) (h_x0_rowSize : (AI 0 40 x0_rowSize)) (h_x0_tapeSize : (0 ≤ x0_tapeSize ∧ x0_tapeSize ≤ 250)) (h_x0_lines : (0 ≤ x0_lines ∧ x0_lines ≤ 20)) (h_x0_line : (LnM x0_line)) (h_x0_changes : (AI 0 99 x0_changes)) (h_x0_coins : (AI 0 9 x0_coins)) (h_x0_goods : (0 ≤ x0_goods ∧ x0_goods ≤ 8)) (h_x0_good : (GdM x0_good)) (h_x0_works : (0 ≤ x0_works ∧ x0_works ≤ 7)) (h_x0_work : (WkM x0_work)) (h_x0_years : (1 ≤ x0_years ∧ x0_years ≤ 30)) (h_x0_from : (0 ≤ x0_from ∧ x0_from ≤ 250)) (h_x0_far : (AI 0 1000000000 x0_far)) (h_x0_way : (AI 0 22 x0_way)) (h_x0_steps : (0 ≤ x0_steps ∧ x0_steps ≤ 37)) (h_x0_queue : (AI 0 35 x0_queue)) : Sf (fX7_goods (x0_shelf, x0_rowSort, x0_rowSize, x0_rows, x0_moved, x0_shown, x0_tape, x0_tapeSize, x0_refused, x0_lines, x0_line, x0_changes, x0_coins, x0_goods, x0_good, x0_works, x0_work, x0_years, x0_gone, x0_spent, x0_at, x0_token, x0_from, x0_figures, x0_fault, x0_numbers, x0_statements, x0_left, x0_far, x0_tons, x0_way, x0_steps, x0_met, x0_queue, x0_totals) p1 p2 p3) (fun r => AQ (VGoods p1 p2 p3) (8 ≤ x0_goods) r.1 (r.1 = x0_goods ∧ r.2.2.1 = x0_goods + 1 ∧ AddR 3 x0_good r.2.2.2 x0_goods.toNatClampNeg [p1, p2, p3]) (r.2.2.1 = x0_goods ∧ r.2.2.2 = x0_good)) := by
  unfold fX7_goods
  dsimp only [u35]
  have no : ¬ VGoods p1 p2 p3 → Sf ((fX7_refuse (x0_shelf, x0_rowSort, x0_rowSize, x0_rows, x0_moved, x0_shown, x0_tape, x0_tapeSize, x0_refused, x0_lines, x0_line, x0_changes, x0_coins, x0_goods, x0_good, x0_works, x0_work, x0_years, x0_gone, x0_spent, x0_at, x0_token, x0_from, x0_figures, x0_fault, x0_numbers, x0_statements, x0_left, x0_far, x0_tons, x0_way, x0_steps, x0_met, x0_queue, x0_totals) (-2)).bind (u2 fun v g => some (v, g, x0_goods, x0_good))) (fun r => AQ (VGoods p1 p2 p3) (8 ≤ x0_goods) r.1 (r.1 = x0_goods ∧ r.2.2.1 = x0_goods + 1 ∧ AddR 3 x0_good r.2.2.2 x0_goods.toNatClampNeg [p1, p2, p3]) (r.2.2.1 = x0_goods ∧ r.2.2.2 = x0_good)) := by
    intro hV
    refine Sf.bind (sX7_refuse h_x0_shelf h_x0_rowSize h_x0_tapeSize h_x0_lines h_x0_line h_x0_changes h_x0_coins h_x0_goods h_x0_good h_x0_works h_x0_work h_x0_years h_x0_from h_x0_far h_x0_way h_x0_steps h_x0_queue (by decide)) ?_
    rintro ⟨v, g⟩ e
    exact Sf.ok (Or.inr (Or.inr ⟨hV, e, rfl, rfl⟩))
  refine Sf.bind sX7_isPlace (fun v1 h1 => Sf.ite (fun hz => no (fun V => gd0 h1 hz V.1)) (fun hz => ?_))
  have c1 := gd1 h1 hz
  refine Sf.bind sX7_isPlace (fun v6 h6 => Sf.ite (fun hz => no (fun V => gd0 h6 hz V.2.1)) (fun hz => ?_))
  have c2 := gd1 h6 hz
  refine Sf.ite (fun hz => no (fun V => V.2.2.1 hz)) (fun c3 => ?_)
  refine Sf.bind (s_inq p3 1 99 (by decide) (by decide)) (fun v14 h14 => Sf.ite (fun hz => no (fun V => gd0 h14 hz V.2.2.2)) (fun hz => ?_))
  have V : VGoods p1 p2 p3 := ⟨c1, c2, c3, gd1 h14 hz⟩
  refine Sf.ite (fun hl => ?_) (fun hl => ?_)
  · refine Sf.bind (sX7_refuse h_x0_shelf h_x0_rowSize h_x0_tapeSize h_x0_lines h_x0_line h_x0_changes h_x0_coins h_x0_goods h_x0_good h_x0_works h_x0_work h_x0_years h_x0_from h_x0_far h_x0_way h_x0_steps h_x0_queue (by decide)) ?_
    rintro ⟨v, g⟩ e
    exact Sf.ok (Or.inr (Or.inl ⟨V, by rw [hl]; decide, e, rfl, rfl⟩))
  · have hL : 0 ≤ x0_goods ∧ x0_goods < 8 := ⟨h_x0_goods.1, by clear no; grind⟩
    refine Sf.ckb 8 rfl hL (fun q16 e16 _ => ?_)
    refine Sf.wrb 3 rfl (by decide) (fun f17 e17 => ?_)
    refine Sf.ckb 8 rfl hL (fun q18 e18 _ => ?_)
    rw [e18, e16]
    refine Sf.wrb 3 rfl (by decide) (fun f19 e19 => ?_)
    rw [va_eq] at e19
    refine Sf.ckb 8 rfl hL (fun q20 e20 _ => ?_)
    rw [e20]
    refine Sf.wrb 3 rfl (by decide) (fun f21 e21 => ?_)
    rw [va_eq] at e21
    refine Sf.ok (Or.inl ⟨V, Int32.not_le.mpr hL.2, rfl, rfl, fun l hl' c hc => ?_, fun c hc => ?_⟩)
    · show va_up (va_up (va_up x0_good _ f17) _ f19) _ f21 l c = _
      rw [va_ne _ _ hl', va_ne _ _ hl', va_ne _ _ hl']
    · show va_up (va_up (va_up x0_good _ f17) _ f19) _ f21 _ c = _
      rw [va_eq, e21, e19, e17]
      rcases (show c = 0 ∨ c = 1 ∨ c = 2 by omega) with rfl | rfl | rfl <;> rfl
theorem dGoods {x0_refused : (Nat → Int32)} {x0_isKept : Int32} {x0_gone : Int32} {x0_spent : Int32} {x1_lineCount : Int32} {x1_goodsCount : Int32} {x1_workCount : Int32} {x1_years : Int32} {x1_lines : (Nat → Int32)} {x1_goods : (Nat → Int32)} {x1_works : (Nat → Int32)} {x1_change : (Nat → Int32)} {x1_coin : (Nat → Int32)} {x1_knownFree : (Nat → Int32)} {x1_isKnown : Int32} {m_shelf : (Nat → Int32)} {m_rowSort : (Nat → Int32)} {m_rowSize : (Nat → Int32)} {m_rows : (Nat → Nat → Int64)} {m_moved : (Nat → Int64)} {m_shown : (Nat → Int32)} {m_tape : (Nat → Int32)} {m_tapeSize : Int32} {m_refused : (Nat → Int32)} {m_lines : Int32} {m_line : (Nat → Nat → Int32)} {m_changes : (Nat → Int32)} {m_coins : (Nat → Int32)} {m_goods : Int32} {m_good : (Nat → Nat → Int32)} {m_works : Int32} {m_work : (Nat → Nat → Int32)} {m_years : Int32} {m_gone : Int32} {m_spent : Int32} {m_at : Int32} {m_token : Int32} {m_from : Int32} {m_figures : Int64} {m_fault : Int32} {m_numbers : (Nat → Int32)} {m_statements : Int32} {m_left : (Nat → Int32)} {m_far : (Nat → Int32)} {m_tons : Int32} {m_way : (Nat → Int32)} {m_steps : Int32} {m_met : Int64} {m_queue : (Nat → Int32)} {m_totals : (Nat → Int32)} {p1 p2 p3 er e1 e3 fr f1 : Int32} {e0 e2 f0 : Nat → Int32} {f2 : Nat → Nat → Int32} (h_x1_lineCount : (0 ≤ x1_lineCount ∧ x1_lineCount ≤ 20)) (h_x1_goodsCount : (0 ≤ x1_goodsCount ∧ x1_goodsCount ≤ 8)) (h_x1_workCount : (0 ≤ x1_workCount ∧ x1_workCount ≤ 7)) (h_x1_years : (1 ≤ x1_years ∧ x1_years ≤ 30)) (h_x1_lines : (LnOk x1_lines)) (h_x1_goods : (GdOk x1_goods)) (h_x1_works : (WkOk x1_works)) (h_x1_change : (AI 0 99 x1_change)) (h_x1_coin : (AI 0 9 x1_coin)) (h_m_shelf : (AI 0 2 m_shelf)) (h_m_rowSize : (AI 0 40 m_rowSize)) (h_m_tapeSize : (0 ≤ m_tapeSize ∧ m_tapeSize ≤ 250)) (h_m_lines : (0 ≤ m_lines ∧ m_lines ≤ 20)) (h_m_line : (LnM m_line)) (h_m_changes : (AI 0 99 m_changes)) (h_m_coins : (AI 0 9 m_coins)) (h_m_goods : (0 ≤ m_goods ∧ m_goods ≤ 8)) (h_m_good : (GdM m_good)) (h_m_works : (0 ≤ m_works ∧ m_works ≤ 7)) (h_m_work : (WkM m_work)) (h_m_years : (1 ≤ m_years ∧ m_years ≤ 30)) (h_m_from : (0 ≤ m_from ∧ m_from ≤ 250)) (h_m_far : (AI 0 1000000000 m_far)) (h_m_way : (AI 0 22 m_way)) (h_m_steps : (0 ≤ m_steps ∧ m_steps ≤ 37)) (h_m_queue : (AI 0 35 m_queue)) (hA : (LaD x1_lineCount x1_goodsCount x1_workCount x1_years x1_lines x1_goods x1_works x1_change x1_coin m_lines m_line m_changes m_coins m_goods m_good m_works m_work m_years)) (hk : Kn (FrS x1_lineCount (ro 7 x1_lines) x1_change x1_coin (ro 3 x1_goods) x1_goodsCount (ro 5 x1_works) x1_workCount) x1_knownFree x1_isKnown) (eqA : fX6_goods (x0_refused, x0_isKept, x0_gone, x0_spent) (x1_lineCount, x1_goodsCount, x1_workCount, x1_years, x1_lines, x1_goods, x1_works, x1_change, x1_coin, x1_knownFree, x1_isKnown) p1 p2 p3 = some (er, e0, e1, e2, e3)) (eqB : fX7_goods (m_shelf, m_rowSort, m_rowSize, m_rows, m_moved, m_shown, m_tape, m_tapeSize, m_refused, m_lines, m_line, m_changes, m_coins, m_goods, m_good, m_works, m_work, m_years, m_gone, m_spent, m_at, m_token, m_from, m_figures, m_fault, m_numbers, m_statements, m_left, m_far, m_tons, m_way, m_steps, m_met, m_queue, m_totals) p1 p2 p3 = some (fr, f0, f1, f2)) : er = fr ∧ (LaD x1_lineCount e1 x1_workCount x1_years x1_lines e2 x1_works x1_change x1_coin m_lines m_line m_changes m_coins f1 f2 m_works m_work m_years) ∧ Kn (FrS x1_lineCount (ro 7 x1_lines) x1_change x1_coin (ro 3 e2) e1 (ro 5 x1_works) x1_workCount) x1_knownFree e3 := by
  have a := (goodsC h_x1_goodsCount).at eqA
  have b := (goodsR h_m_shelf h_m_rowSize h_m_tapeSize h_m_lines h_m_line h_m_changes h_m_coins h_m_goods h_m_good h_m_works h_m_work h_m_years h_m_from h_m_far h_m_way h_m_steps h_m_queue).at eqB
  obtain ⟨⟨z1, z2, z3, z4⟩, z5, z6, z7, z8, z9, z10⟩ := hA
  subst z2
  rcases AQ_eq Iff.rfl a b with ⟨⟨a1, a2, a3, a4⟩, b1, b2, b3⟩ | ⟨e, ⟨a1, a2, a3⟩, b1, b2⟩
  · have a2 : e1 = x1_goodsCount + 1 := a2
    have b2 : f1 = x1_goodsCount + 1 := b2
    have a3 : e3 = 0 := a3
    subst a2 b2 a3
    exact ⟨a1.trans b1.symm, ⟨⟨z1, rfl, z3, z4⟩, z5, AddR.alike h_x1_goodsCount.1 (fun h => absurd (Int32.le_trans h h_x1_goodsCount.2) (by decide)) a4 b3 z6, z7, z8, z9, z10⟩, Or.inl rfl⟩
  · have a1 : e1 = x1_goodsCount := a1
    have a2 : e2 = x1_goods := a2
    have a3 : e3 = x1_isKnown := a3
    have b1 : f1 = x1_goodsCount := b1
    have b2 : f2 = m_good := b2
    subst a1 a2 a3 b2
    exact ⟨e, ⟨⟨z1, b1.symm, z3, z4⟩, z5, z6, z7, z8, z9, z10⟩, hk⟩
/-! change, coin, years -/
def VTwo (a b p1 p2 : Int32) : Prop := (0 ≤ p1 ∧ p1 ≤ a) ∧ (0 ≤ p2 ∧ p2 ≤ b)
def AP (V : Prop) (a : Int32) (S O : Prop) : Prop := (V ∧ S) ∨ (¬ V ∧ a = -2 ∧ O)
theorem AP_eq {V S O S' O' : Prop} {a a' : Int32} (h : AP V a S O) (h' : AP V a' S' O') : (S ∧ S') ∨ (a = a' ∧ O ∧ O') := by
  rcases h with ⟨v, s⟩ | ⟨v, e, o⟩ <;> rcases h' with ⟨v', s'⟩ | ⟨v', e', o'⟩
  · exact Or.inl ⟨s, s'⟩
  · exact absurd v v'
  · exact absurd v' v
  · exact Or.inr ⟨by rw [e, e'], o, o'⟩
theorem changeC {x0_refused : (Nat → Int32)} {x0_isKept : Int32} {x0_gone : Int32} {x0_spent : Int32} {x1_lineCount : Int32} {x1_goodsCount : Int32} {x1_workCount : Int32} {x1_years : Int32} {x1_lines : (Nat → Int32)} {x1_goods : (Nat → Int32)} {x1_works : (Nat → Int32)} {x1_change : (Nat → Int32)} {x1_coin : (Nat → Int32)} {x1_knownFree : (Nat → Int32)} {x1_isKnown : Int32} {p1 p2 : Int32} : Sf (fX6_change (x0_refused, x0_isKept, x0_gone, x0_spent) (x1_lineCount, x1_goodsCount, x1_workCount, x1_years, x1_lines, x1_goods, x1_works, x1_change, x1_coin, x1_knownFree, x1_isKnown) p1 p2) (fun r => AP (VTwo 11 99 p1 p2) r.1 ((0 ≤ p1 ∧ p1 ≤ 11) ∧ r.1 = x1_change p1.toNatClampNeg ∧ r.2.2.1 = va_up x1_change p1.toNatClampNeg p2 ∧ r.2.2.2 = 0) (r.2.2.1 = x1_change ∧ r.2.2.2 = x1_isKnown)) := by
  unfold fX6_change
  dsimp only [u4, u11]
  have no : ¬ VTwo 11 99 p1 p2 → Sf ((fX6_refuse (x0_refused, x0_isKept, x0_gone, x0_spent) (-2)).bind (u2 fun v g => some (v, g, x1_change, x1_isKnown))) (fun r => AP (VTwo 11 99 p1 p2) r.1 ((0 ≤ p1 ∧ p1 ≤ 11) ∧ r.1 = x1_change p1.toNatClampNeg ∧ r.2.2.1 = va_up x1_change p1.toNatClampNeg p2 ∧ r.2.2.2 = 0) (r.2.2.1 = x1_change ∧ r.2.2.2 = x1_isKnown)) := by
    intro hV
    refine Sf.bind refC ?_
    rintro ⟨v, g⟩ e
    exact Sf.ok (Or.inr ⟨hV, e, rfl, rfl⟩)
  refine Sf.bind sX6_isPlace (fun v1 h1 => Sf.ite (fun hz => no (fun V => gd0 h1 hz V.1)) (fun hz => ?_))
  have c1 := gd1 h1 hz
  refine Sf.bind sX6_within (fun v6 h6 => Sf.ite (fun hz => no (fun V => gd0 h6 hz V.2)) (fun hz => ?_))
  have c2 := gd1 h6 hz
  have hi : 0 ≤ p1 ∧ p1 < 12 := ⟨c1.1, Int32.lt_of_le_of_lt c1.2 (by decide)⟩
  refine Sf.rdb 12 rfl hi (fun v8 e8 => ?_)
  unfold fX1_putChange
  dsimp only [u11]
  rw [if_neg (Int32.not_lt.mpr hi.1), if_neg (Int32.not_le.mpr hi.2)]
  refine Sf.bind (P := fun r : (Nat → Int32) × Int32 => r.1 = va_up x1_change p1.toNatClampNeg p2 ∧ r.2 = 0) (Sf.wrb 12 rfl hi (fun f1 e1 => Sf.ok ⟨e1, rfl⟩)) ?_
  rintro ⟨g9, g10⟩ ⟨e9, e10⟩
  exact Sf.ok (Or.inl ⟨⟨c1, c2⟩, c1, e8, e9, e10⟩)
theorem changeR {x0_shelf : (Nat → Int32)} {x0_rowSort : (Nat → Int32)} {x0_rowSize : (Nat → Int32)} {x0_rows : (Nat → Nat → Int64)} {x0_moved : (Nat → Int64)} {x0_shown : (Nat → Int32)} {x0_tape : (Nat → Int32)} {x0_tapeSize : Int32} {x0_refused : (Nat → Int32)} {x0_lines : Int32} {x0_line : (Nat → Nat → Int32)} {x0_changes : (Nat → Int32)} {x0_coins : (Nat → Int32)} {x0_goods : Int32} {x0_good : (Nat → Nat → Int32)} {x0_works : Int32} {x0_work : (Nat → Nat → Int32)} {x0_years : Int32} {x0_gone : Int32} {x0_spent : Int32} {x0_at : Int32} {x0_token : Int32} {x0_from : Int32} {x0_figures : Int64} {x0_fault : Int32} {x0_numbers : (Nat → Int32)} {x0_statements : Int32} {x0_left : (Nat → Int32)} {x0_far : (Nat → Int32)} {x0_tons : Int32} {x0_way : (Nat → Int32)} {x0_steps : Int32} {x0_met : Int64} {x0_queue : (Nat → Int32)} {x0_totals : (Nat → Int32)} {p1 p2 : Int32} (h_x0_shelf : (AI 0 2 x0_shelf)) (h_x0_rowSize : (AI 0 40 x0_rowSize)) (h_x0_tapeSize : (0 ≤ x0_tapeSize ∧ x0_tapeSize ≤ 250)) (h_x0_lines : (0 ≤ x0_lines ∧ x0_lines ≤ 20)) (h_x0_line : (LnM x0_line)) (h_x0_changes : (AI 0 99 x0_changes)) (h_x0_coins : (AI 0 9 x0_coins)) (h_x0_goods : (0 ≤ x0_goods ∧ x0_goods ≤ 8)) (h_x0_good : (GdM x0_good)) (h_x0_works : (0 ≤ x0_works ∧ x0_works ≤ 7)) (h_x0_work : (WkM x0_work)) (h_x0_years : (1 ≤ x0_years ∧ x0_years ≤ 30)) (h_x0_from : (0 ≤ x0_from ∧ x0_from ≤ 250)) (h_x0_far : (AI 0 1000000000 x0_far)) (h_x0_way : (AI 0 22 x0_way)) (h_x0_steps : (0 ≤ x0_steps ∧ x0_steps ≤ 37)) (h_x0_queue : (AI 0 35 x0_queue)) : Sf (fX7_change (x0_shelf, x0_rowSort, x0_rowSize, x0_rows, x0_moved, x0_shown, x0_tape, x0_tapeSize, x0_refused, x0_lines, x0_line, x0_changes, x0_coins, x0_goods, x0_good, x0_works, x0_work, x0_years, x0_gone, x0_spent, x0_at, x0_token, x0_from, x0_figures, x0_fault, x0_numbers, x0_statements, x0_left, x0_far, x0_tons, x0_way, x0_steps, x0_met, x0_queue, x0_totals) p1 p2) (fun r => AP (VTwo 11 99 p1 p2) r.1 (r.1 = x0_changes p1.toNatClampNeg ∧ r.2.2 = va_up x0_changes p1.toNatClampNeg p2) (r.2.2 = x0_changes)) := by
  unfold fX7_change
  dsimp only [u35]
  have no : ¬ VTwo 11 99 p1 p2 → Sf ((fX7_refuse (x0_shelf, x0_rowSort, x0_rowSize, x0_rows, x0_moved, x0_shown, x0_tape, x0_tapeSize, x0_refused, x0_lines, x0_line, x0_changes, x0_coins, x0_goods, x0_good, x0_works, x0_work, x0_years, x0_gone, x0_spent, x0_at, x0_token, x0_from, x0_figures, x0_fault, x0_numbers, x0_statements, x0_left, x0_far, x0_tons, x0_way, x0_steps, x0_met, x0_queue, x0_totals) (-2)).bind (u2 fun v g => some (v, g, x0_changes))) (fun r => AP (VTwo 11 99 p1 p2) r.1 (r.1 = x0_changes p1.toNatClampNeg ∧ r.2.2 = va_up x0_changes p1.toNatClampNeg p2) (r.2.2 = x0_changes)) := by
    intro hV
    refine Sf.bind (sX7_refuse h_x0_shelf h_x0_rowSize h_x0_tapeSize h_x0_lines h_x0_line h_x0_changes h_x0_coins h_x0_goods h_x0_good h_x0_works h_x0_work h_x0_years h_x0_from h_x0_far h_x0_way h_x0_steps h_x0_queue (by decide)) ?_
    rintro ⟨v, g⟩ e
    exact Sf.ok (Or.inr ⟨hV, e, rfl⟩)
  refine Sf.bind sX7_isPlace (fun v1 h1 => Sf.ite (fun hz => no (fun V => gd0 h1 hz V.1)) (fun hz => ?_))
  have c1 := gd1 h1 hz
  refine Sf.bind (s_inq p2 0 99 (by decide) (by decide)) (fun v6 h6 => Sf.ite (fun hz => no (fun V => gd0 h6 hz V.2)) (fun hz => ?_))
  have c2 := gd1 h6 hz
  have hi : 0 ≤ p1 ∧ p1 < 12 := ⟨c1.1, Int32.lt_of_le_of_lt c1.2 (by decide)⟩
  refine Sf.rdb 12 rfl hi (fun v8 e8 => ?_)
  refine Sf.wrb 12 rfl hi (fun f9 e9 => ?_)
  exact Sf.ok (Or.inl ⟨⟨c1, c2⟩, e8, e9⟩)
theorem up_alike {f g : Nat → Int32} {N k : Nat} {x : Int32} (h : ∀ p, p < N → f p = g p) : ∀ p, p < N → va_up f k x p = va_up g k x p := by
  intro p hp
  by_cases e : p = k
  · rw [e, va_eq, va_eq]
  · rw [va_ne _ _ e, va_ne _ _ e]
    exact h p hp
theorem dChange {x0_refused : (Nat → Int32)} {x0_isKept : Int32} {x0_gone : Int32} {x0_spent : Int32} {x1_lineCount : Int32} {x1_goodsCount : Int32} {x1_workCount : Int32} {x1_years : Int32} {x1_lines : (Nat → Int32)} {x1_goods : (Nat → Int32)} {x1_works : (Nat → Int32)} {x1_change : (Nat → Int32)} {x1_coin : (Nat → Int32)} {x1_knownFree : (Nat → Int32)} {x1_isKnown : Int32} {m_shelf : (Nat → Int32)} {m_rowSort : (Nat → Int32)} {m_rowSize : (Nat → Int32)} {m_rows : (Nat → Nat → Int64)} {m_moved : (Nat → Int64)} {m_shown : (Nat → Int32)} {m_tape : (Nat → Int32)} {m_tapeSize : Int32} {m_refused : (Nat → Int32)} {m_lines : Int32} {m_line : (Nat → Nat → Int32)} {m_changes : (Nat → Int32)} {m_coins : (Nat → Int32)} {m_goods : Int32} {m_good : (Nat → Nat → Int32)} {m_works : Int32} {m_work : (Nat → Nat → Int32)} {m_years : Int32} {m_gone : Int32} {m_spent : Int32} {m_at : Int32} {m_token : Int32} {m_from : Int32} {m_figures : Int64} {m_fault : Int32} {m_numbers : (Nat → Int32)} {m_statements : Int32} {m_left : (Nat → Int32)} {m_far : (Nat → Int32)} {m_tons : Int32} {m_way : (Nat → Int32)} {m_steps : Int32} {m_met : Int64} {m_queue : (Nat → Int32)} {m_totals : (Nat → Int32)} {p1 p2 er e3 fr : Int32} {e0 e2 f0 f2 : Nat → Int32} (h_x1_lineCount : (0 ≤ x1_lineCount ∧ x1_lineCount ≤ 20)) (h_x1_goodsCount : (0 ≤ x1_goodsCount ∧ x1_goodsCount ≤ 8)) (h_x1_workCount : (0 ≤ x1_workCount ∧ x1_workCount ≤ 7)) (h_x1_years : (1 ≤ x1_years ∧ x1_years ≤ 30)) (h_x1_lines : (LnOk x1_lines)) (h_x1_goods : (GdOk x1_goods)) (h_x1_works : (WkOk x1_works)) (h_x1_change : (AI 0 99 x1_change)) (h_x1_coin : (AI 0 9 x1_coin)) (h_m_shelf : (AI 0 2 m_shelf)) (h_m_rowSize : (AI 0 40 m_rowSize)) (h_m_tapeSize : (0 ≤ m_tapeSize ∧ m_tapeSize ≤ 250)) (h_m_lines : (0 ≤ m_lines ∧ m_lines ≤ 20)) (h_m_line : (LnM m_line)) (h_m_changes : (AI 0 99 m_changes)) (h_m_coins : (AI 0 9 m_coins)) (h_m_goods : (0 ≤ m_goods ∧ m_goods ≤ 8)) (h_m_good : (GdM m_good)) (h_m_works : (0 ≤ m_works ∧ m_works ≤ 7)) (h_m_work : (WkM m_work)) (h_m_years : (1 ≤ m_years ∧ m_years ≤ 30)) (h_m_from : (0 ≤ m_from ∧ m_from ≤ 250)) (h_m_far : (AI 0 1000000000 m_far)) (h_m_way : (AI 0 22 m_way)) (h_m_steps : (0 ≤ m_steps ∧ m_steps ≤ 37)) (h_m_queue : (AI 0 35 m_queue)) (hA : (LaD x1_lineCount x1_goodsCount x1_workCount x1_years x1_lines x1_goods x1_works x1_change x1_coin m_lines m_line m_changes m_coins m_goods m_good m_works m_work m_years)) (hk : Kn (FrS x1_lineCount (ro 7 x1_lines) x1_change x1_coin (ro 3 x1_goods) x1_goodsCount (ro 5 x1_works) x1_workCount) x1_knownFree x1_isKnown) (eqA : fX6_change (x0_refused, x0_isKept, x0_gone, x0_spent) (x1_lineCount, x1_goodsCount, x1_workCount, x1_years, x1_lines, x1_goods, x1_works, x1_change, x1_coin, x1_knownFree, x1_isKnown) p1 p2 = some (er, e0, e2, e3)) (eqB : fX7_change (m_shelf, m_rowSort, m_rowSize, m_rows, m_moved, m_shown, m_tape, m_tapeSize, m_refused, m_lines, m_line, m_changes, m_coins, m_goods, m_good, m_works, m_work, m_years, m_gone, m_spent, m_at, m_token, m_from, m_figures, m_fault, m_numbers, m_statements, m_left, m_far, m_tons, m_way, m_steps, m_met, m_queue, m_totals) p1 p2 = some (fr, f0, f2)) : er = fr ∧ (LaD x1_lineCount x1_goodsCount x1_workCount x1_years x1_lines x1_goods x1_works e2 x1_coin m_lines m_line f2 m_coins m_goods m_good m_works m_work m_years) ∧ Kn (FrS x1_lineCount (ro 7 x1_lines) e2 x1_coin (ro 3 x1_goods) x1_goodsCount (ro 5 x1_works) x1_workCount) x1_knownFree e3 := by
  have a := changeC.at eqA
  have b := (changeR h_m_shelf h_m_rowSize h_m_tapeSize h_m_lines h_m_line h_m_changes h_m_coins h_m_goods h_m_good h_m_works h_m_work h_m_years h_m_from h_m_far h_m_way h_m_steps h_m_queue).at eqB
  obtain ⟨⟨z1, z2, z3, z4⟩, z5, z6, z7, z8, z9, z10⟩ := hA
  rcases AP_eq a b with ⟨⟨a0, a1, a2, a3⟩, b1, b2⟩ | ⟨e, ⟨a1, a2⟩, b1⟩
  · have a1 : er = x1_change p1.toNatClampNeg := a1
    have b1 : fr = m_changes p1.toNatClampNeg := b1
    have a2 : e2 = va_up x1_change p1.toNatClampNeg p2 := a2
    have b2 : f2 = va_up m_changes p1.toNatClampNeg p2 := b2
    have a3 : e3 = 0 := a3
    subst a2 b2 a3
    exact ⟨(a1.trans (z8 _ (p_of a0))).trans b1.symm, ⟨⟨z1, z2, z3, z4⟩, z5, z6, z7, up_alike z8, z9, z10⟩, Or.inl rfl⟩
  · have a1 : e2 = x1_change := a1
    have a2 : e3 = x1_isKnown := a2
    have b1 : f2 = m_changes := b1
    subst a1 a2 b1
    exact ⟨e, ⟨⟨z1, z2, z3, z4⟩, z5, z6, z7, z8, z9, z10⟩, hk⟩
theorem coinC {x0_refused : (Nat → Int32)} {x0_isKept : Int32} {x0_gone : Int32} {x0_spent : Int32} {x1_lineCount : Int32} {x1_goodsCount : Int32} {x1_workCount : Int32} {x1_years : Int32} {x1_lines : (Nat → Int32)} {x1_goods : (Nat → Int32)} {x1_works : (Nat → Int32)} {x1_change : (Nat → Int32)} {x1_coin : (Nat → Int32)} {x1_knownFree : (Nat → Int32)} {x1_isKnown : Int32} {p1 p2 : Int32} : Sf (fX6_coin (x0_refused, x0_isKept, x0_gone, x0_spent) (x1_lineCount, x1_goodsCount, x1_workCount, x1_years, x1_lines, x1_goods, x1_works, x1_change, x1_coin, x1_knownFree, x1_isKnown) p1 p2) (fun r => AP (VTwo 2 9 p1 p2) r.1 ((0 ≤ p1 ∧ p1 ≤ 2) ∧ r.1 = x1_coin p1.toNatClampNeg ∧ r.2.2.1 = va_up x1_coin p1.toNatClampNeg p2 ∧ r.2.2.2 = 0) (r.2.2.1 = x1_coin ∧ r.2.2.2 = x1_isKnown)) := by
  unfold fX6_coin
  dsimp only [u4, u11]
  have no : ¬ VTwo 2 9 p1 p2 → Sf ((fX6_refuse (x0_refused, x0_isKept, x0_gone, x0_spent) (-2)).bind (u2 fun v g => some (v, g, x1_coin, x1_isKnown))) (fun r => AP (VTwo 2 9 p1 p2) r.1 ((0 ≤ p1 ∧ p1 ≤ 2) ∧ r.1 = x1_coin p1.toNatClampNeg ∧ r.2.2.1 = va_up x1_coin p1.toNatClampNeg p2 ∧ r.2.2.2 = 0) (r.2.2.1 = x1_coin ∧ r.2.2.2 = x1_isKnown)) := by
    intro hV
    refine Sf.bind refC ?_
    rintro ⟨v, g⟩ e
    exact Sf.ok (Or.inr ⟨hV, e, rfl, rfl⟩)
  refine Sf.bind sX6_within (fun v1 h1 => Sf.ite (fun hz => no (fun V => gd0 h1 hz V.1)) (fun hz => ?_))
  have c1 := gd1 h1 hz
  refine Sf.bind sX6_within (fun v6 h6 => Sf.ite (fun hz => no (fun V => gd0 h6 hz V.2)) (fun hz => ?_))
  have c2 := gd1 h6 hz
  have hi : 0 ≤ p1 ∧ p1 < 3 := ⟨c1.1, Int32.lt_of_le_of_lt c1.2 (by decide)⟩
  refine Sf.rdb 3 rfl hi (fun v8 e8 => ?_)
  unfold fX1_putCoin
  dsimp only [u11]
  rw [if_neg (Int32.not_lt.mpr hi.1), if_neg (Int32.not_le.mpr hi.2)]
  refine Sf.bind (P := fun r : (Nat → Int32) × Int32 => r.1 = va_up x1_coin p1.toNatClampNeg p2 ∧ r.2 = 0) (Sf.wrb 3 rfl hi (fun f1 e1 => Sf.ok ⟨e1, rfl⟩)) ?_
  rintro ⟨g9, g10⟩ ⟨e9, e10⟩
  exact Sf.ok (Or.inl ⟨⟨c1, c2⟩, c1, e8, e9, e10⟩)
theorem coinR {x0_shelf : (Nat → Int32)} {x0_rowSort : (Nat → Int32)} {x0_rowSize : (Nat → Int32)} {x0_rows : (Nat → Nat → Int64)} {x0_moved : (Nat → Int64)} {x0_shown : (Nat → Int32)} {x0_tape : (Nat → Int32)} {x0_tapeSize : Int32} {x0_refused : (Nat → Int32)} {x0_lines : Int32} {x0_line : (Nat → Nat → Int32)} {x0_changes : (Nat → Int32)} {x0_coins : (Nat → Int32)} {x0_goods : Int32} {x0_good : (Nat → Nat → Int32)} {x0_works : Int32} {x0_work : (Nat → Nat → Int32)} {x0_years : Int32} {x0_gone : Int32} {x0_spent : Int32} {x0_at : Int32} {x0_token : Int32} {x0_from : Int32} {x0_figures : Int64} {x0_fault : Int32} {x0_numbers : (Nat → Int32)} {x0_statements : Int32} {x0_left : (Nat → Int32)} {x0_far : (Nat → Int32)} {x0_tons : Int32} {x0_way : (Nat → Int32)} {x0_steps : Int32} {x0_met : Int64} {x0_queue : (Nat → Int32)} {x0_totals : (Nat → Int32)} {p1 p2 : Int32} (h_x0_shelf : (AI 0 2 x0_shelf)) (h_x0_rowSize : (AI 0 40 x0_rowSize)) (h_x0_tapeSize : (0 ≤ x0_tapeSize ∧ x0_tapeSize ≤ 250)) (h_x0_lines : (0 ≤ x0_lines ∧ x0_lines ≤ 20)) (h_x0_line : (LnM x0_line)) (h_x0_changes : (AI 0 99 x0_changes)) (h_x0_coins : (AI 0 9 x0_coins)) (h_x0_goods : (0 ≤ x0_goods ∧ x0_goods ≤ 8)) (h_x0_good : (GdM x0_good)) (h_x0_works : (0 ≤ x0_works ∧ x0_works ≤ 7)) (h_x0_work : (WkM x0_work)) (h_x0_years : (1 ≤ x0_years ∧ x0_years ≤ 30)) (h_x0_from : (0 ≤ x0_from ∧ x0_from ≤ 250)) (h_x0_far : (AI 0 1000000000 x0_far)) (h_x0_way : (AI 0 22 x0_way)) (h_x0_steps : (0 ≤ x0_steps ∧ x0_steps ≤ 37)) (h_x0_queue : (AI 0 35 x0_queue)) : Sf (fX7_coin (x0_shelf, x0_rowSort, x0_rowSize, x0_rows, x0_moved, x0_shown, x0_tape, x0_tapeSize, x0_refused, x0_lines, x0_line, x0_changes, x0_coins, x0_goods, x0_good, x0_works, x0_work, x0_years, x0_gone, x0_spent, x0_at, x0_token, x0_from, x0_figures, x0_fault, x0_numbers, x0_statements, x0_left, x0_far, x0_tons, x0_way, x0_steps, x0_met, x0_queue, x0_totals) p1 p2) (fun r => AP (VTwo 2 9 p1 p2) r.1 (r.1 = x0_coins p1.toNatClampNeg ∧ r.2.2 = va_up x0_coins p1.toNatClampNeg p2) (r.2.2 = x0_coins)) := by
  unfold fX7_coin
  dsimp only [u35]
  have no : ¬ VTwo 2 9 p1 p2 → Sf ((fX7_refuse (x0_shelf, x0_rowSort, x0_rowSize, x0_rows, x0_moved, x0_shown, x0_tape, x0_tapeSize, x0_refused, x0_lines, x0_line, x0_changes, x0_coins, x0_goods, x0_good, x0_works, x0_work, x0_years, x0_gone, x0_spent, x0_at, x0_token, x0_from, x0_figures, x0_fault, x0_numbers, x0_statements, x0_left, x0_far, x0_tons, x0_way, x0_steps, x0_met, x0_queue, x0_totals) (-2)).bind (u2 fun v g => some (v, g, x0_coins))) (fun r => AP (VTwo 2 9 p1 p2) r.1 (r.1 = x0_coins p1.toNatClampNeg ∧ r.2.2 = va_up x0_coins p1.toNatClampNeg p2) (r.2.2 = x0_coins)) := by
    intro hV
    refine Sf.bind (sX7_refuse h_x0_shelf h_x0_rowSize h_x0_tapeSize h_x0_lines h_x0_line h_x0_changes h_x0_coins h_x0_goods h_x0_good h_x0_works h_x0_work h_x0_years h_x0_from h_x0_far h_x0_way h_x0_steps h_x0_queue (by decide)) ?_
    rintro ⟨v, g⟩ e
    exact Sf.ok (Or.inr ⟨hV, e, rfl⟩)
  refine Sf.bind (s_inq p1 0 2 (by decide) (by decide)) (fun v1 h1 => Sf.ite (fun hz => no (fun V => gd0 h1 hz V.1)) (fun hz => ?_))
  have c1 := gd1 h1 hz
  refine Sf.bind (s_inq p2 0 9 (by decide) (by decide)) (fun v6 h6 => Sf.ite (fun hz => no (fun V => gd0 h6 hz V.2)) (fun hz => ?_))
  have c2 := gd1 h6 hz
  have hi : 0 ≤ p1 ∧ p1 < 3 := ⟨c1.1, Int32.lt_of_le_of_lt c1.2 (by decide)⟩
  refine Sf.rdb 3 rfl hi (fun v8 e8 => ?_)
  refine Sf.wrb 3 rfl hi (fun f9 e9 => ?_)
  exact Sf.ok (Or.inl ⟨⟨c1, c2⟩, e8, e9⟩)
theorem dCoin {x0_refused : (Nat → Int32)} {x0_isKept : Int32} {x0_gone : Int32} {x0_spent : Int32} {x1_lineCount : Int32} {x1_goodsCount : Int32} {x1_workCount : Int32} {x1_years : Int32} {x1_lines : (Nat → Int32)} {x1_goods : (Nat → Int32)} {x1_works : (Nat → Int32)} {x1_change : (Nat → Int32)} {x1_coin : (Nat → Int32)} {x1_knownFree : (Nat → Int32)} {x1_isKnown : Int32} {m_shelf : (Nat → Int32)} {m_rowSort : (Nat → Int32)} {m_rowSize : (Nat → Int32)} {m_rows : (Nat → Nat → Int64)} {m_moved : (Nat → Int64)} {m_shown : (Nat → Int32)} {m_tape : (Nat → Int32)} {m_tapeSize : Int32} {m_refused : (Nat → Int32)} {m_lines : Int32} {m_line : (Nat → Nat → Int32)} {m_changes : (Nat → Int32)} {m_coins : (Nat → Int32)} {m_goods : Int32} {m_good : (Nat → Nat → Int32)} {m_works : Int32} {m_work : (Nat → Nat → Int32)} {m_years : Int32} {m_gone : Int32} {m_spent : Int32} {m_at : Int32} {m_token : Int32} {m_from : Int32} {m_figures : Int64} {m_fault : Int32} {m_numbers : (Nat → Int32)} {m_statements : Int32} {m_left : (Nat → Int32)} {m_far : (Nat → Int32)} {m_tons : Int32} {m_way : (Nat → Int32)} {m_steps : Int32} {m_met : Int64} {m_queue : (Nat → Int32)} {m_totals : (Nat → Int32)} {p1 p2 er e3 fr : Int32} {e0 e2 f0 f2 : Nat → Int32} (h_x1_lineCount : (0 ≤ x1_lineCount ∧ x1_lineCount ≤ 20)) (h_x1_goodsCount : (0 ≤ x1_goodsCount ∧ x1_goodsCount ≤ 8)) (h_x1_workCount : (0 ≤ x1_workCount ∧ x1_workCount ≤ 7)) (h_x1_years : (1 ≤ x1_years ∧ x1_years ≤ 30)) (h_x1_lines : (LnOk x1_lines)) (h_x1_goods : (GdOk x1_goods)) (h_x1_works : (WkOk x1_works)) (h_x1_change : (AI 0 99 x1_change)) (h_x1_coin : (AI 0 9 x1_coin)) (h_m_shelf : (AI 0 2 m_shelf)) (h_m_rowSize : (AI 0 40 m_rowSize)) (h_m_tapeSize : (0 ≤ m_tapeSize ∧ m_tapeSize ≤ 250)) (h_m_lines : (0 ≤ m_lines ∧ m_lines ≤ 20)) (h_m_line : (LnM m_line)) (h_m_changes : (AI 0 99 m_changes)) (h_m_coins : (AI 0 9 m_coins)) (h_m_goods : (0 ≤ m_goods ∧ m_goods ≤ 8)) (h_m_good : (GdM m_good)) (h_m_works : (0 ≤ m_works ∧ m_works ≤ 7)) (h_m_work : (WkM m_work)) (h_m_years : (1 ≤ m_years ∧ m_years ≤ 30)) (h_m_from : (0 ≤ m_from ∧ m_from ≤ 250)) (h_m_far : (AI 0 1000000000 m_far)) (h_m_way : (AI 0 22 m_way)) (h_m_steps : (0 ≤ m_steps ∧ m_steps ≤ 37)) (h_m_queue : (AI 0 35 m_queue)) (hA : (LaD x1_lineCount x1_goodsCount x1_workCount x1_years x1_lines x1_goods x1_works x1_change x1_coin m_lines m_line m_changes m_coins m_goods m_good m_works m_work m_years)) (hk : Kn (FrS x1_lineCount (ro 7 x1_lines) x1_change x1_coin (ro 3 x1_goods) x1_goodsCount (ro 5 x1_works) x1_workCount) x1_knownFree x1_isKnown) (eqA : fX6_coin (x0_refused, x0_isKept, x0_gone, x0_spent) (x1_lineCount, x1_goodsCount, x1_workCount, x1_years, x1_lines, x1_goods, x1_works, x1_change, x1_coin, x1_knownFree, x1_isKnown) p1 p2 = some (er, e0, e2, e3)) (eqB : fX7_coin (m_shelf, m_rowSort, m_rowSize, m_rows, m_moved, m_shown, m_tape, m_tapeSize, m_refused, m_lines, m_line, m_changes, m_coins, m_goods, m_good, m_works, m_work, m_years, m_gone, m_spent, m_at, m_token, m_from, m_figures, m_fault, m_numbers, m_statements, m_left, m_far, m_tons, m_way, m_steps, m_met, m_queue, m_totals) p1 p2 = some (fr, f0, f2)) : er = fr ∧ (LaD x1_lineCount x1_goodsCount x1_workCount x1_years x1_lines x1_goods x1_works x1_change e2 m_lines m_line m_changes f2 m_goods m_good m_works m_work m_years) ∧ Kn (FrS x1_lineCount (ro 7 x1_lines) x1_change e2 (ro 3 x1_goods) x1_goodsCount (ro 5 x1_works) x1_workCount) x1_knownFree e3 := by
  have a := coinC.at eqA
  have b := (coinR h_m_shelf h_m_rowSize h_m_tapeSize h_m_lines h_m_line h_m_changes h_m_coins h_m_goods h_m_good h_m_works h_m_work h_m_years h_m_from h_m_far h_m_way h_m_steps h_m_queue).at eqB
  obtain ⟨⟨z1, z2, z3, z4⟩, z5, z6, z7, z8, z9, z10⟩ := hA
  rcases AP_eq a b with ⟨⟨a0, a1, a2, a3⟩, b1, b2⟩ | ⟨e, ⟨a1, a2⟩, b1⟩
  · have a1 : er = x1_coin p1.toNatClampNeg := a1
    have b1 : fr = m_coins p1.toNatClampNeg := b1
    have a2 : e2 = va_up x1_coin p1.toNatClampNeg p2 := a2
    have b2 : f2 = va_up m_coins p1.toNatClampNeg p2 := b2
    have a3 : e3 = 0 := a3
    subst a2 b2 a3
    exact ⟨(a1.trans (z9 _ (i32_lt (M := 3) (N := 3) rfl ⟨a0.1, Int32.lt_of_le_of_lt a0.2 (by decide)⟩))).trans b1.symm, ⟨⟨z1, z2, z3, z4⟩, z5, z6, z7, z8, up_alike z9, z10⟩, Or.inl rfl⟩
  · have a1 : e2 = x1_coin := a1
    have a2 : e3 = x1_isKnown := a2
    have b1 : f2 = m_coins := b1
    subst a1 a2 b1
    exact ⟨e, ⟨⟨z1, z2, z3, z4⟩, z5, z6, z7, z8, z9, z10⟩, hk⟩
theorem yearsC {x0_refused : (Nat → Int32)} {x0_isKept : Int32} {x0_gone : Int32} {x0_spent : Int32} {x1_lineCount : Int32} {x1_goodsCount : Int32} {x1_workCount : Int32} {x1_years : Int32} {x1_lines : (Nat → Int32)} {x1_goods : (Nat → Int32)} {x1_works : (Nat → Int32)} {x1_change : (Nat → Int32)} {x1_coin : (Nat → Int32)} {x1_knownFree : (Nat → Int32)} {x1_isKnown : Int32} {p1 : Int32} : Sf (fX6_years (x0_refused, x0_isKept, x0_gone, x0_spent) (x1_lineCount, x1_goodsCount, x1_workCount, x1_years, x1_lines, x1_goods, x1_works, x1_change, x1_coin, x1_knownFree, x1_isKnown) p1) (fun r => AP (1 ≤ p1 ∧ p1 ≤ 30) r.1 (r.1 = x1_years ∧ r.2.2 = p1) (r.2.2 = x1_years)) := by
  unfold fX6_years
  dsimp only [u4, u11]
  refine Sf.bind sX6_within (fun v1 h1 => Sf.ite (fun hz => ?_) (fun hz => Sf.ok (Or.inl ⟨gd1 h1 hz, rfl, rfl⟩)))
  refine Sf.bind refC ?_
  rintro ⟨v, g⟩ e
  exact Sf.ok (Or.inr ⟨gd0 h1 hz, e, rfl⟩)
theorem yearsR {x0_shelf : (Nat → Int32)} {x0_rowSort : (Nat → Int32)} {x0_rowSize : (Nat → Int32)} {x0_rows : (Nat → Nat → Int64)} {x0_moved : (Nat → Int64)} {x0_shown : (Nat → Int32)} {x0_tape : (Nat → Int32)} {x0_tapeSize : Int32} {x0_refused : (Nat → Int32)} {x0_lines : Int32} {x0_line : (Nat → Nat → Int32)} {x0_changes : (Nat → Int32)} {x0_coins : (Nat → Int32)} {x0_goods : Int32} {x0_good : (Nat → Nat → Int32)} {x0_works : Int32} {x0_work : (Nat → Nat → Int32)} {x0_years : Int32} {x0_gone : Int32} {x0_spent : Int32} {x0_at : Int32} {x0_token : Int32} {x0_from : Int32} {x0_figures : Int64} {x0_fault : Int32} {x0_numbers : (Nat → Int32)} {x0_statements : Int32} {x0_left : (Nat → Int32)} {x0_far : (Nat → Int32)} {x0_tons : Int32} {x0_way : (Nat → Int32)} {x0_steps : Int32} {x0_met : Int64} {x0_queue : (Nat → Int32)} {x0_totals : (Nat → Int32)} {p1 : Int32} (h_x0_shelf : (AI 0 2 x0_shelf)) (h_x0_rowSize : (AI 0 40 x0_rowSize)) (h_x0_tapeSize : (0 ≤ x0_tapeSize ∧ x0_tapeSize ≤ 250)) (h_x0_lines : (0 ≤ x0_lines ∧ x0_lines ≤ 20)) (h_x0_line : (LnM x0_line)) (h_x0_changes : (AI 0 99 x0_changes)) (h_x0_coins : (AI 0 9 x0_coins)) (h_x0_goods : (0 ≤ x0_goods ∧ x0_goods ≤ 8)) (h_x0_good : (GdM x0_good)) (h_x0_works : (0 ≤ x0_works ∧ x0_works ≤ 7)) (h_x0_work : (WkM x0_work)) (h_x0_years : (1 ≤ x0_years ∧ x0_years ≤ 30)) (h_x0_from : (0 ≤ x0_from ∧ x0_from ≤ 250)) (h_x0_far : (AI 0 1000000000 x0_far)) (h_x0_way : (AI 0 22 x0_way)) (h_x0_steps : (0 ≤ x0_steps ∧ x0_steps ≤ 37)) (h_x0_queue : (AI 0 35 x0_queue)) : Sf (fX7_years (x0_shelf, x0_rowSort, x0_rowSize, x0_rows, x0_moved, x0_shown, x0_tape, x0_tapeSize, x0_refused, x0_lines, x0_line, x0_changes, x0_coins, x0_goods, x0_good, x0_works, x0_work, x0_years, x0_gone, x0_spent, x0_at, x0_token, x0_from, x0_figures, x0_fault, x0_numbers, x0_statements, x0_left, x0_far, x0_tons, x0_way, x0_steps, x0_met, x0_queue, x0_totals) p1) (fun r => AP (1 ≤ p1 ∧ p1 ≤ 30) r.1 (r.1 = x0_years ∧ r.2.2 = p1) (r.2.2 = x0_years)) := by
  unfold fX7_years
  dsimp only [u35]
  refine Sf.bind (s_inq p1 1 30 (by decide) (by decide)) (fun v1 h1 => Sf.ite (fun hz => ?_) (fun hz => Sf.ok (Or.inl ⟨gd1 h1 hz, rfl, rfl⟩)))
  refine Sf.bind (sX7_refuse h_x0_shelf h_x0_rowSize h_x0_tapeSize h_x0_lines h_x0_line h_x0_changes h_x0_coins h_x0_goods h_x0_good h_x0_works h_x0_work h_x0_years h_x0_from h_x0_far h_x0_way h_x0_steps h_x0_queue (by decide)) ?_
  rintro ⟨v, g⟩ e
  exact Sf.ok (Or.inr ⟨gd0 h1 hz, e, rfl⟩)
theorem dYears {x0_refused : (Nat → Int32)} {x0_isKept : Int32} {x0_gone : Int32} {x0_spent : Int32} {x1_lineCount : Int32} {x1_goodsCount : Int32} {x1_workCount : Int32} {x1_years : Int32} {x1_lines : (Nat → Int32)} {x1_goods : (Nat → Int32)} {x1_works : (Nat → Int32)} {x1_change : (Nat → Int32)} {x1_coin : (Nat → Int32)} {x1_knownFree : (Nat → Int32)} {x1_isKnown : Int32} {m_shelf : (Nat → Int32)} {m_rowSort : (Nat → Int32)} {m_rowSize : (Nat → Int32)} {m_rows : (Nat → Nat → Int64)} {m_moved : (Nat → Int64)} {m_shown : (Nat → Int32)} {m_tape : (Nat → Int32)} {m_tapeSize : Int32} {m_refused : (Nat → Int32)} {m_lines : Int32} {m_line : (Nat → Nat → Int32)} {m_changes : (Nat → Int32)} {m_coins : (Nat → Int32)} {m_goods : Int32} {m_good : (Nat → Nat → Int32)} {m_works : Int32} {m_work : (Nat → Nat → Int32)} {m_years : Int32} {m_gone : Int32} {m_spent : Int32} {m_at : Int32} {m_token : Int32} {m_from : Int32} {m_figures : Int64} {m_fault : Int32} {m_numbers : (Nat → Int32)} {m_statements : Int32} {m_left : (Nat → Int32)} {m_far : (Nat → Int32)} {m_tons : Int32} {m_way : (Nat → Int32)} {m_steps : Int32} {m_met : Int64} {m_queue : (Nat → Int32)} {m_totals : (Nat → Int32)} {p1 er e2 fr f2 : Int32} {e0 f0 : Nat → Int32} (h_x1_lineCount : (0 ≤ x1_lineCount ∧ x1_lineCount ≤ 20)) (h_x1_goodsCount : (0 ≤ x1_goodsCount ∧ x1_goodsCount ≤ 8)) (h_x1_workCount : (0 ≤ x1_workCount ∧ x1_workCount ≤ 7)) (h_x1_years : (1 ≤ x1_years ∧ x1_years ≤ 30)) (h_x1_lines : (LnOk x1_lines)) (h_x1_goods : (GdOk x1_goods)) (h_x1_works : (WkOk x1_works)) (h_x1_change : (AI 0 99 x1_change)) (h_x1_coin : (AI 0 9 x1_coin)) (h_m_shelf : (AI 0 2 m_shelf)) (h_m_rowSize : (AI 0 40 m_rowSize)) (h_m_tapeSize : (0 ≤ m_tapeSize ∧ m_tapeSize ≤ 250)) (h_m_lines : (0 ≤ m_lines ∧ m_lines ≤ 20)) (h_m_line : (LnM m_line)) (h_m_changes : (AI 0 99 m_changes)) (h_m_coins : (AI 0 9 m_coins)) (h_m_goods : (0 ≤ m_goods ∧ m_goods ≤ 8)) (h_m_good : (GdM m_good)) (h_m_works : (0 ≤ m_works ∧ m_works ≤ 7)) (h_m_work : (WkM m_work)) (h_m_years : (1 ≤ m_years ∧ m_years ≤ 30)) (h_m_from : (0 ≤ m_from ∧ m_from ≤ 250)) (h_m_far : (AI 0 1000000000 m_far)) (h_m_way : (AI 0 22 m_way)) (h_m_steps : (0 ≤ m_steps ∧ m_steps ≤ 37)) (h_m_queue : (AI 0 35 m_queue)) (hA : (LaD x1_lineCount x1_goodsCount x1_workCount x1_years x1_lines x1_goods x1_works x1_change x1_coin m_lines m_line m_changes m_coins m_goods m_good m_works m_work m_years)) (eqA : fX6_years (x0_refused, x0_isKept, x0_gone, x0_spent) (x1_lineCount, x1_goodsCount, x1_workCount, x1_years, x1_lines, x1_goods, x1_works, x1_change, x1_coin, x1_knownFree, x1_isKnown) p1 = some (er, e0, e2)) (eqB : fX7_years (m_shelf, m_rowSort, m_rowSize, m_rows, m_moved, m_shown, m_tape, m_tapeSize, m_refused, m_lines, m_line, m_changes, m_coins, m_goods, m_good, m_works, m_work, m_years, m_gone, m_spent, m_at, m_token, m_from, m_figures, m_fault, m_numbers, m_statements, m_left, m_far, m_tons, m_way, m_steps, m_met, m_queue, m_totals) p1 = some (fr, f0, f2)) : er = fr ∧ (LaD x1_lineCount x1_goodsCount x1_workCount e2 x1_lines x1_goods x1_works x1_change x1_coin m_lines m_line m_changes m_coins m_goods m_good m_works m_work f2) := by
  have a := yearsC.at eqA
  have b := (yearsR h_m_shelf h_m_rowSize h_m_tapeSize h_m_lines h_m_line h_m_changes h_m_coins h_m_goods h_m_good h_m_works h_m_work h_m_years h_m_from h_m_far h_m_way h_m_steps h_m_queue).at eqB
  obtain ⟨⟨z1, z2, z3, z4⟩, z5⟩ := hA
  rcases AP_eq a b with ⟨⟨a1, a2⟩, b1, b2⟩ | ⟨e, a1, b1⟩
  · have a1 : er = x1_years := a1
    have b1 : fr = m_years := b1
    have a2 : e2 = p1 := a2
    have b2 : f2 = p1 := b2
    exact ⟨by rw [a1, b1, z4], ⟨z1, z2, z3, by rw [a2, b2]⟩, z5⟩
  · have a1 : e2 = x1_years := a1
    have b1 : f2 = m_years := b1
    exact ⟨e, ⟨z1, z2, z3, by rw [a1, b1, z4]⟩, z5⟩

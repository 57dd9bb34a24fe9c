/-! the two lands stay alike: calls that put single things -/
theorem Sf.at {α : Type} {x : Option α} {P : α → Prop} {a : α} (h : Sf x P) (e : x = some a) : P a := by
  obtain ⟨b, e2, p⟩ := h
  rw [e] at e2
  cases e2
  exact p
def LaD (lc gc wc yr : Int32) (lines goods works chg coin : Nat → Int32) (L : Int32) (line : Nat → Nat → Int32) (ch co : Nat → Int32) (G : Int32) (good : Nat → Nat → Int32) (W : Int32) (work : Nat → Nat → Int32) (Y : Int32) : Prop :=
  (lc = L ∧ gc = G ∧ wc = W ∧ yr = Y) ∧ (∀ l, l < lc.toNatClampNeg → ∀ c, c < 7 → ro 7 lines l c = line l c) ∧ (∀ g, g < gc.toNatClampNeg → ∀ c, c < 3 → ro 3 goods g c = good g c) ∧ (∀ k, k < wc.toNatClampNeg → ∀ c, c < 5 → ro 5 works k c = work k c) ∧ (∀ p, p < 12 → chg p = ch p) ∧ (∀ w, w < 3 → coin w = co w) ∧ (∀ k, k < wc.toNatClampNeg → Wf1 (ro 5 works) lc k)
theorem gd0 {v a b x : Int32} (h : (v = 1 ∧ a ≤ x ∧ x ≤ b) ∨ (v = 0 ∧ (x < a ∨ b < x))) (hz : v = 0) : ¬ (a ≤ x ∧ x ≤ b) := by
  rintro ⟨h1, h2⟩
  rcases h with h | ⟨_, h | h⟩
  · rw [h.1] at hz; exact absurd hz (by decide)
  · exact Int32.not_lt.mpr h1 h
  · exact Int32.not_lt.mpr h2 h
theorem gd1 {v a b x : Int32} (h : (v = 1 ∧ a ≤ x ∧ x ≤ b) ∨ (v = 0 ∧ (x < a ∨ b < x))) (hz : ¬ v = 0) : a ≤ x ∧ x ≤ b := by
  rcases h with h | h
  · exact h.2
  · exact absurd h.1 hz
def AQ (V full : Prop) (a : Int32) (S O : Prop) : Prop := (V ∧ ¬ full ∧ S) ∨ (V ∧ full ∧ a = -6 ∧ O) ∨ (¬ V ∧ a = -2 ∧ O)
theorem AQ_eq {V full full' S O S' O' : Prop} {a a' : Int32} (hf : full ↔ full') (h : AQ V full a S O) (h' : AQ V full' a' S' O') : (S ∧ S') ∨ (a = a' ∧ O ∧ O') := by
  rcases h with ⟨v, f, s⟩ | ⟨v, f, e, o⟩ | ⟨v, e, o⟩ <;> rcases h' with ⟨v', f', s'⟩ | ⟨v', f', e', o'⟩ | ⟨v', e', o'⟩
  · exact Or.inl ⟨s, s'⟩
  · exact absurd (hf.mpr f') f
  · exact absurd v v'
  · exact absurd (hf.mp f) f'
  · exact Or.inr ⟨by rw [e, e'], o, o'⟩
  · exact absurd v v'
  · exact absurd v' v
  · exact absurd v' v
  · exact Or.inr ⟨by rw [e, e'], o, o'⟩
/-- a row is laid at L -/
def AddR (m : Nat) (f f' : Nat → Nat → Int32) (L : Nat) (row : List Int32) : Prop := (∀ l, l ≠ L → ∀ c, c < m → f' l c = f l c) ∧ ∀ c, c < m → f' L c = row.getD c 0
theorem AddR.alike {m : Nat} {f f' g g' : Nat → Nat → Int32} {z : Int32} {row : List Int32} (hz : 0 ≤ z) (h1 : ¬ (20 : Int32) ≤ z) (a : AddR m f f' z.toNatClampNeg row) (b : AddR m g g' z.toNatClampNeg row) (h : ∀ l, l < z.toNatClampNeg → ∀ c, c < m → f l c = g l c) : ∀ l, l < (z + 1).toNatClampNeg → ∀ c, c < m → f' l c = g' l c := by
  intro l hl c hc
  rw [(up1 hz (B := 20) (by decide) h1).2.1] at hl
  by_cases e : l = z.toNatClampNeg
  · rw [e, a.2 c hc, b.2 c hc]
  · rw [a.1 l e c hc, b.1 l e c hc]
    exact h l (by omega) c hc
theorem refC {x0_refused : (Nat → Int32)} {x0_isKept : Int32} {x0_gone : Int32} {x0_spent : Int32} {p : Int32} : Sf (fX6_refuse (x0_refused, x0_isKept, x0_gone, x0_spent) p) (fun r => r.1 = p) := by
  obtain ⟨r, e, _⟩ := sX6_refuse (x0_refused := x0_refused) (x0_isKept := x0_isKept) (x0_gone := x0_gone) (x0_spent := x0_spent) (p1 := p)
  exact ⟨r, e, vX6_refuse e⟩
def VLine (p1 p2 p3 p4 p5 p6 : Int32) : Prop := (0 ≤ p1 ∧ p1 ≤ 11) ∧ (0 ≤ p2 ∧ p2 ≤ 11) ∧ p1 ≠ p2 ∧ (1 ≤ p3 ∧ p3 ≤ 7) ∧ (1 ≤ p4 ∧ p4 ≤ 60) ∧ (1 ≤ p5 ∧ p5 ≤ 999) ∧ (0 ≤ p6 ∧ p6 ≤ 5)
theorem lineC {x0_refused : (Nat → Int32)} {x0_isKept : Int32} {x0_gone : Int32} {x0_spent : Int32} {x1_lineCount : Int32} {x1_goodsCount : Int32} {x1_workCount : Int32} {x1_years : Int32} {x1_lines : (Nat → Int32)} {x1_goods : (Nat → Int32)} {x1_works : (Nat → Int32)} {x1_change : (Nat → Int32)} {x1_coin : (Nat → Int32)} {x1_knownFree : (Nat → Int32)} {x1_isKnown : Int32} {p1 p2 p3 p4 p5 p6 : Int32} (h_x1_lineCount : 0 ≤ x1_lineCount ∧ x1_lineCount ≤ 20) : Sf (fX6_line (x0_refused, x0_isKept, x0_gone, x0_spent) (x1_lineCount, x1_goodsCount, x1_workCount, x1_years, x1_lines, x1_goods, x1_works, x1_change, x1_coin, x1_knownFree, x1_isKnown) p1 p2 p3 p4 p5 p6) (fun r => AQ (VLine p1 p2 p3 p4 p5 p6) (20 ≤ x1_lineCount) r.1 (r.1 = x1_lineCount ∧ r.2.2.1 = x1_lineCount + 1 ∧ r.2.2.2.2 = 0 ∧ AddR 7 (ro 7 x1_lines) (ro 7 r.2.2.2.1) x1_lineCount.toNatClampNeg [p1, p2, p3, p4, p5, p6, 0]) (r.2.2.1 = x1_lineCount ∧ r.2.2.2.1 = x1_lines ∧ r.2.2.2.2 = x1_isKnown)) := by
  unfold fX6_line
  dsimp only [u4, u11]
  have no : ¬ VLine p1 p2 p3 p4 p5 p6 → Sf ((fX6_refuse (x0_refused, x0_isKept, x0_gone, x0_spent) (-2)).bind (u2 fun v g => some (v, g, x1_lineCount, x1_lines, x1_isKnown))) (fun r => AQ (VLine p1 p2 p3 p4 p5 p6) (20 ≤ x1_lineCount) r.1 (r.1 = x1_lineCount ∧ r.2.2.1 = x1_lineCount + 1 ∧ r.2.2.2.2 = 0 ∧ AddR 7 (ro 7 x1_lines) (ro 7 r.2.2.2.1) x1_lineCount.toNatClampNeg [p1, p2, p3, p4, p5, p6, 0]) (r.2.2.1 = x1_lineCount ∧ r.2.2.2.1 = x1_lines ∧ r.2.2.2.2 = x1_isKnown)) := by
    intro hV
    refine Sf.bind refC ?_
    rintro ⟨v, g⟩ e
    exact Sf.ok (Or.inr (Or.inr ⟨hV, e, rfl, rfl, rfl⟩))
  refine Sf.bind sX6_isPlace (fun v1 h1 => Sf.ite (fun hz => no (fun V => gd0 h1 hz V.1)) (fun hz => ?_))
  have c1 := gd1 h1 hz
  refine Sf.bind sX6_isPlace (fun v6 h6 => Sf.ite (fun hz => no (fun V => gd0 h6 hz V.2.1)) (fun hz => ?_))
  have c2 := gd1 h6 hz
  refine Sf.ite (fun hz => no (fun V => V.2.2.1 hz)) (fun c3 => ?_)
  refine Sf.bind sX6_within (fun v14 h14 => Sf.ite (fun hz => no (fun V => gd0 h14 hz V.2.2.2.1)) (fun hz => ?_))
  have c4 := gd1 h14 hz
  refine Sf.bind sX6_within (fun v19 h19 => Sf.ite (fun hz => no (fun V => gd0 h19 hz V.2.2.2.2.1)) (fun hz => ?_))
  have c5 := gd1 h19 hz
  refine Sf.bind sX6_within (fun v24 h24 => Sf.ite (fun hz => no (fun V => gd0 h24 hz V.2.2.2.2.2.1)) (fun hz => ?_))
  have c6 := gd1 h24 hz
  refine Sf.bind sX6_within (fun v29 h29 => Sf.ite (fun hz => no (fun V => gd0 h29 hz V.2.2.2.2.2.2)) (fun hz => ?_))
  have c7 := gd1 h29 hz
  have V : VLine p1 p2 p3 p4 p5 p6 := ⟨c1, c2, c3, c4, c5, c6, c7⟩
  refine Sf.ite (fun hl => ?_) (fun hl => ?_)
  · refine Sf.bind (addLineS h_x1_lineCount) ?_
    rintro ⟨g31, g32, g33⟩ h
    rcases h with ⟨h, _⟩ | ⟨_, e1, e2, e3, e4⟩
    · exact absurd hl (Int32.not_lt.mpr h)
    · have e1 : g31 = x1_lineCount + 1 := e1
      have e2 : g33 = 0 := e2
      have e3 : ∀ l c, c < 7 → l ≠ x1_lineCount.toNatClampNeg → g32 (7 * l + c) = x1_lines (7 * l + c) := e3
      have e4 : ∀ c, c < 7 → g32 (7 * x1_lineCount.toNatClampNeg + c) = ([p1, p2, p3, p4, p5, p6, 0] : List Int32).getD c 0 := e4
      refine Sf.ok (Or.inl ⟨V, Int32.not_le.mpr hl, ?_, e1, e2, fun l hl' c hc => ?_, fun c hc => ?_⟩)
      · show g31 - 1 = x1_lineCount
        rw [e1]
        grind
      · show ro 7 g32 l c = ro 7 x1_lines l c
        rw [ro_eq hc, ro_eq hc]
        exact e3 l c hc hl'
      · show ro 7 g32 _ c = _
        rw [ro_eq hc]
        exact e4 c hc
  · refine Sf.bind refC ?_
    rintro ⟨v, g⟩ e
    exact Sf.ok (Or.inr (Or.inl ⟨V, Int32.not_lt.mp hl, e, rfl, rfl, rfl⟩))
theorem lineR {x0_shelf : (Nat → Int32)} {x0_rowSort : (Nat → Int32)} {x0_rowSize : (Nat → Int32)} {x0_rows : (Nat → Nat → Int64)} {x0_moved : (Nat → Int64)} {x0_shown : (Nat → Int32)} {x0_tape : (Nat → Int32)} {x0_tapeSize : Int32} {x0_refused : (Nat → Int32)} {x0_lines : Int32} {x0_line : (Nat → Nat → Int32)} {x0_changes : (Nat → Int32)} {x0_coins : (Nat → Int32)} {x0_goods : Int32} {x0_good : (Nat → Nat → Int32)} {x0_works : Int32} {x0_work : (Nat → Nat → Int32)} {x0_years : Int32} {x0_gone : Int32} {x0_spent : Int32} {x0_at : Int32} {x0_token : Int32} {x0_from : Int32} {x0_figures : Int64} {x0_fault : Int32} {x0_numbers : (Nat → Int32)} {x0_statements : Int32} {x0_left : (Nat → Int32)} {x0_far : (Nat → Int32)} {x0_tons : Int32} {x0_way : (Nat → Int32)} {x0_steps : Int32} {x0_met : Int64} {x0_queue : (Nat → Int32)} {x0_totals : (Nat → Int32)} {p1 p2 p3 p4 p5 p6 : Int32} (h_x0_shelf : (AI 0 2 x0_shelf)) (h_x0_rowSize : (AI 0 40 x0_rowSize)) (h_x0_tapeSize : (0 ≤ x0_tapeSize ∧ x0_tapeSize ≤ 250)) (h_x0_lines : (0 ≤ x0_lines ∧ x0_lines ≤ 20)) (h_x0_line : (LnM x0_line)) (h_x0_changes : (AI 0 99 x0_changes)) (h_x0_coins : (AI 0 9 x0_coins)) (h_x0_goods : (0 ≤ x0_goods ∧ x0_goods ≤ 8)) (h_x0_good : (GdM x0_good)) (h_x0_works : (0 ≤ x0_works ∧ x0_works ≤ 7)) (h_x0_work : (WkM x0_work)) (h_x0_years : (1 ≤ x0_years ∧ x0_years ≤ 30)) (h_x0_from : (0 ≤ x0_from ∧ x0_from ≤ 250)) (h_x0_far : (AI 0 1000000000 x0_far)) (h_x0_way : (AI 0 22 x0_way)) (h_x0_steps : (0 ≤ x0_steps ∧ x0_steps ≤ 37)) (h_x0_queue : (AI 0 35 x0_queue)) : Sf (fX7_line (x0_shelf, x0_rowSort, x0_rowSize, x0_rows, x0_moved, x0_shown, x0_tape, x0_tapeSize, x0_refused, x0_lines, x0_line, x0_changes, x0_coins, x0_goods, x0_good, x0_works, x0_work, x0_years, x0_gone, x0_spent, x0_at, x0_token, x0_from, x0_figures, x0_fault, x0_numbers, x0_statements, x0_left, x0_far, x0_tons, x0_way, x0_steps, x0_met, x0_queue, x0_totals) p1 p2 p3 p4 p5 p6) (fun r => AQ (VLine p1 p2 p3 p4 p5 p6) (20 ≤ x0_lines) r.1 (r.1 = x0_lines ∧ r.2.2.1 = x0_lines + 1 ∧ AddR 7 x0_line r.2.2.2 x0_lines.toNatClampNeg [p1, p2, p3, p4, p5, p6, 0]) (r.2.2.1 = x0_lines ∧ r.2.2.2 = x0_line)) := by
  unfold fX7_line
  dsimp only [u35]
  have no : ¬ VLine p1 p2 p3 p4 p5 p6 → Sf ((fX7_refuse (x0_shelf, x0_rowSort, x0_rowSize, x0_rows, x0_moved, x0_shown, x0_tape, x0_tapeSize, x0_refused, x0_lines, x0_line, x0_changes, x0_coins, x0_goods, x0_good, x0_works, x0_work, x0_years, x0_gone, x0_spent, x0_at, x0_token, x0_from, x0_figures, x0_fault, x0_numbers, x0_statements, x0_left, x0_far, x0_tons, x0_way, x0_steps, x0_met, x0_queue, x0_totals) (-2)).bind (u2 fun v g => some (v, g, x0_lines, x0_line))) (fun r => AQ (VLine p1 p2 p3 p4 p5 p6) (20 ≤ x0_lines) r.1 (r.1 = x0_lines ∧ r.2.2.1 = x0_lines + 1 ∧ AddR 7 x0_line r.2.2.2 x0_lines.toNatClampNeg [p1, p2, p3, p4, p5, p6, 0]) (r.2.2.1 = x0_lines ∧ r.2.2.2 = x0_line)) := by
    intro hV
    refine Sf.bind (sX7_refuse h_x0_shelf h_x0_rowSize h_x0_tapeSize h_x0_lines h_x0_line h_x0_changes h_x0_coins h_x0_goods h_x0_good h_x0_works h_x0_work h_x0_years h_x0_from h_x0_far h_x0_way h_x0_steps h_x0_queue (by decide)) ?_
    rintro ⟨v, g⟩ e
    exact Sf.ok (Or.inr (Or.inr ⟨hV, e, rfl, rfl⟩))
  have no2 : ¬ VLine p1 p2 p3 p4 p5 p6 → Sf (fX7_line_j48 p1 p2 p3 p4 p5 p6 x0_shelf x0_rowSort x0_rowSize x0_rows x0_moved x0_shown x0_tape x0_tapeSize x0_refused x0_lines x0_line x0_changes x0_coins x0_goods x0_good x0_works x0_work x0_years x0_gone x0_spent x0_at x0_token x0_from x0_figures x0_fault x0_numbers x0_statements x0_left x0_far x0_tons x0_way x0_steps x0_met x0_queue x0_totals) (fun r => AQ (VLine p1 p2 p3 p4 p5 p6) (20 ≤ x0_lines) r.1 (r.1 = x0_lines ∧ r.2.2.1 = x0_lines + 1 ∧ AddR 7 x0_line r.2.2.2 x0_lines.toNatClampNeg [p1, p2, p3, p4, p5, p6, 0]) (r.2.2.1 = x0_lines ∧ r.2.2.2 = x0_line)) := by
    intro hV
    unfold fX7_line_j48 fX7_line_j49
    rw [if_pos rfl]
    exact no hV
  refine Sf.bind sX7_isPlace (fun v1 h1 => Sf.ite (fun hz => no2 (fun V => gd0 h1 hz V.1)) (fun hz => ?_))
  have c1 := gd1 h1 hz
  refine Sf.bind sX7_isPlace (fun v6 h6 => Sf.ite (fun hz => no2 (fun V => gd0 h6 hz V.2.1)) (fun hz => ?_))
  have c2 := gd1 h6 hz
  refine Sf.ite (fun hz => no2 (fun V => V.2.2.1 hz)) (fun c3 => ?_)
  refine Sf.bind (s_inq p3 1 7 (by decide) (by decide)) (fun v14 h14 => Sf.ite (fun hz => no2 (fun V => gd0 h14 hz V.2.2.2.1)) (fun hz => ?_))
  have c4 := gd1 h14 hz
  refine Sf.bind (s_inq p4 1 60 (by decide) (by decide)) (fun v19 h19 => Sf.ite (fun hz => no2 (fun V => gd0 h19 hz V.2.2.2.2.1)) (fun hz => ?_))
  have c5 := gd1 h19 hz
  unfold fX7_line_j49
  rw [if_neg (by decide)]
  refine Sf.bind (s_inq p5 1 999 (by decide) (by decide)) (fun v24 h24 => Sf.ite (fun hz => no (fun V => gd0 h24 hz V.2.2.2.2.2.1)) (fun hz => ?_))
  have c6 := gd1 h24 hz
  refine Sf.bind (s_inq p6 0 5 (by decide) (by decide)) (fun v29 h29 => Sf.ite (fun hz => no (fun V => gd0 h29 hz V.2.2.2.2.2.2)) (fun hz => ?_))
  have c7 := gd1 h29 hz
  have V : VLine p1 p2 p3 p4 p5 p6 := ⟨c1, c2, c3, c4, c5, c6, c7⟩
  refine Sf.ite (fun hl => ?_) (fun hl => ?_)
  · refine Sf.bind (sX7_refuse h_x0_shelf h_x0_rowSize h_x0_tapeSize h_x0_lines h_x0_line h_x0_changes h_x0_coins h_x0_goods h_x0_good h_x0_works h_x0_work h_x0_years h_x0_from h_x0_far h_x0_way h_x0_steps h_x0_queue (by decide)) ?_
    rintro ⟨v, g⟩ e
    exact Sf.ok (Or.inr (Or.inl ⟨V, by rw [hl]; decide, e, rfl, rfl⟩))
  · have hL : 0 ≤ x0_lines ∧ x0_lines < 20 := ⟨h_x0_lines.1, by clear no no2; grind⟩
    refine Sf.bind (newLineS hL) ?_
    rintro g14 ⟨hg1, hg2⟩
    refine Sf.ckb 20 rfl hL (fun q16 e16 _ => ?_)
    refine Sf.wrb 7 rfl (by decide) (fun f17 e17 => ?_)
    refine Sf.ckb 20 rfl hL (fun q18 e18 _ => ?_)
    rw [e18, e16]
    rw [e16] at e17
    refine Sf.wrb 7 rfl (by decide) (fun f19 e19 => ?_)
    rw [va_eq] at e19
    refine Sf.ckb 20 rfl hL (fun q20 e20 _ => ?_)
    rw [e20]
    refine Sf.wrb 7 rfl (by decide) (fun f21 e21 => ?_)
    rw [va_eq] at e21
    refine Sf.ckb 20 rfl hL (fun q22 e22 _ => ?_)
    rw [e22]
    refine Sf.wrb 7 rfl (by decide) (fun f23 e23 => ?_)
    rw [va_eq] at e23
    refine Sf.ok (Or.inl ⟨V, Int32.not_le.mpr hL.2, rfl, rfl, fun l hl' c hc => ?_, fun c hc => ?_⟩)
    · show va_up (va_up (va_up (va_up g14 _ f17) _ f19) _ f21) _ f23 l c = _
      rw [va_ne _ _ hl', va_ne _ _ hl', va_ne _ _ hl', va_ne _ _ hl', hg1 l hl']
    · show va_up (va_up (va_up (va_up g14 _ f17) _ f19) _ f21) _ f23 _ c = _
      rw [va_eq, e23, e21, e19, e17]
      rcases (show c = 0 ∨ c = 1 ∨ c = 2 ∨ c = 3 ∨ c = 4 ∨ c = 5 ∨ c = 6 by omega) with rfl | rfl | rfl | rfl | rfl | rfl | rfl
      · exact hg2 0 (by decide)
      · exact hg2 1 (by decide)
      · rfl
      · rfl
      · rfl
      · rfl
      · exact hg2 6 (by decide)
theorem dLine {x0_refused : (Nat → Int32)} {x0_isKept : Int32} {x0_gone : Int32} {x0_spent : Int32} {x1_lineCount : Int32} {x1_goodsCount : Int32} {x1_workCount : Int32} {x1_years : Int32} {x1_lines : (Nat → Int32)} {x1_goods : (Nat → Int32)} {x1_works : (Nat → Int32)} {x1_change : (Nat → Int32)} {x1_coin : (Nat → Int32)} {x1_knownFree : (Nat → Int32)} {x1_isKnown : Int32} {m_shelf : (Nat → Int32)} {m_rowSort : (Nat → Int32)} {m_rowSize : (Nat → Int32)} {m_rows : (Nat → Nat → Int64)} {m_moved : (Nat → Int64)} {m_shown : (Nat → Int32)} {m_tape : (Nat → Int32)} {m_tapeSize : Int32} {m_refused : (Nat → Int32)} {m_lines : Int32} {m_line : (Nat → Nat → Int32)} {m_changes : (Nat → Int32)} {m_coins : (Nat → Int32)} {m_goods : Int32} {m_good : (Nat → Nat → Int32)} {m_works : Int32} {m_work : (Nat → Nat → Int32)} {m_years : Int32} {m_gone : Int32} {m_spent : Int32} {m_at : Int32} {m_token : Int32} {m_from : Int32} {m_figures : Int64} {m_fault : Int32} {m_numbers : (Nat → Int32)} {m_statements : Int32} {m_left : (Nat → Int32)} {m_far : (Nat → Int32)} {m_tons : Int32} {m_way : (Nat → Int32)} {m_steps : Int32} {m_met : Int64} {m_queue : (Nat → Int32)} {m_totals : (Nat → Int32)} {p1 p2 p3 p4 p5 p6 er e1 e3 fr f1 : Int32} {e0 e2 f0 : Nat → Int32} {f2 : Nat → Nat → Int32} (h_x1_lineCount : (0 ≤ x1_lineCount ∧ x1_lineCount ≤ 20)) (h_x1_goodsCount : (0 ≤ x1_goodsCount ∧ x1_goodsCount ≤ 8)) (h_x1_workCount : (0 ≤ x1_workCount ∧ x1_workCount ≤ 7)) (h_x1_years : (1 ≤ x1_years ∧ x1_years ≤ 30)) (h_x1_lines : (LnOk x1_lines)) (h_x1_goods : (GdOk x1_goods)) (h_x1_works : (WkOk x1_works)) (h_x1_change : (AI 0 99 x1_change)) (h_x1_coin : (AI 0 9 x1_coin)) (h_m_shelf : (AI 0 2 m_shelf)) (h_m_rowSize : (AI 0 40 m_rowSize)) (h_m_tapeSize : (0 ≤ m_tapeSize ∧ m_tapeSize ≤ 250)) (h_m_lines : (0 ≤ m_lines ∧ m_lines ≤ 20)) (h_m_line : (LnM m_line)) (h_m_changes : (AI 0 99 m_changes)) (h_m_coins : (AI 0 9 m_coins)) (h_m_goods : (0 ≤ m_goods ∧ m_goods ≤ 8)) (h_m_good : (GdM m_good)) (h_m_works : (0 ≤ m_works ∧ m_works ≤ 7)) (h_m_work : (WkM m_work)) (h_m_years : (1 ≤ m_years ∧ m_years ≤ 30)) (h_m_from : (0 ≤ m_from ∧ m_from ≤ 250)) (h_m_far : (AI 0 1000000000 m_far)) (h_m_way : (AI 0 22 m_way)) (h_m_steps : (0 ≤ m_steps ∧ m_steps ≤ 37)) (h_m_queue : (AI 0 35 m_queue)) (hA : (LaD x1_lineCount x1_goodsCount x1_workCount x1_years x1_lines x1_goods x1_works x1_change x1_coin m_lines m_line m_changes m_coins m_goods m_good m_works m_work m_years)) (hk : Kn (FrS x1_lineCount (ro 7 x1_lines) x1_change x1_coin (ro 3 x1_goods) x1_goodsCount (ro 5 x1_works) x1_workCount) x1_knownFree x1_isKnown) (eqA : fX6_line (x0_refused, x0_isKept, x0_gone, x0_spent) (x1_lineCount, x1_goodsCount, x1_workCount, x1_years, x1_lines, x1_goods, x1_works, x1_change, x1_coin, x1_knownFree, x1_isKnown) p1 p2 p3 p4 p5 p6 = some (er, e0, e1, e2, e3)) (eqB : fX7_line (m_shelf, m_rowSort, m_rowSize, m_rows, m_moved, m_shown, m_tape, m_tapeSize, m_refused, m_lines, m_line, m_changes, m_coins, m_goods, m_good, m_works, m_work, m_years, m_gone, m_spent, m_at, m_token, m_from, m_figures, m_fault, m_numbers, m_statements, m_left, m_far, m_tons, m_way, m_steps, m_met, m_queue, m_totals) p1 p2 p3 p4 p5 p6 = some (fr, f0, f1, f2)) : er = fr ∧ (LaD e1 x1_goodsCount x1_workCount x1_years e2 x1_goods x1_works x1_change x1_coin f1 f2 m_changes m_coins m_goods m_good m_works m_work m_years) ∧ Kn (FrS e1 (ro 7 e2) x1_change x1_coin (ro 3 x1_goods) x1_goodsCount (ro 5 x1_works) x1_workCount) x1_knownFree e3 := by
  have a := (lineC h_x1_lineCount).at eqA
  have b := (lineR h_m_shelf h_m_rowSize h_m_tapeSize h_m_lines h_m_line h_m_changes h_m_coins h_m_goods h_m_good h_m_works h_m_work h_m_years h_m_from h_m_far h_m_way h_m_steps h_m_queue).at eqB
  obtain ⟨⟨z1, z2, z3, z4⟩, z5, z6, z7, z8, z9, z10⟩ := hA
  subst z1
  rcases AQ_eq Iff.rfl a b with ⟨⟨a1, a2, a3, a4⟩, b1, b2, b3⟩ | ⟨e, ⟨a1, a2, a3⟩, b1, b2⟩
  · have a2 : e1 = x1_lineCount + 1 := a2
    have b2 : f1 = x1_lineCount + 1 := b2
    have a3 : e3 = 0 := a3
    have hlt : ¬ (20 : Int32) ≤ x1_lineCount := by
      rcases a with ⟨_, h, _⟩ | ⟨_, _, h, _, _⟩ | ⟨_, h, _⟩
      · exact h
      · have h : er = -6 := h
        have a1 : er = x1_lineCount := a1
        rw [a1] at h
        exact absurd h_x1_lineCount.1 (by rw [h]; decide)
      · have h : er = -2 := h
        have a1 : er = x1_lineCount := a1
        rw [a1] at h
        exact absurd h_x1_lineCount.1 (by rw [h]; decide)
    subst a2 b2 a3
    exact ⟨a1.trans b1.symm, ⟨⟨rfl, z2, z3, z4⟩, AddR.alike h_x1_lineCount.1 hlt a4 b3 z5, z6, z7, z8, z9, fun k hk' => (z10 k hk').mono (by clear a b a1 a4 b1 b3 z5 z6 z7 z8 z9 z10 hk; grind)⟩, Or.inl rfl⟩
  · have a1 : e1 = x1_lineCount := a1
    have a2 : e2 = x1_lines := a2
    have a3 : e3 = x1_isKnown := a3
    have b1 : f1 = x1_lineCount := b1
    have b2 : f2 = m_line := b2
    subst a1 a2 a3 b2
    exact ⟨e, ⟨⟨b1.symm, z2, z3, z4⟩, z5, z6, z7, z8, z9, z10⟩, hk⟩

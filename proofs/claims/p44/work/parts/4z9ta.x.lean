section
/-! the two lands stay alike: calls that put single things -/
theorem Sf.at {α : Type} {x : Option α} {P : α → Prop} {a : α} (h : Sf x P) (e : x = some a) : P a := by
  obtain ⟨b, e2, p⟩ := h
  rw [e] at e2
  cases e2
  exact p
def LaD (lc gc wc yr : Int32) (lines goods works chg coin : Nat → Int32) (L : Int32) (line : Nat → Nat → Int32) (ch co : Nat → Int32) (G : Int32) (good : Nat → Nat → Int32) (W : Int32) (work : Nat → Nat → Int32) (Y : Int32) : Prop :=
  (lc = L ∧ gc = G ∧ wc = W ∧ yr = Y) ∧ (∀ l, l < lc.toNatClampNeg → ∀ c, c < 7 → ro 7 lines l c = line l c) ∧ (∀ g, g < gc.toNatClampNeg → ∀ c, c < 3 → ro 3 goods g c = good g c) ∧ (∀ k, k < wc.toNatClampNeg → ∀ c, c < 5 → ro 5 works k c = work k c) ∧ (∀ p, p < 12 → chg p = ch p) ∧ (∀ w, w < 3 → coin w = co w) ∧ (∀ k, k < wc.toNatClampNeg → Wf1 (ro 5 works) lc k)
theorem gd0 {v a b x : Int32} (h : (v = 1 ∧ a ≤ x ∧ x ≤ b) ∨ (v = 0 ∧ (x < a ∨ b < x))) (hz : v = 0) : ¬ (a ≤ x ∧ x ≤ b) := by
  rintro ⟨h1, h2⟩
  rcases h with h | ⟨_, h | h⟩
  · rw [h.1] at hz; exact absurd hz (by decide)
  · exact Int32.not_lt.mpr h1 h
  · exact Int32.not_lt.mpr h2 h
theorem gd1 {v a b x : Int32} (h : (v = 1 ∧ a ≤ x ∧ x ≤ b) ∨ (v = 0 ∧ (x < a ∨ b < x))) (hz : ¬ v = 0) : a ≤ x ∧ x ≤ b := by
  rcases h with h | h
  · exact h.2
  · exact absurd h.1 hz
def AQ (V full : Prop) (a : Int32) (S O : Prop) : Prop := (V ∧ ¬ full ∧ S) ∨ (V ∧ full ∧ a = -6 ∧ O) ∨ (¬ V ∧ a = -2 ∧ O)
theorem AQ_eq {V full full' S O S' O' : Prop} {a a' : Int32} (hf : full ↔ full') (h : AQ V full a S O) (h' : AQ V full' a' S' O') : (S ∧ S') ∨ (a = a' ∧ O ∧ O') := by
  rcases h with ⟨v, f, s⟩ | ⟨v, f, e, o⟩ | ⟨v, e, o⟩ <;> rcases h' with ⟨v', f', s'⟩ | ⟨v', f', e', o'⟩ | ⟨v', e', o'⟩
  · exact Or.inl ⟨s, s'⟩
  · exact absurd (hf.mpr f') f
  · exact absurd v v'
  · exact absurd (hf.mp f) f'
  · exact Or.inr ⟨by rw [e, e'], o, o'⟩
  · exact absurd v v'
  · exact absurd v' v
  · exact absurd v' v
  · exact Or.inr ⟨by rw [e, e'], o, o'⟩
/-- a row is laid at L -/
def AddR (m : Nat) (f f' : Nat → Nat → Int32) (L : Nat) (row : List Int32) : Prop := (∀ l, l ≠ L → ∀ c, c < m → f' l c = f l c) ∧ ∀ c, c < m → f' L c = row.getD c 0
theorem AddR.alike {m : Nat} {f f' g g' : Nat → Nat → Int32} {z : Int32} {row : List Int32} (hz : 0 ≤ z) (h1 : ¬ (20 : Int32) ≤ z) (a : AddR m f f' z.toNatClampNeg row) (b : AddR m g g' z.toNatClampNeg row) (h : ∀ l, l < z.toNatClampNeg → ∀ c, c < m → f l c = g l c) : ∀ l, l < (z + 1).toNatClampNeg → ∀ c, c < m → f' l c = g' l c := by
  intro l hl c hc
  rw [(up1 hz (B := 20) (by decide) h1).2.1] at hl
  by_cases e : l = z.toNatClampNeg
  · rw [e, a.2 c hc, b.2 c hc]
  · rw [a.1 l e c hc, b.1 l e c hc]
    exact h l (by omega) c hc
theorem refC {x0_refused : (Nat → Int32)} {x0_isKept : Int32} {x0_gone : Int32} {x0_spent : Int32} {p : Int32} : Sf (fX6_refuse (x0_refused, x0_isKept, x0_gone, x0_spent) p) (fun r => r.1 = p) := by
  obtain ⟨r, e, _⟩ := sX6_refuse (x0_refused := x0_refused) (x0_isKept := x0_isKept) (x0_gone := x0_gone) (x0_spent := x0_spent) (p1 := p)
  exact ⟨r, e, vX6_refuse e⟩
def VLine (p1 p2 p3 p4 p5 p6 : Int32) : Prop := (0 ≤ p1 ∧ p1 ≤ 11) ∧ (0 ≤ p2 ∧ p2 ≤ 11) ∧ p1 ≠ p2 ∧ (1 ≤ p3 ∧ p3 ≤ 7) ∧ (1 ≤ p4 ∧ p4 ≤ 60) ∧ (1 ≤ p5 ∧ p5 ≤ 999) ∧ (0 ≤ p6 ∧ p6 ≤ 5)
theorem lineC {x0_refused : (Nat → Int32)} {x0_isKept : Int32} {x0_gone : Int32} {x0_spent : Int32} {x1_lineCount : Int32} {x1_goodsCount : Int32} {x1_workCount : Int32} {x1_years : Int32} {x1_lines : (Nat → Int32)} {x1_goods : (Nat → Int32)} {x1_works : (Nat → Int32)} {x1_change : (Nat → Int32)} {x1_coin : (Nat → Int32)} {x1_knownFree : (Nat → Int32)} {x1_isKnown : Int32} {p1 p2 p3 p4 p5 p6 : Int32} (h_x1_lineCount : 0 ≤ x1_lineCount ∧ x1_lineCount ≤ 20) : Sf (fX6_line (x0_refused, x0_isKept, x0_gone, x0_spent) (x1_lineCount, x1_goodsCount, x1_workCount, x1_years, x1_lines, x1_goods, x1_works, x1_change, x1_coin, x1_knownFree, x1_isKnown) p1 p2 p3 p4 p5 p6) (fun r => AQ (VLine p1 p2 p3 p4 p5 p6) (20 ≤ x1_lineCount) r.1 (r.1 = x1_lineCount ∧ r.2.2.1 = x1_lineCount + 1 ∧ r.2.2.2.2 = 0 ∧ AddR 7 (ro 7 x1_lines) (ro 7 r.2.2.2.1) x1_lineCount.toNatClampNeg [p1, p2, p3, p4, p5, p6, 0]) (r.2.2.1 = x1_lineCount ∧ r.2.2.2.1 = x1_lines ∧ r.2.2.2.2 = x1_isKnown)) := by
  unfold fX6_line
  dsimp only [u4, u11]
  have no : ¬ VLine p1 p2 p3 p4 p5 p6 → Sf ((fX6_refuse (x0_refused, x0_isKept, x0_gone, x0_spent) (-2)).bind (u2 fun v g => some (v, g, x1_lineCount, x1_lines, x1_isKnown))) (fun r => AQ (VLine p1 p2 p3 p4 p5 p6) (20 ≤ x1_lineCount) r.1 (r.1 = x1_lineCount ∧ r.2.2.1 = x1_lineCount + 1 ∧ r.2.2.2.2 = 0 ∧ AddR 7 (ro 7 x1_lines) (ro 7 r.2.2.2.1) x1_lineCount.toNatClampNeg [p1, p2, p3, p4, p5, p6, 0]) (r.2.2.1 = x1_lineCount ∧ r.2.2.2.1 = x1_lines ∧ r.2.2.2.2 = x1_isKnown)) := by
    intro hV
    refine Sf.bind refC ?_
    rintro ⟨v, g⟩ e
    exact Sf.ok (Or.inr (Or.inr ⟨hV, e, rfl, rfl, rfl⟩))
  refine Sf.bind sX6_isPlace (fun v1 h1 => Sf.ite (fun hz => no (fun V => gd0 h1 hz V.1)) (fun hz => ?_))
  have c1 := gd1 h1 hz
  refine Sf.bind sX6_isPlace (fun v6 h6 => Sf.ite (fun hz => no (fun V => gd0 h6 hz V.2.1)) (fun hz => ?_))
  have c2 := gd1 h6 hz
  refine Sf.ite (fun hz => no (fun V => V.2.2.1 hz)) (fun c3 => ?_)
  refine Sf.bind sX6_within (fun v14 h14 => Sf.ite (fun hz => no (fun V => gd0 h14 hz V.2.2.2.1)) (fun hz => ?_))
  have c4 := gd1 h14 hz
  refine Sf.bind sX6_within (fun v19 h19 => Sf.ite (fun hz => no (fun V => gd0 h19 hz V.2.2.2.2.1)) (fun hz => ?_))
  have c5 := gd1 h19 hz
  refine Sf.bind sX6_within (fun v24 h24 => Sf.ite (fun hz => no (fun V => gd0 h24 hz V.2.2.2.2.2.1)) (fun hz => ?_))
  have c6 := gd1 h24 hz
  refine Sf.bind sX6_within (fun v29 h29 => Sf.ite (fun hz => no (fun V => gd0 h29 hz V.2.2.2.2.2.2)) (fun hz => ?_))
  have c7 := gd1 h29 hz
  have V : VLine p1 p2 p3 p4 p5 p6 := ⟨c1, c2, c3, c4, c5, c6, c7⟩
  refine Sf.ite (fun hl => ?_) (fun hl => ?_)
  · refine Sf.bind (addLineS h_x1_lineCount) ?_
    rintro ⟨g31, g32, g33⟩ h
    rcases h with ⟨h, _⟩ | ⟨_, e1, e2, e3, e4⟩
    · exact absurd hl (Int32.not_lt.mpr h)
    · have e1 : g31 = x1_lineCount + 1 := e1
      have e2 : g33 = 0 := e2
      have e3 : ∀ l c, c < 7 → l ≠ x1_lineCount.toNatClampNeg → g32 (7 * l + c) = x1_lines (7 * l + c) := e3
      have e4 : ∀ c, c < 7 → g32 (7 * x1_lineCount.toNatClampNeg + c) = ([p1, p2, p3, p4, p5, p6, 0] : List Int32).getD c 0 := e4
      refine Sf.ok (Or.inl ⟨V, Int32.not_le.mpr hl, ?_, e1, e2, fun l hl' c hc => ?_, fun c hc => ?_⟩)
      · show g31 - 1 = x1_lineCount
        rw [e1]
        grind
      · show ro 7 g32 l c = ro 7 x1_lines l c
        rw [ro_eq hc, ro_eq hc]
        exact e3 l c hc hl'
      · show ro 7 g32 _ c = _
        rw [ro_eq hc]
        exact e4 c hc
  · refine Sf.bind refC ?_
    rintro ⟨v, g⟩ e
    exact Sf.ok (Or.inr (Or.inl ⟨V, Int32.not_lt.mp hl, e, rfl, rfl, rfl⟩))
theorem lineR {x0_shelf : (Nat → Int32)} {x0_rowSort : (Nat → Int32)} {x0_rowSize : (Nat → Int32)} {x0_rows : (Nat → Nat → Int64)} {x0_moved : (Nat → Int64)} {x0_shown : (Nat → Int32)} {x0_tape : (Nat → Int32)} {x0_tapeSize : Int32} {x0_refused : (Nat → Int32)} {x0_lines : Int32} {x0_line : (Nat → Nat → Int32)} {x0_changes : (Nat → Int32)} {x0_coins : (Nat → Int32)} {x0_goods : Int32} {x0_good : (Nat → Nat → Int32)} {x0_works : Int32} {x0_work : (Nat → Nat → Int32)} {x0_years : Int32} {x0_gone : Int32} {x0_spent : Int32} {x0_at : Int32} {x0_token : Int32} {x0_from : Int32} {x0_figures : Int64} {x0_fault : Int32} {x0_numbers : (Nat → Int32)} {x0_statements : Int32} {x0_left : (Nat → Int32)} {x0_far : (Nat → Int32)} {x0_tons : Int32} {x0_way : (Nat → Int32)} {x0_steps : Int32} {x0_met : Int64} {x0_queue : (Nat → Int32)} {x0_totals : (Nat → Int32)} {p1 p2 p3 p4 p5 p6 : Int32} (h_x0_shelf : (AI 0 2 x0_shelf)) (h_x0_rowSize : (AI 0 40 x0_rowSize)) (h_x0_tapeSize : (0 ≤ x0_tapeSize ∧ x0_tapeSize ≤ 250)) (h_x0_lines : (0 ≤ x0_lines ∧ x0_lines ≤ 20)) (h_x0_line : (LnM x0_line)) (h_x0_changes : (AI 0 99 x0_changes)) (h_x0_coins : (AI 0 9 x0_coins)) (h_x0_goods : (0 ≤ x0_goods ∧ x0_goods ≤ 8)) (h_x0_good : (GdM x0_good)) (h_x0_works : (0 ≤ x0_works ∧ x0_works ≤ 7)) (h_x0_work : (WkM x0_work)) (h_x0_years : (1 ≤ x0_years ∧ x0_years ≤ 30)) (h_x0_from : (0 ≤ x0_from ∧ x0_from ≤ 250)) (h_x0_far : (AI 0 1000000000 x0_far)) (h_x0_way : (AI 0 22 x0_way)) (h_x0_steps : (0 ≤ x0_steps ∧ x0_steps ≤ 37)) (h_x0_queue : (AI 0 35 x0_queue)) : Sf (fX7_line (x0_shelf, x0_rowSort, x0_rowSize, x0_rows, x0_moved, x0_shown, x0_tape, x0_tapeSize, x0_refused, x0_lines, x0_line, x0_changes, x0_coins, x0_goods, x0_good, x0_works, x0_work, x0_years, x0_gone, x0_spent, x0_at, x0_token, x0_from, x0_figures, x0_fault, x0_numbers, x0_statements, x0_left, x0_far, x0_tons, x0_way, x0_steps, x0_met, x0_queue, x0_totals) p1 p2 p3 p4 p5 p6) (fun r => AQ (VLine p1 p2 p3 p4 p5 p6) (20 ≤ x0_lines) r.1 (r.1 = x0_lines ∧ r.2.2.1 = x0_lines + 1 ∧ AddR 7 x0_line r.2.2.2 x0_lines.toNatClampNeg [p1, p2, p3, p4, p5, p6, 0]) (r.2.2.1 = x0_lines ∧ r.2.2.2 = x0_line)) := by
  unfold fX7_line
  dsimp only [u35]
  have no : ¬ VLine p1 p2 p3 p4 p5 p6 → Sf ((fX7_refuse (x0_shelf, x0_rowSort, x0_rowSize, x0_rows, x0_moved, x0_shown, x0_tape, x0_tapeSize, x0_refused, x0_lines, x0_line, x0_changes, x0_coins, x0_goods, x0_good, x0_works, x0_work, x0_years, x0_gone, x0_spent, x0_at, x0_token, x0_from, x0_figures, x0_fault, x0_numbers, x0_statements, x0_left, x0_far, x0_tons, x0_way, x0_steps, x0_met, x0_queue, x0_totals) (-2)).bind (u2 fun v g => some (v, g, x0_lines, x0_line))) (fun r => AQ (VLine p1 p2 p3 p4 p5 p6) (20 ≤ x0_lines) r.1 (r.1 = x0_lines ∧ r.2.2.1 = x0_lines + 1 ∧ AddR 7 x0_line r.2.2.2 x0_lines.toNatClampNeg [p1, p2, p3, p4, p5, p6, 0]) (r.2.2.1 = x0_lines ∧ r.2.2.2 = x0_line)) := by
    intro hV
    refine Sf.bind (sX7_refuse h_x0_shelf h_x0_rowSize h_x0_tapeSize h_x0_lines h_x0_line h_x0_changes h_x0_coins h_x0_goods h_x0_good h_x0_works h_x0_work h_x0_years h_x0_from h_x0_far h_x0_way h_x0_steps h_x0_queue (by decide)) ?_
    rintro ⟨v, g⟩ e
    exact Sf.ok (Or.inr (Or.inr ⟨hV, e, rfl, rfl⟩))
  have no2 : ¬ VLine p1 p2 p3 p4 p5 p6 → Sf (fX7_line_j48 p1 p2 p3 p4 p5 p6 x0_shelf x0_rowSort x0_rowSize x0_rows x0_moved x0_shown x0_tape x0_tapeSize x0_refused x0_lines x0_line x0_changes x0_coins x0_goods x0_good x0_works x0_work x0_years x0_gone x0_spent x0_at x0_token x0_from x0_figures x0_fault x0_numbers x0_statements x0_left x0_far x0_tons x0_way x0_steps x0_met x0_queue x0_totals) (fun r => AQ (VLine p1 p2 p3 p4 p5 p6) (20 ≤ x0_lines) r.1 (r.1 = x0_lines ∧ r.2.2.1 = x0_lines + 1 ∧ AddR 7 x0_line r.2.2.2 x0_lines.toNatClampNeg [p1, p2, p3, p4, p5, p6, 0]) (r.2.2.1 = x0_lines ∧ r.2.2.2 = x0_line)) := by
    intro hV
    unfold fX7_line_j48 fX7_line_j49
    rw [if_pos rfl]
    exact no hV
  refine Sf.bind sX7_isPlace (fun v1 h1 => Sf.ite (fun hz => no2 (fun V => gd0 h1 hz V.1)) (fun hz => ?_))
  have c1 := gd1 h1 hz
  refine Sf.bind sX7_isPlace (fun v6 h6 => Sf.ite (fun hz => no2 (fun V => gd0 h6 hz V.2.1)) (fun hz => ?_))
  have c2 := gd1 h6 hz
  refine Sf.ite (fun hz => no2 (fun V => V.2.2.1 hz)) (fun c3 => ?_)
  refine Sf.bind (s_inq p3 1 7 (by decide) (by decide)) (fun v14 h14 => Sf.ite (fun hz => no2 (fun V => gd0 h14 hz V.2.2.2.1)) (fun hz => ?_))
  have c4 := gd1 h14 hz
  refine Sf.bind (s_inq p4 1 60 (by decide) (by decide)) (fun v19 h19 => Sf.ite (fun hz => no2 (fun V => gd0 h19 hz V.2.2.2.2.1)) (fun hz => ?_))
  have c5 := gd1 h19 hz
  unfold fX7_line_j49
  rw [if_neg (by decide)]
  refine Sf.bind (s_inq p5 1 999 (by decide) (by decide)) (fun v24 h24 => Sf.ite (fun hz => no (fun V => gd0 h24 hz V.2.2.2.2.2.1)) (fun hz => ?_))
  have c6 := gd1 h24 hz
  refine Sf.bind (s_inq p6 0 5 (by decide) (by decide)) (fun v29 h29 => Sf.ite (fun hz => no (fun V => gd0 h29 hz V.2.2.2.2.2.2)) (fun hz => ?_))
  have c7 := gd1 h29 hz
  have V : VLine p1 p2 p3 p4 p5 p6 := ⟨c1, c2, c3, c4, c5, c6, c7⟩
  refine Sf.ite (fun hl => ?_) (fun hl => ?_)
  · refine Sf.bind (sX7_refuse h_x0_shelf h_x0_rowSize h_x0_tapeSize h_x0_lines h_x0_line h_x0_changes h_x0_coins h_x0_goods h_x0_good h_x0_works h_x0_work h_x0_years h_x0_from h_x0_far h_x0_way h_x0_steps h_x0_queue (by decide)) ?_
    rintro ⟨v, g⟩ e
    exact Sf.ok (Or.inr (Or.inl ⟨V, by rw [hl]; decide, e, rfl, rfl⟩))
  · have hL : 0 ≤ x0_lines ∧ x0_lines < 20 := ⟨h_x0_lines.1, by clear no no2; grind⟩
    refine Sf.bind (newLineS hL) ?_
    rintro g14 ⟨hg1, hg2⟩
    refine Sf.ckb 20 rfl hL (fun q16 e16 _ => ?_)
    refine Sf.wrb 7 rfl (by decide) (fun f17 e17 => ?_)
    refine Sf.ckb 20 rfl hL (fun q18 e18 _ => ?_)
    rw [e18, e16]
    rw [e16] at e17
    refine Sf.wrb 7 rfl (by decide) (fun f19 e19 => ?_)
    rw [va_eq] at e19
    refine Sf.ckb 20 rfl hL (fun q20 e20 _ => ?_)
    rw [e20]
    refine Sf.wrb 7 rfl (by decide) (fun f21 e21 => ?_)
    rw [va_eq] at e21
    refine Sf.ckb 20 rfl hL (fun q22 e22 _ => ?_)
    rw [e22]
    refine Sf.wrb 7 rfl (by decide) (fun f23 e23 => ?_)
    rw [va_eq] at e23
    refine Sf.ok (Or.inl ⟨V, Int32.not_le.mpr hL.2, rfl, rfl, fun l hl' c hc => ?_, fun c hc => ?_⟩)
    · show va_up (va_up (va_up (va_up g14 _ f17) _ f19) _ f21) _ f23 l c = _
      rw [va_ne _ _ hl', va_ne _ _ hl', va_ne _ _ hl', va_ne _ _ hl', hg1 l hl']
    · show va_up (va_up (va_up (va_up g14 _ f17) _ f19) _ f21) _ f23 _ c = _
      rw [va_eq, e23, e21, e19, e17]
      rcases (show c = 0 ∨ c = 1 ∨ c = 2 ∨ c = 3 ∨ c = 4 ∨ c = 5 ∨ c = 6 by omega) with rfl | rfl | rfl | rfl | rfl | rfl | rfl
      · exact hg2 0 (by decide)
      · exact hg2 1 (by decide)
      · rfl
      · rfl
      · rfl
      · rfl
      · exact hg2 6 (by decide)
theorem dLine {x0_refused : (Nat → Int32)} {x0_isKept : Int32} {x0_gone : Int32} {x0_spent : Int32} {x1_lineCount : Int32} {x1_goodsCount : Int32} {x1_workCount : Int32} {x1_years : Int32} {x1_lines : (Nat → Int32)} {x1_goods : (Nat → Int32)} {x1_works : (Nat → Int32)} {x1_change : (Nat → Int32)} {x1_coin : (Nat → Int32)} {x1_knownFree : (Nat → Int32)} {x1_isKnown : Int32} {m_shelf : (Nat → Int32)} {m_rowSort : (Nat → Int32)} {m_rowSize : (Nat → Int32)} {m_rows : (Nat → Nat → Int64)} {m_moved : (Nat → Int64)} {m_shown : (Nat → Int32)} {m_tape : (Nat → Int32)} {m_tapeSize : Int32} {m_refused : (Nat → Int32)} {m_lines : Int32} {m_line : (Nat → Nat → Int32)} {m_changes : (Nat → Int32)} {m_coins : (Nat → Int32)} {m_goods : Int32} {m_good : (Nat → Nat → Int32)} {m_works : Int32} {m_work : (Nat → Nat → Int32)} {m_years : Int32} {m_gone : Int32} {m_spent : Int32} {m_at : Int32} {m_token : Int32} {m_from : Int32} {m_figures : Int64} {m_fault : Int32} {m_numbers : (Nat → Int32)} {m_statements : Int32} {m_left : (Nat → Int32)} {m_far : (Nat → Int32)} {m_tons : Int32} {m_way : (Nat → Int32)} {m_steps : Int32} {m_met : Int64} {m_queue : (Nat → Int32)} {m_totals : (Nat → Int32)} {p1 p2 p3 p4 p5 p6 er e1 e3 fr f1 : Int32} {e0 e2 f0 : Nat → Int32} {f2 : Nat → Nat → Int32} (h_x1_lineCount : (0 ≤ x1_lineCount ∧ x1_lineCount ≤ 20)) (h_x1_goodsCount : (0 ≤ x1_goodsCount ∧ x1_goodsCount ≤ 8)) (h_x1_workCount : (0 ≤ x1_workCount ∧ x1_workCount ≤ 7)) (h_x1_years : (1 ≤ x1_years ∧ x1_years ≤ 30)) (h_x1_lines : (LnOk x1_lines)) (h_x1_goods : (GdOk x1_goods)) (h_x1_works : (WkOk x1_works)) (h_x1_change : (AI 0 99 x1_change)) (h_x1_coin : (AI 0 9 x1_coin)) (h_m_shelf : (AI 0 2 m_shelf)) (h_m_rowSize : (AI 0 40 m_rowSize)) (h_m_tapeSize : (0 ≤ m_tapeSize ∧ m_tapeSize ≤ 250)) (h_m_lines : (0 ≤ m_lines ∧ m_lines ≤ 20)) (h_m_line : (LnM m_line)) (h_m_changes : (AI 0 99 m_changes)) (h_m_coins : (AI 0 9 m_coins)) (h_m_goods : (0 ≤ m_goods ∧ m_goods ≤ 8)) (h_m_good : (GdM m_good)) (h_m_works : (0 ≤ m_works ∧ m_works ≤ 7)) (h_m_work : (WkM m_work)) (h_m_years : (1 ≤ m_years ∧ m_years ≤ 30)) (h_m_from : (0 ≤ m_from ∧ m_from ≤ 250)) (h_m_far : (AI 0 1000000000 m_far)) (h_m_way : (AI 0 22 m_way)) (h_m_steps : (0 ≤ m_steps ∧ m_steps ≤ 37)) (h_m_queue : (AI 0 35 m_queue)) (hA : (LaD x1_lineCount x1_goodsCount x1_workCount x1_years x1_lines x1_goods x1_works x1_change x1_coin m_lines m_line m_changes m_coins m_goods m_good m_works m_work m_years)) (hk : Kn (FrS x1_lineCount (ro 7 x1_lines) x1_change x1_coin (ro 3 x1_goods) x1_goodsCount (ro 5 x1_works) x1_workCount) x1_knownFree x1_isKnown) (eqA : fX6_line (x0_refused, x0_isKept, x0_gone, x0_spent) (x1_lineCount, x1_goodsCount, x1_workCount, x1_years, x1_lines, x1_goods, x1_works, x1_change, x1_coin, x1_knownFree, x1_isKnown) p1 p2 p3 p4 p5 p6 = some (er, e0, e1, e2, e3)) (eqB : fX7_line (m_shelf, m_rowSort, m_rowSize, m_rows, m_moved, m_shown, m_tape, m_tapeSize, m_refused, m_lines, m_line, m_changes, m_coins, m_goods, m_good, m_works, m_work, m_years, m_gone, m_spent, m_at, m_token, m_from, m_figures, m_fault, m_numbers, m_statements, m_left, m_far, m_tons, m_way, m_steps, m_met, m_queue, m_totals) p1 p2 p3 p4 p5 p6 = some (fr, f0, f1, f2)) : er = fr ∧ (LaD e1 x1_goodsCount x1_workCount x1_years e2 x1_goods x1_works x1_change x1_coin f1 f2 m_changes m_coins m_goods m_good m_works m_work m_years) ∧ Kn (FrS e1 (ro 7 e2) x1_change x1_coin (ro 3 x1_goods) x1_goodsCount (ro 5 x1_works) x1_workCount) x1_knownFree e3 := by
  have a := (lineC h_x1_lineCount).at eqA
  have b := (lineR h_m_shelf h_m_rowSize h_m_tapeSize h_m_lines h_m_line h_m_changes h_m_coins h_m_goods h_m_good h_m_works h_m_work h_m_years h_m_from h_m_far h_m_way h_m_steps h_m_queue).at eqB
  obtain ⟨⟨z1, z2, z3, z4⟩, z5, z6, z7, z8, z9, z10⟩ := hA
  subst z1
  rcases AQ_eq Iff.rfl a b with ⟨⟨a1, a2, a3, a4⟩, b1, b2, b3⟩ | ⟨e, ⟨a1, a2, a3⟩, b1, b2⟩
  · have a2 : e1 = x1_lineCount + 1 := a2
    have b2 : f1 = x1_lineCount + 1 := b2
    have a3 : e3 = 0 := a3
    have hlt : ¬ (20 : Int32) ≤ x1_lineCount := by
      rcases a with ⟨_, h, _⟩ | ⟨_, _, h, _, _⟩ | ⟨_, h, _⟩
      · exact h
      · have h : er = -6 := h
        have a1 : er = x1_lineCount := a1
        rw [a1] at h
        exact absurd h_x1_lineCount.1 (by rw [h]; decide)
      · have h : er = -2 := h
        have a1 : er = x1_lineCount := a1
        rw [a1] at h
        exact absurd h_x1_lineCount.1 (by rw [h]; decide)
    subst a2 b2 a3
    exact ⟨a1.trans b1.symm, ⟨⟨rfl, z2, z3, z4⟩, AddR.alike h_x1_lineCount.1 hlt a4 b3 z5, z6, z7, z8, z9, fun k hk' => (z10 k hk').mono (by clear a b a1 a4 b1 b3 z5 z6 z7 z8 z9 z10 hk; grind)⟩, Or.inl rfl⟩
  · have a1 : e1 = x1_lineCount := a1
    have a2 : e2 = x1_lines := a2
    have a3 : e3 = x1_isKnown := a3
    have b1 : f1 = x1_lineCount := b1
    have b2 : f2 = m_line := b2
    subst a1 a2 a3 b2
    exact ⟨e, ⟨⟨b1.symm, z2, z3, z4⟩, z5, z6, z7, z8, z9, z10⟩, hk⟩
end
section
/-! goods, change, coin, years, washed -/
theorem addGoodsS {x0_lineCount : Int32} {x0_goodsCount : Int32} {x0_workCount : Int32} {x0_years : Int32} {x0_lines : (Nat → Int32)} {x0_goods : (Nat → Int32)} {x0_works : (Nat → Int32)} {x0_change : (Nat → Int32)} {x0_coin : (Nat → Int32)} {x0_knownFree : (Nat → Int32)} {x0_isKnown : Int32} {p1 p2 p3 : Int32} (hL : 0 ≤ x0_goodsCount ∧ x0_goodsCount < 8) : Sf (fX1_addGoods (x0_lineCount, x0_goodsCount, x0_workCount, x0_years, x0_lines, x0_goods, x0_works, x0_change, x0_coin, x0_knownFree, x0_isKnown) p1 p2 p3) (fun r => r.1 = x0_goodsCount + 1 ∧ r.2.2 = 0 ∧ AddR 3 (ro 3 x0_goods) (ro 3 r.2.1) x0_goodsCount.toNatClampNeg [p1, p2, p3]) := by
  unfold fX1_addGoods
  dsimp only [u11]
  rw [if_pos hL.2]
  have ix : ∀ c : Int32, 0 ≤ c ∧ c < 3 → _ := fun c hc => ixg (z := x0_goodsCount) (c := c) hL hc
  refine Sf.wrb 24 rfl (ix 0 (by decide)).1 (fun f1 e1 => ?_)
  refine Sf.wrb 24 rfl (ix 1 (by decide)).1 (fun f2 e2 => ?_)
  refine Sf.wrb 24 rfl (ix 2 (by decide)).1 (fun f3 e3 => ?_)
  rw [(ix 0 (by decide)).2, show (0 : Int32).toNatClampNeg = 0 from rfl] at e1
  rw [(ix 1 (by decide)).2, show (1 : Int32).toNatClampNeg = 1 from rfl] at e2
  rw [(ix 2 (by decide)).2, show (2 : Int32).toNatClampNeg = 2 from rfl] at e3
  refine Sf.ok ⟨rfl, rfl, fun l hl c hc => ?_, fun c hc => ?_⟩
  · show ro 3 f3 l c = _
    rw [ro_eq hc, ro_eq hc, e3, va_ne _ _ (by omega), e2, va_ne _ _ (by omega), e1, va_ne _ _ (by omega)]
  · show ro 3 f3 _ c = _
    rw [ro_eq hc, e3, e2, e1]
    rcases (show c = 0 ∨ c = 1 ∨ c = 2 by omega) with rfl | rfl | rfl
    · rw [va_ne _ _ (by omega), va_ne _ _ (by omega), va_eq]; rfl
    · rw [va_ne _ _ (by omega), va_eq]; rfl
    · rw [va_eq]; rfl
def VGoods (p1 p2 p3 : Int32) : Prop := (0 ≤ p1 ∧ p1 ≤ 11) ∧ (0 ≤ p2 ∧ p2 ≤ 11) ∧ p1 ≠ p2 ∧ (1 ≤ p3 ∧ p3 ≤ 99)
theorem goodsC {x0_refused : (Nat → Int32)} {x0_isKept : Int32} {x0_gone : Int32} {x0_spent : Int32} {x1_lineCount : Int32} {x1_goodsCount : Int32} {x1_workCount : Int32} {x1_years : Int32} {x1_lines : (Nat → Int32)} {x1_goods : (Nat → Int32)} {x1_works : (Nat → Int32)} {x1_change : (Nat → Int32)} {x1_coin : (Nat → Int32)} {x1_knownFree : (Nat → Int32)} {x1_isKnown : Int32} {p1 p2 p3 : Int32} (h_x1_goodsCount : 0 ≤ x1_goodsCount ∧ x1_goodsCount ≤ 8) : Sf (fX6_goods (x0_refused, x0_isKept, x0_gone, x0_spent) (x1_lineCount, x1_goodsCount, x1_workCount, x1_years, x1_lines, x1_goods, x1_works, x1_change, x1_coin, x1_knownFree, x1_isKnown) p1 p2 p3) (fun r => AQ (VGoods p1 p2 p3) (8 ≤ x1_goodsCount) r.1 (r.1 = x1_goodsCount ∧ r.2.2.1 = x1_goodsCount + 1 ∧ r.2.2.2.2 = 0 ∧ AddR 3 (ro 3 x1_goods) (ro 3 r.2.2.2.1) x1_goodsCount.toNatClampNeg [p1, p2, p3]) (r.2.2.1 = x1_goodsCount ∧ r.2.2.2.1 = x1_goods ∧ r.2.2.2.2 = x1_isKnown)) := by
  unfold fX6_goods
  dsimp only [u4, u11]
  have no : ¬ VGoods p1 p2 p3 → Sf ((fX6_refuse (x0_refused, x0_isKept, x0_gone, x0_spent) (-2)).bind (u2 fun v g => some (v, g, x1_goodsCount, x1_goods, x1_isKnown))) (fun r => AQ (VGoods p1 p2 p3) (8 ≤ x1_goodsCount) r.1 (r.1 = x1_goodsCount ∧ r.2.2.1 = x1_goodsCount + 1 ∧ r.2.2.2.2 = 0 ∧ AddR 3 (ro 3 x1_goods) (ro 3 r.2.2.2.1) x1_goodsCount.toNatClampNeg [p1, p2, p3]) (r.2.2.1 = x1_goodsCount ∧ r.2.2.2.1 = x1_goods ∧ r.2.2.2.2 = x1_isKnown)) := by
    intro hV
    refine Sf.bind refC ?_
    rintro ⟨v, g⟩ e
    exact Sf.ok (Or.inr (Or.inr ⟨hV, e, rfl, rfl, rfl⟩))
  refine Sf.bind sX6_isPlace (fun v1 h1 => Sf.ite (fun hz => no (fun V => gd0 h1 hz V.1)) (fun hz => ?_))
  have c1 := gd1 h1 hz
  refine Sf.bind sX6_isPlace (fun v6 h6 => Sf.ite (fun hz => no (fun V => gd0 h6 hz V.2.1)) (fun hz => ?_))
  have c2 := gd1 h6 hz
  refine Sf.ite (fun hz => no (fun V => V.2.2.1 hz)) (fun c3 => ?_)
  refine Sf.bind sX6_within (fun v14 h14 => Sf.ite (fun hz => no (fun V => gd0 h14 hz V.2.2.2)) (fun hz => ?_))
  have V : VGoods p1 p2 p3 := ⟨c1, c2, c3, gd1 h14 hz⟩
  refine Sf.ite (fun hl => ?_) (fun hl => ?_)
  · refine Sf.bind (addGoodsS ⟨h_x1_goodsCount.1, hl⟩) ?_
    rintro ⟨g31, g32, g33⟩ ⟨e1, e2, e3⟩
    have e1 : g31 = x1_goodsCount + 1 := e1
    refine Sf.ok (Or.inl ⟨V, Int32.not_le.mpr hl, ?_, e1, e2, e3⟩)
    show g31 - 1 = x1_goodsCount
    rw [e1]
    grind
  · refine Sf.bind refC ?_
    rintro ⟨v, g⟩ e
    exact Sf.ok (Or.inr (Or.inl ⟨V, Int32.not_lt.mp hl, e, rfl, rfl, rfl⟩))
theorem goodsR {x0_shelf : (Nat → Int32)} {x0_rowSort : (Nat → Int32)} {x0_rowSize : (Nat → Int32)} {x0_rows : (Nat → Nat → Int64)} {x0_moved : (Nat → Int64)} {x0_shown : (Nat → Int32)} {x0_tape : (Nat → Int32)} {x0_tapeSize : Int32} {x0_refused : (Nat → Int32)} {x0_lines : Int32} {x0_line : (Nat → Nat → Int32)} {x0_changes : (Nat → Int32)} {x0_coins : (Nat → Int32)} {x0_goods : Int32} {x0_good : (Nat → Nat → Int32)} {x0_works : Int32} {x0_work : (Nat → Nat → Int32)} {x0_years : Int32} {x0_gone : Int32} {x0_spent : Int32} {x0_at : Int32} {x0_token : Int32} {x0_from : Int32} {x0_figures : Int64} {x0_fault : Int32} {x0_numbers : (Nat → Int32)} {x0_statements : Int32} {x0_left : (Nat → Int32)} {x0_far : (Nat → Int32)} {x0_tons : Int32} {x0_way : (Nat → Int32)} {x0_steps : Int32} {x0_met : Int64} {x0_queue : (Nat → Int32)} {x0_totals : (Nat → Int32)} {p1 p2 p3 : Int32} (h_x0_shelf : (AI 0 2 x0_shelf)) (h_x0_rowSize : (AI 0 40 x0_rowSize)) (h_x0_tapeSize : (0 ≤ x0_tapeSize ∧ x0_tapeSize ≤ 250)) (h_x0_lines : (0 ≤ x0_lines ∧ x0_lines ≤ 20)) (h_x0_line : (LnM x0_line)) (h_x0_changes : (AI 0 99 x0_changes)) (h_x0_coins : (AI 0 9 x0_coins)) (h_x0_goods : (0 ≤ x0_goods ∧ x0_goods ≤ 8)) (h_x0_good : (GdM x0_good)) (h_x0_works : (0 ≤ x0_works ∧ x0_works ≤ 7)) (h_x0_work : (WkM x0_work)) (h_x0_years : (1 ≤ x0_years ∧ x0_years ≤ 30)) (h_x0_from : (0 ≤ x0_from ∧ x0_from ≤ 250)) (h_x0_far : (AI 0 1000000000 x0_far)) (h_x0_way : (AI 0 22 x0_way)) (h_x0_steps : (0 ≤ x0_steps ∧ x0_steps ≤ 37)) (h_x0_queue : (AI 0 35 x0_queue)) : Sf (fX7_goods (x0_shelf, x0_rowSort, x0_rowSize, x0_rows, x0_moved, x0_shown, x0_tape, x0_tapeSize, x0_refused, x0_lines, x0_line, x0_changes, x0_coins, x0_goods, x0_good, x0_works, x0_work, x0_years, x0_gone, x0_spent, x0_at, x0_token, x0_from, x0_figures, x0_fault, x0_numbers, x0_statements, x0_left, x0_far, x0_tons, x0_way, x0_steps, x0_met, x0_queue, x0_totals) p1 p2 p3) (fun r => AQ (VGoods p1 p2 p3) (8 ≤ x0_goods) r.1 (r.1 = x0_goods ∧ r.2.2.1 = x0_goods + 1 ∧ AddR 3 x0_good r.2.2.2 x0_goods.toNatClampNeg [p1, p2, p3]) (r.2.2.1 = x0_goods ∧ r.2.2.2 = x0_good)) := by
  unfold fX7_goods
  dsimp only [u35]
  have no : ¬ VGoods p1 p2 p3 → Sf ((fX7_refuse (x0_shelf, x0_rowSort, x0_rowSize, x0_rows, x0_moved, x0_shown, x0_tape, x0_tapeSize, x0_refused, x0_lines, x0_line, x0_changes, x0_coins, x0_goods, x0_good, x0_works, x0_work, x0_years, x0_gone, x0_spent, x0_at, x0_token, x0_from, x0_figures, x0_fault, x0_numbers, x0_statements, x0_left, x0_far, x0_tons, x0_way, x0_steps, x0_met, x0_queue, x0_totals) (-2)).bind (u2 fun v g => some (v, g, x0_goods, x0_good))) (fun r => AQ (VGoods p1 p2 p3) (8 ≤ x0_goods) r.1 (r.1 = x0_goods ∧ r.2.2.1 = x0_goods + 1 ∧ AddR 3 x0_good r.2.2.2 x0_goods.toNatClampNeg [p1, p2, p3]) (r.2.2.1 = x0_goods ∧ r.2.2.2 = x0_good)) := by
    intro hV
    refine Sf.bind (sX7_refuse h_x0_shelf h_x0_rowSize h_x0_tapeSize h_x0_lines h_x0_line h_x0_changes h_x0_coins h_x0_goods h_x0_good h_x0_works h_x0_work h_x0_years h_x0_from h_x0_far h_x0_way h_x0_steps h_x0_queue (by decide)) ?_
    rintro ⟨v, g⟩ e
    exact Sf.ok (Or.inr (Or.inr ⟨hV, e, rfl, rfl⟩))
  refine Sf.bind sX7_isPlace (fun v1 h1 => Sf.ite (fun hz => no (fun V => gd0 h1 hz V.1)) (fun hz => ?_))
  have c1 := gd1 h1 hz
  refine Sf.bind sX7_isPlace (fun v6 h6 => Sf.ite (fun hz => no (fun V => gd0 h6 hz V.2.1)) (fun hz => ?_))
  have c2 := gd1 h6 hz
  refine Sf.ite (fun hz => no (fun V => V.2.2.1 hz)) (fun c3 => ?_)
  refine Sf.bind (s_inq p3 1 99 (by decide) (by decide)) (fun v14 h14 => Sf.ite (fun hz => no (fun V => gd0 h14 hz V.2.2.2)) (fun hz => ?_))
  have V : VGoods p1 p2 p3 := ⟨c1, c2, c3, gd1 h14 hz⟩
  refine Sf.ite (fun hl => ?_) (fun hl => ?_)
  · refine Sf.bind (sX7_refuse h_x0_shelf h_x0_rowSize h_x0_tapeSize h_x0_lines h_x0_line h_x0_changes h_x0_coins h_x0_goods h_x0_good h_x0_works h_x0_work h_x0_years h_x0_from h_x0_far h_x0_way h_x0_steps h_x0_queue (by decide)) ?_
    rintro ⟨v, g⟩ e
    exact Sf.ok (Or.inr (Or.inl ⟨V, by rw [hl]; decide, e, rfl, rfl⟩))
  · have hL : 0 ≤ x0_goods ∧ x0_goods < 8 := ⟨h_x0_goods.1, by clear no; grind⟩
    refine Sf.ckb 8 rfl hL (fun q16 e16 _ => ?_)
    refine Sf.wrb 3 rfl (by decide) (fun f17 e17 => ?_)
    refine Sf.ckb 8 rfl hL (fun q18 e18 _ => ?_)
    rw [e18, e16]
    refine Sf.wrb 3 rfl (by decide) (fun f19 e19 => ?_)
    rw [va_eq] at e19
    refine Sf.ckb 8 rfl hL (fun q20 e20 _ => ?_)
    rw [e20]
    refine Sf.wrb 3 rfl (by decide) (fun f21 e21 => ?_)
    rw [va_eq] at e21
    refine Sf.ok (Or.inl ⟨V, Int32.not_le.mpr hL.2, rfl, rfl, fun l hl' c hc => ?_, fun c hc => ?_⟩)
    · show va_up (va_up (va_up x0_good _ f17) _ f19) _ f21 l c = _
      rw [va_ne _ _ hl', va_ne _ _ hl', va_ne _ _ hl']
    · show va_up (va_up (va_up x0_good _ f17) _ f19) _ f21 _ c = _
      rw [va_eq, e21, e19, e17]
      rcases (show c = 0 ∨ c = 1 ∨ c = 2 by omega) with rfl | rfl | rfl <;> rfl
theorem dGoods {x0_refused : (Nat → Int32)} {x0_isKept : Int32} {x0_gone : Int32} {x0_spent : Int32} {x1_lineCount : Int32} {x1_goodsCount : Int32} {x1_workCount : Int32} {x1_years : Int32} {x1_lines : (Nat → Int32)} {x1_goods : (Nat → Int32)} {x1_works : (Nat → Int32)} {x1_change : (Nat → Int32)} {x1_coin : (Nat → Int32)} {x1_knownFree : (Nat → Int32)} {x1_isKnown : Int32} {m_shelf : (Nat → Int32)} {m_rowSort : (Nat → Int32)} {m_rowSize : (Nat → Int32)} {m_rows : (Nat → Nat → Int64)} {m_moved : (Nat → Int64)} {m_shown : (Nat → Int32)} {m_tape : (Nat → Int32)} {m_tapeSize : Int32} {m_refused : (Nat → Int32)} {m_lines : Int32} {m_line : (Nat → Nat → Int32)} {m_changes : (Nat → Int32)} {m_coins : (Nat → Int32)} {m_goods : Int32} {m_good : (Nat → Nat → Int32)} {m_works : Int32} {m_work : (Nat → Nat → Int32)} {m_years : Int32} {m_gone : Int32} {m_spent : Int32} {m_at : Int32} {m_token : Int32} {m_from : Int32} {m_figures : Int64} {m_fault : Int32} {m_numbers : (Nat → Int32)} {m_statements : Int32} {m_left : (Nat → Int32)} {m_far : (Nat → Int32)} {m_tons : Int32} {m_way : (Nat → Int32)} {m_steps : Int32} {m_met : Int64} {m_queue : (Nat → Int32)} {m_totals : (Nat → Int32)} {p1 p2 p3 er e1 e3 fr f1 : Int32} {e0 e2 f0 : Nat → Int32} {f2 : Nat → Nat → Int32} (h_x1_lineCount : (0 ≤ x1_lineCount ∧ x1_lineCount ≤ 20)) (h_x1_goodsCount : (0 ≤ x1_goodsCount ∧ x1_goodsCount ≤ 8)) (h_x1_workCount : (0 ≤ x1_workCount ∧ x1_workCount ≤ 7)) (h_x1_years : (1 ≤ x1_years ∧ x1_years ≤ 30)) (h_x1_lines : (LnOk x1_lines)) (h_x1_goods : (GdOk x1_goods)) (h_x1_works : (WkOk x1_works)) (h_x1_change : (AI 0 99 x1_change)) (h_x1_coin : (AI 0 9 x1_coin)) (h_m_shelf : (AI 0 2 m_shelf)) (h_m_rowSize : (AI 0 40 m_rowSize)) (h_m_tapeSize : (0 ≤ m_tapeSize ∧ m_tapeSize ≤ 250)) (h_m_lines : (0 ≤ m_lines ∧ m_lines ≤ 20)) (h_m_line : (LnM m_line)) (h_m_changes : (AI 0 99 m_changes)) (h_m_coins : (AI 0 9 m_coins)) (h_m_goods : (0 ≤ m_goods ∧ m_goods ≤ 8)) (h_m_good : (GdM m_good)) (h_m_works : (0 ≤ m_works ∧ m_works ≤ 7)) (h_m_work : (WkM m_work)) (h_m_years : (1 ≤ m_years ∧ m_years ≤ 30)) (h_m_from : (0 ≤ m_from ∧ m_from ≤ 250)) (h_m_far : (AI 0 1000000000 m_far)) (h_m_way : (AI 0 22 m_way)) (h_m_steps : (0 ≤ m_steps ∧ m_steps ≤ 37)) (h_m_queue : (AI 0 35 m_queue)) (hA : (LaD x1_lineCount x1_goodsCount x1_workCount x1_years x1_lines x1_goods x1_works x1_change x1_coin m_lines m_line m_changes m_coins m_goods m_good m_works m_work m_years)) (hk : Kn (FrS x1_lineCount (ro 7 x1_lines) x1_change x1_coin (ro 3 x1_goods) x1_goodsCount (ro 5 x1_works) x1_workCount) x1_knownFree x1_isKnown) (eqA : fX6_goods (x0_refused, x0_isKept, x0_gone, x0_spent) (x1_lineCount, x1_goodsCount, x1_workCount, x1_years, x1_lines, x1_goods, x1_works, x1_change, x1_coin, x1_knownFree, x1_isKnown) p1 p2 p3 = some (er, e0, e1, e2, e3)) (eqB : fX7_goods (m_shelf, m_rowSort, m_rowSize, m_rows, m_moved, m_shown, m_tape, m_tapeSize, m_refused, m_lines, m_line, m_changes, m_coins, m_goods, m_good, m_works, m_work, m_years, m_gone, m_spent, m_at, m_token, m_from, m_figures, m_fault, m_numbers, m_statements, m_left, m_far, m_tons, m_way, m_steps, m_met, m_queue, m_totals) p1 p2 p3 = some (fr, f0, f1, f2)) : er = fr ∧ (LaD x1_lineCount e1 x1_workCount x1_years x1_lines e2 x1_works x1_change x1_coin m_lines m_line m_changes m_coins f1 f2 m_works m_work m_years) ∧ Kn (FrS x1_lineCount (ro 7 x1_lines) x1_change x1_coin (ro 3 e2) e1 (ro 5 x1_works) x1_workCount) x1_knownFree e3 := by
  have a := (goodsC h_x1_goodsCount).at eqA
  have b := (goodsR h_m_shelf h_m_rowSize h_m_tapeSize h_m_lines h_m_line h_m_changes h_m_coins h_m_goods h_m_good h_m_works h_m_work h_m_years h_m_from h_m_far h_m_way h_m_steps h_m_queue).at eqB
  obtain ⟨⟨z1, z2, z3, z4⟩, z5, z6, z7, z8, z9, z10⟩ := hA
  subst z2
  rcases AQ_eq Iff.rfl a b with ⟨⟨a1, a2, a3, a4⟩, b1, b2, b3⟩ | ⟨e, ⟨a1, a2, a3⟩, b1, b2⟩
  · have a2 : e1 = x1_goodsCount + 1 := a2
    have b2 : f1 = x1_goodsCount + 1 := b2
    have a3 : e3 = 0 := a3
    subst a2 b2 a3
    exact ⟨a1.trans b1.symm, ⟨⟨z1, rfl, z3, z4⟩, z5, AddR.alike h_x1_goodsCount.1 (fun h => absurd (Int32.le_trans h h_x1_goodsCount.2) (by decide)) a4 b3 z6, z7, z8, z9, z10⟩, Or.inl rfl⟩
  · have a1 : e1 = x1_goodsCount := a1
    have a2 : e2 = x1_goods := a2
    have a3 : e3 = x1_isKnown := a3
    have b1 : f1 = x1_goodsCount := b1
    have b2 : f2 = m_good := b2
    subst a1 a2 a3 b2
    exact ⟨e, ⟨⟨z1, b1.symm, z3, z4⟩, z5, z6, z7, z8, z9, z10⟩, hk⟩
/-! change, coin, years -/
def VTwo (a b p1 p2 : Int32) : Prop := (0 ≤ p1 ∧ p1 ≤ a) ∧ (0 ≤ p2 ∧ p2 ≤ b)
def AP (V : Prop) (a : Int32) (S O : Prop) : Prop := (V ∧ S) ∨ (¬ V ∧ a = -2 ∧ O)
theorem AP_eq {V S O S' O' : Prop} {a a' : Int32} (h : AP V a S O) (h' : AP V a' S' O') : (S ∧ S') ∨ (a = a' ∧ O ∧ O') := by
  rcases h with ⟨v, s⟩ | ⟨v, e, o⟩ <;> rcases h' with ⟨v', s'⟩ | ⟨v', e', o'⟩
  · exact Or.inl ⟨s, s'⟩
  · exact absurd v v'
  · exact absurd v' v
  · exact Or.inr ⟨by rw [e, e'], o, o'⟩
theorem changeC {x0_refused : (Nat → Int32)} {x0_isKept : Int32} {x0_gone : Int32} {x0_spent : Int32} {x1_lineCount : Int32} {x1_goodsCount : Int32} {x1_workCount : Int32} {x1_years : Int32} {x1_lines : (Nat → Int32)} {x1_goods : (Nat → Int32)} {x1_works : (Nat → Int32)} {x1_change : (Nat → Int32)} {x1_coin : (Nat → Int32)} {x1_knownFree : (Nat → Int32)} {x1_isKnown : Int32} {p1 p2 : Int32} : Sf (fX6_change (x0_refused, x0_isKept, x0_gone, x0_spent) (x1_lineCount, x1_goodsCount, x1_workCount, x1_years, x1_lines, x1_goods, x1_works, x1_change, x1_coin, x1_knownFree, x1_isKnown) p1 p2) (fun r => AP (VTwo 11 99 p1 p2) r.1 ((0 ≤ p1 ∧ p1 ≤ 11) ∧ r.1 = x1_change p1.toNatClampNeg ∧ r.2.2.1 = va_up x1_change p1.toNatClampNeg p2 ∧ r.2.2.2 = 0) (r.2.2.1 = x1_change ∧ r.2.2.2 = x1_isKnown)) := by
  unfold fX6_change
  dsimp only [u4, u11]
  have no : ¬ VTwo 11 99 p1 p2 → Sf ((fX6_refuse (x0_refused, x0_isKept, x0_gone, x0_spent) (-2)).bind (u2 fun v g => some (v, g, x1_change, x1_isKnown))) (fun r => AP (VTwo 11 99 p1 p2) r.1 ((0 ≤ p1 ∧ p1 ≤ 11) ∧ r.1 = x1_change p1.toNatClampNeg ∧ r.2.2.1 = va_up x1_change p1.toNatClampNeg p2 ∧ r.2.2.2 = 0) (r.2.2.1 = x1_change ∧ r.2.2.2 = x1_isKnown)) := by
    intro hV
    refine Sf.bind refC ?_
    rintro ⟨v, g⟩ e
    exact Sf.ok (Or.inr ⟨hV, e, rfl, rfl⟩)
  refine Sf.bind sX6_isPlace (fun v1 h1 => Sf.ite (fun hz => no (fun V => gd0 h1 hz V.1)) (fun hz => ?_))
  have c1 := gd1 h1 hz
  refine Sf.bind sX6_within (fun v6 h6 => Sf.ite (fun hz => no (fun V => gd0 h6 hz V.2)) (fun hz => ?_))
  have c2 := gd1 h6 hz
  have hi : 0 ≤ p1 ∧ p1 < 12 := ⟨c1.1, Int32.lt_of_le_of_lt c1.2 (by decide)⟩
  refine Sf.rdb 12 rfl hi (fun v8 e8 => ?_)
  unfold fX1_putChange
  dsimp only [u11]
  rw [if_neg (Int32.not_lt.mpr hi.1), if_neg (Int32.not_le.mpr hi.2)]
  refine Sf.bind (P := fun r : (Nat → Int32) × Int32 => r.1 = va_up x1_change p1.toNatClampNeg p2 ∧ r.2 = 0) (Sf.wrb 12 rfl hi (fun f1 e1 => Sf.ok ⟨e1, rfl⟩)) ?_
  rintro ⟨g9, g10⟩ ⟨e9, e10⟩
  exact Sf.ok (Or.inl ⟨⟨c1, c2⟩, c1, e8, e9, e10⟩)
theorem changeR {x0_shelf : (Nat → Int32)} {x0_rowSort : (Nat → Int32)} {x0_rowSize : (Nat → Int32)} {x0_rows : (Nat → Nat → Int64)} {x0_moved : (Nat → Int64)} {x0_shown : (Nat → Int32)} {x0_tape : (Nat → Int32)} {x0_tapeSize : Int32} {x0_refused : (Nat → Int32)} {x0_lines : Int32} {x0_line : (Nat → Nat → Int32)} {x0_changes : (Nat → Int32)} {x0_coins : (Nat → Int32)} {x0_goods : Int32} {x0_good : (Nat → Nat → Int32)} {x0_works : Int32} {x0_work : (Nat → Nat → Int32)} {x0_years : Int32} {x0_gone : Int32} {x0_spent : Int32} {x0_at : Int32} {x0_token : Int32} {x0_from : Int32} {x0_figures : Int64} {x0_fault : Int32} {x0_numbers : (Nat → Int32)} {x0_statements : Int32} {x0_left : (Nat → Int32)} {x0_far : (Nat → Int32)} {x0_tons : Int32} {x0_way : (Nat → Int32)} {x0_steps : Int32} {x0_met : Int64} {x0_queue : (Nat → Int32)} {x0_totals : (Nat → Int32)} {p1 p2 : Int32} (h_x0_shelf : (AI 0 2 x0_shelf)) (h_x0_rowSize : (AI 0 40 x0_rowSize)) (h_x0_tapeSize : (0 ≤ x0_tapeSize ∧ x0_tapeSize ≤ 250)) (h_x0_lines : (0 ≤ x0_lines ∧ x0_lines ≤ 20)) (h_x0_line : (LnM x0_line)) (h_x0_changes : (AI 0 99 x0_changes)) (h_x0_coins : (AI 0 9 x0_coins)) (h_x0_goods : (0 ≤ x0_goods ∧ x0_goods ≤ 8)) (h_x0_good : (GdM x0_good)) (h_x0_works : (0 ≤ x0_works ∧ x0_works ≤ 7)) (h_x0_work : (WkM x0_work)) (h_x0_years : (1 ≤ x0_years ∧ x0_years ≤ 30)) (h_x0_from : (0 ≤ x0_from ∧ x0_from ≤ 250)) (h_x0_far : (AI 0 1000000000 x0_far)) (h_x0_way : (AI 0 22 x0_way)) (h_x0_steps : (0 ≤ x0_steps ∧ x0_steps ≤ 37)) (h_x0_queue : (AI 0 35 x0_queue)) : Sf (fX7_change (x0_shelf, x0_rowSort, x0_rowSize, x0_rows, x0_moved, x0_shown, x0_tape, x0_tapeSize, x0_refused, x0_lines, x0_line, x0_changes, x0_coins, x0_goods, x0_good, x0_works, x0_work, x0_years, x0_gone, x0_spent, x0_at, x0_token, x0_from, x0_figures, x0_fault, x0_numbers, x0_statements, x0_left, x0_far, x0_tons, x0_way, x0_steps, x0_met, x0_queue, x0_totals) p1 p2) (fun r => AP (VTwo 11 99 p1 p2) r.1 (r.1 = x0_changes p1.toNatClampNeg ∧ r.2.2 = va_up x0_changes p1.toNatClampNeg p2) (r.2.2 = x0_changes)) := by
  unfold fX7_change
  dsimp only [u35]
  have no : ¬ VTwo 11 99 p1 p2 → Sf ((fX7_refuse (x0_shelf, x0_rowSort, x0_rowSize, x0_rows, x0_moved, x0_shown, x0_tape, x0_tapeSize, x0_refused, x0_lines, x0_line, x0_changes, x0_coins, x0_goods, x0_good, x0_works, x0_work, x0_years, x0_gone, x0_spent, x0_at, x0_token, x0_from, x0_figures, x0_fault, x0_numbers, x0_statements, x0_left, x0_far, x0_tons, x0_way, x0_steps, x0_met, x0_queue, x0_totals) (-2)).bind (u2 fun v g => some (v, g, x0_changes))) (fun r => AP (VTwo 11 99 p1 p2) r.1 (r.1 = x0_changes p1.toNatClampNeg ∧ r.2.2 = va_up x0_changes p1.toNatClampNeg p2) (r.2.2 = x0_changes)) := by
    intro hV
    refine Sf.bind (sX7_refuse h_x0_shelf h_x0_rowSize h_x0_tapeSize h_x0_lines h_x0_line h_x0_changes h_x0_coins h_x0_goods h_x0_good h_x0_works h_x0_work h_x0_years h_x0_from h_x0_far h_x0_way h_x0_steps h_x0_queue (by decide)) ?_
    rintro ⟨v, g⟩ e
    exact Sf.ok (Or.inr ⟨hV, e, rfl⟩)
  refine Sf.bind sX7_isPlace (fun v1 h1 => Sf.ite (fun hz => no (fun V => gd0 h1 hz V.1)) (fun hz => ?_))
  have c1 := gd1 h1 hz
  refine Sf.bind (s_inq p2 0 99 (by decide) (by decide)) (fun v6 h6 => Sf.ite (fun hz => no (fun V => gd0 h6 hz V.2)) (fun hz => ?_))
  have c2 := gd1 h6 hz
  have hi : 0 ≤ p1 ∧ p1 < 12 := ⟨c1.1, Int32.lt_of_le_of_lt c1.2 (by decide)⟩
  refine Sf.rdb 12 rfl hi (fun v8 e8 => ?_)
  refine Sf.wrb 12 rfl hi (fun f9 e9 => ?_)
  exact Sf.ok (Or.inl ⟨⟨c1, c2⟩, e8, e9⟩)
theorem up_alike {f g : Nat → Int32} {N k : Nat} {x : Int32} (h : ∀ p, p < N → f p = g p) : ∀ p, p < N → va_up f k x p = va_up g k x p := by
  intro p hp
  by_cases e : p = k
  · rw [e, va_eq, va_eq]
  · rw [va_ne _ _ e, va_ne _ _ e]
    exact h p hp
theorem dChange {x0_refused : (Nat → Int32)} {x0_isKept : Int32} {x0_gone : Int32} {x0_spent : Int32} {x1_lineCount : Int32} {x1_goodsCount : Int32} {x1_workCount : Int32} {x1_years : Int32} {x1_lines : (Nat → Int32)} {x1_goods : (Nat → Int32)} {x1_works : (Nat → Int32)} {x1_change : (Nat → Int32)} {x1_coin : (Nat → Int32)} {x1_knownFree : (Nat → Int32)} {x1_isKnown : Int32} {m_shelf : (Nat → Int32)} {m_rowSort : (Nat → Int32)} {m_rowSize : (Nat → Int32)} {m_rows : (Nat → Nat → Int64)} {m_moved : (Nat → Int64)} {m_shown : (Nat → Int32)} {m_tape : (Nat → Int32)} {m_tapeSize : Int32} {m_refused : (Nat → Int32)} {m_lines : Int32} {m_line : (Nat → Nat → Int32)} {m_changes : (Nat → Int32)} {m_coins : (Nat → Int32)} {m_goods : Int32} {m_good : (Nat → Nat → Int32)} {m_works : Int32} {m_work : (Nat → Nat → Int32)} {m_years : Int32} {m_gone : Int32} {m_spent : Int32} {m_at : Int32} {m_token : Int32} {m_from : Int32} {m_figures : Int64} {m_fault : Int32} {m_numbers : (Nat → Int32)} {m_statements : Int32} {m_left : (Nat → Int32)} {m_far : (Nat → Int32)} {m_tons : Int32} {m_way : (Nat → Int32)} {m_steps : Int32} {m_met : Int64} {m_queue : (Nat → Int32)} {m_totals : (Nat → Int32)} {p1 p2 er e3 fr : Int32} {e0 e2 f0 f2 : Nat → Int32} (h_x1_lineCount : (0 ≤ x1_lineCount ∧ x1_lineCount ≤ 20)) (h_x1_goodsCount : (0 ≤ x1_goodsCount ∧ x1_goodsCount ≤ 8)) (h_x1_workCount : (0 ≤ x1_workCount ∧ x1_workCount ≤ 7)) (h_x1_years : (1 ≤ x1_years ∧ x1_years ≤ 30)) (h_x1_lines : (LnOk x1_lines)) (h_x1_goods : (GdOk x1_goods)) (h_x1_works : (WkOk x1_works)) (h_x1_change : (AI 0 99 x1_change)) (h_x1_coin : (AI 0 9 x1_coin)) (h_m_shelf : (AI 0 2 m_shelf)) (h_m_rowSize : (AI 0 40 m_rowSize)) (h_m_tapeSize : (0 ≤ m_tapeSize ∧ m_tapeSize ≤ 250)) (h_m_lines : (0 ≤ m_lines ∧ m_lines ≤ 20)) (h_m_line : (LnM m_line)) (h_m_changes : (AI 0 99 m_changes)) (h_m_coins : (AI 0 9 m_coins)) (h_m_goods : (0 ≤ m_goods ∧ m_goods ≤ 8)) (h_m_good : (GdM m_good)) (h_m_works : (0 ≤ m_works ∧ m_works ≤ 7)) (h_m_work : (WkM m_work)) (h_m_years : (1 ≤ m_years ∧ m_years ≤ 30)) (h_m_from : (0 ≤ m_from ∧ m_from ≤ 250)) (h_m_far : (AI 0 1000000000 m_far)) (h_m_way : (AI 0 22 m_way)) (h_m_steps : (0 ≤ m_steps ∧ m_steps ≤ 37)) (h_m_queue : (AI 0 35 m_queue)) (hA : (LaD x1_lineCount x1_goodsCount x1_workCount x1_years x1_lines x1_goods x1_works x1_change x1_coin m_lines m_line m_changes m_coins m_goods m_good m_works m_work m_years)) (hk : Kn (FrS x1_lineCount (ro 7 x1_lines) x1_change x1_coin (ro 3 x1_goods) x1_goodsCount (ro 5 x1_works) x1_workCount) x1_knownFree x1_isKnown) (eqA : fX6_change (x0_refused, x0_isKept, x0_gone, x0_spent) (x1_lineCount, x1_goodsCount, x1_workCount, x1_years, x1_lines, x1_goods, x1_works, x1_change, x1_coin, x1_knownFree, x1_isKnown) p1 p2 = some (er, e0, e2, e3)) (eqB : fX7_change (m_shelf, m_rowSort, m_rowSize, m_rows, m_moved, m_shown, m_tape, m_tapeSize, m_refused, m_lines, m_line, m_changes, m_coins, m_goods, m_good, m_works, m_work, m_years, m_gone, m_spent, m_at, m_token, m_from, m_figures, m_fault, m_numbers, m_statements, m_left, m_far, m_tons, m_way, m_steps, m_met, m_queue, m_totals) p1 p2 = some (fr, f0, f2)) : er = fr ∧ (LaD x1_lineCount x1_goodsCount x1_workCount x1_years x1_lines x1_goods x1_works e2 x1_coin m_lines m_line f2 m_coins m_goods m_good m_works m_work m_years) ∧ Kn (FrS x1_lineCount (ro 7 x1_lines) e2 x1_coin (ro 3 x1_goods) x1_goodsCount (ro 5 x1_works) x1_workCount) x1_knownFree e3 := by
  have a := changeC.at eqA
  have b := (changeR h_m_shelf h_m_rowSize h_m_tapeSize h_m_lines h_m_line h_m_changes h_m_coins h_m_goods h_m_good h_m_works h_m_work h_m_years h_m_from h_m_far h_m_way h_m_steps h_m_queue).at eqB
  obtain ⟨⟨z1, z2, z3, z4⟩, z5, z6, z7, z8, z9, z10⟩ := hA
  rcases AP_eq a b with ⟨⟨a0, a1, a2, a3⟩, b1, b2⟩ | ⟨e, ⟨a1, a2⟩, b1⟩
  · have a1 : er = x1_change p1.toNatClampNeg := a1
    have b1 : fr = m_changes p1.toNatClampNeg := b1
    have a2 : e2 = va_up x1_change p1.toNatClampNeg p2 := a2
    have b2 : f2 = va_up m_changes p1.toNatClampNeg p2 := b2
    have a3 : e3 = 0 := a3
    subst a2 b2 a3
    exact ⟨(a1.trans (z8 _ (p_of a0))).trans b1.symm, ⟨⟨z1, z2, z3, z4⟩, z5, z6, z7, up_alike z8, z9, z10⟩, Or.inl rfl⟩
  · have a1 : e2 = x1_change := a1
    have a2 : e3 = x1_isKnown := a2
    have b1 : f2 = m_changes := b1
    subst a1 a2 b1
    exact ⟨e, ⟨⟨z1, z2, z3, z4⟩, z5, z6, z7, z8, z9, z10⟩, hk⟩
theorem coinC {x0_refused : (Nat → Int32)} {x0_isKept : Int32} {x0_gone : Int32} {x0_spent : Int32} {x1_lineCount : Int32} {x1_goodsCount : Int32} {x1_workCount : Int32} {x1_years : Int32} {x1_lines : (Nat → Int32)} {x1_goods : (Nat → Int32)} {x1_works : (Nat → Int32)} {x1_change : (Nat → Int32)} {x1_coin : (Nat → Int32)} {x1_knownFree : (Nat → Int32)} {x1_isKnown : Int32} {p1 p2 : Int32} : Sf (fX6_coin (x0_refused, x0_isKept, x0_gone, x0_spent) (x1_lineCount, x1_goodsCount, x1_workCount, x1_years, x1_lines, x1_goods, x1_works, x1_change, x1_coin, x1_knownFree, x1_isKnown) p1 p2) (fun r => AP (VTwo 2 9 p1 p2) r.1 ((0 ≤ p1 ∧ p1 ≤ 2) ∧ r.1 = x1_coin p1.toNatClampNeg ∧ r.2.2.1 = va_up x1_coin p1.toNatClampNeg p2 ∧ r.2.2.2 = 0) (r.2.2.1 = x1_coin ∧ r.2.2.2 = x1_isKnown)) := by
  unfold fX6_coin
  dsimp only [u4, u11]
  have no : ¬ VTwo 2 9 p1 p2 → Sf ((fX6_refuse (x0_refused, x0_isKept, x0_gone, x0_spent) (-2)).bind (u2 fun v g => some (v, g, x1_coin, x1_isKnown))) (fun r => AP (VTwo 2 9 p1 p2) r.1 ((0 ≤ p1 ∧ p1 ≤ 2) ∧ r.1 = x1_coin p1.toNatClampNeg ∧ r.2.2.1 = va_up x1_coin p1.toNatClampNeg p2 ∧ r.2.2.2 = 0) (r.2.2.1 = x1_coin ∧ r.2.2.2 = x1_isKnown)) := by
    intro hV
    refine Sf.bind refC ?_
    rintro ⟨v, g⟩ e
    exact Sf.ok (Or.inr ⟨hV, e, rfl, rfl⟩)
  refine Sf.bind sX6_within (fun v1 h1 => Sf.ite (fun hz => no (fun V => gd0 h1 hz V.1)) (fun hz => ?_))
  have c1 := gd1 h1 hz
  refine Sf.bind sX6_within (fun v6 h6 => Sf.ite (fun hz => no (fun V => gd0 h6 hz V.2)) (fun hz => ?_))
  have c2 := gd1 h6 hz
  have hi : 0 ≤ p1 ∧ p1 < 3 := ⟨c1.1, Int32.lt_of_le_of_lt c1.2 (by decide)⟩
  refine Sf.rdb 3 rfl hi (fun v8 e8 => ?_)
  unfold fX1_putCoin
  dsimp only [u11]
  rw [if_neg (Int32.not_lt.mpr hi.1), if_neg (Int32.not_le.mpr hi.2)]
  refine Sf.bind (P := fun r : (Nat → Int32) × Int32 => r.1 = va_up x1_coin p1.toNatClampNeg p2 ∧ r.2 = 0) (Sf.wrb 3 rfl hi (fun f1 e1 => Sf.ok ⟨e1, rfl⟩)) ?_
  rintro ⟨g9, g10⟩ ⟨e9, e10⟩
  exact Sf.ok (Or.inl ⟨⟨c1, c2⟩, c1, e8, e9, e10⟩)
theorem coinR {x0_shelf : (Nat → Int32)} {x0_rowSort : (Nat → Int32)} {x0_rowSize : (Nat → Int32)} {x0_rows : (Nat → Nat → Int64)} {x0_moved : (Nat → Int64)} {x0_shown : (Nat → Int32)} {x0_tape : (Nat → Int32)} {x0_tapeSize : Int32} {x0_refused : (Nat → Int32)} {x0_lines : Int32} {x0_line : (Nat → Nat → Int32)} {x0_changes : (Nat → Int32)} {x0_coins : (Nat → Int32)} {x0_goods : Int32} {x0_good : (Nat → Nat → Int32)} {x0_works : Int32} {x0_work : (Nat → Nat → Int32)} {x0_years : Int32} {x0_gone : Int32} {x0_spent : Int32} {x0_at : Int32} {x0_token : Int32} {x0_from : Int32} {x0_figures : Int64} {x0_fault : Int32} {x0_numbers : (Nat → Int32)} {x0_statements : Int32} {x0_left : (Nat → Int32)} {x0_far : (Nat → Int32)} {x0_tons : Int32} {x0_way : (Nat → Int32)} {x0_steps : Int32} {x0_met : Int64} {x0_queue : (Nat → Int32)} {x0_totals : (Nat → Int32)} {p1 p2 : Int32} (h_x0_shelf : (AI 0 2 x0_shelf)) (h_x0_rowSize : (AI 0 40 x0_rowSize)) (h_x0_tapeSize : (0 ≤ x0_tapeSize ∧ x0_tapeSize ≤ 250)) (h_x0_lines : (0 ≤ x0_lines ∧ x0_lines ≤ 20)) (h_x0_line : (LnM x0_line)) (h_x0_changes : (AI 0 99 x0_changes)) (h_x0_coins : (AI 0 9 x0_coins)) (h_x0_goods : (0 ≤ x0_goods ∧ x0_goods ≤ 8)) (h_x0_good : (GdM x0_good)) (h_x0_works : (0 ≤ x0_works ∧ x0_works ≤ 7)) (h_x0_work : (WkM x0_work)) (h_x0_years : (1 ≤ x0_years ∧ x0_years ≤ 30)) (h_x0_from : (0 ≤ x0_from ∧ x0_from ≤ 250)) (h_x0_far : (AI 0 1000000000 x0_far)) (h_x0_way : (AI 0 22 x0_way)) (h_x0_steps : (0 ≤ x0_steps ∧ x0_steps ≤ 37)) (h_x0_queue : (AI 0 35 x0_queue)) : Sf (fX7_coin (x0_shelf, x0_rowSort, x0_rowSize, x0_rows, x0_moved, x0_shown, x0_tape, x0_tapeSize, x0_refused, x0_lines, x0_line, x0_changes, x0_coins, x0_goods, x0_good, x0_works, x0_work, x0_years, x0_gone, x0_spent, x0_at, x0_token, x0_from, x0_figures, x0_fault, x0_numbers, x0_statements, x0_left, x0_far, x0_tons, x0_way, x0_steps, x0_met, x0_queue, x0_totals) p1 p2) (fun r => AP (VTwo 2 9 p1 p2) r.1 (r.1 = x0_coins p1.toNatClampNeg ∧ r.2.2 = va_up x0_coins p1.toNatClampNeg p2) (r.2.2 = x0_coins)) := by
  unfold fX7_coin
  dsimp only [u35]
  have no : ¬ VTwo 2 9 p1 p2 → Sf ((fX7_refuse (x0_shelf, x0_rowSort, x0_rowSize, x0_rows, x0_moved, x0_shown, x0_tape, x0_tapeSize, x0_refused, x0_lines, x0_line, x0_changes, x0_coins, x0_goods, x0_good, x0_works, x0_work, x0_years, x0_gone, x0_spent, x0_at, x0_token, x0_from, x0_figures, x0_fault, x0_numbers, x0_statements, x0_left, x0_far, x0_tons, x0_way, x0_steps, x0_met, x0_queue, x0_totals) (-2)).bind (u2 fun v g => some (v, g, x0_coins))) (fun r => AP (VTwo 2 9 p1 p2) r.1 (r.1 = x0_coins p1.toNatClampNeg ∧ r.2.2 = va_up x0_coins p1.toNatClampNeg p2) (r.2.2 = x0_coins)) := by
    intro hV
    refine Sf.bind (sX7_refuse h_x0_shelf h_x0_rowSize h_x0_tapeSize h_x0_lines h_x0_line h_x0_changes h_x0_coins h_x0_goods h_x0_good h_x0_works h_x0_work h_x0_years h_x0_from h_x0_far h_x0_way h_x0_steps h_x0_queue (by decide)) ?_
    rintro ⟨v, g⟩ e
    exact Sf.ok (Or.inr ⟨hV, e, rfl⟩)
  refine Sf.bind (s_inq p1 0 2 (by decide) (by decide)) (fun v1 h1 => Sf.ite (fun hz => no (fun V => gd0 h1 hz V.1)) (fun hz => ?_))
  have c1 := gd1 h1 hz
  refine Sf.bind (s_inq p2 0 9 (by decide) (by decide)) (fun v6 h6 => Sf.ite (fun hz => no (fun V => gd0 h6 hz V.2)) (fun hz => ?_))
  have c2 := gd1 h6 hz
  have hi : 0 ≤ p1 ∧ p1 < 3 := ⟨c1.1, Int32.lt_of_le_of_lt c1.2 (by decide)⟩
  refine Sf.rdb 3 rfl hi (fun v8 e8 => ?_)
  refine Sf.wrb 3 rfl hi (fun f9 e9 => ?_)
  exact Sf.ok (Or.inl ⟨⟨c1, c2⟩, e8, e9⟩)
theorem dCoin {x0_refused : (Nat → Int32)} {x0_isKept : Int32} {x0_gone : Int32} {x0_spent : Int32} {x1_lineCount : Int32} {x1_goodsCount : Int32} {x1_workCount : Int32} {x1_years : Int32} {x1_lines : (Nat → Int32)} {x1_goods : (Nat → Int32)} {x1_works : (Nat → Int32)} {x1_change : (Nat → Int32)} {x1_coin : (Nat → Int32)} {x1_knownFree : (Nat → Int32)} {x1_isKnown : Int32} {m_shelf : (Nat → Int32)} {m_rowSort : (Nat → Int32)} {m_rowSize : (Nat → Int32)} {m_rows : (Nat → Nat → Int64)} {m_moved : (Nat → Int64)} {m_shown : (Nat → Int32)} {m_tape : (Nat → Int32)} {m_tapeSize : Int32} {m_refused : (Nat → Int32)} {m_lines : Int32} {m_line : (Nat → Nat → Int32)} {m_changes : (Nat → Int32)} {m_coins : (Nat → Int32)} {m_goods : Int32} {m_good : (Nat → Nat → Int32)} {m_works : Int32} {m_work : (Nat → Nat → Int32)} {m_years : Int32} {m_gone : Int32} {m_spent : Int32} {m_at : Int32} {m_token : Int32} {m_from : Int32} {m_figures : Int64} {m_fault : Int32} {m_numbers : (Nat → Int32)} {m_statements : Int32} {m_left : (Nat → Int32)} {m_far : (Nat → Int32)} {m_tons : Int32} {m_way : (Nat → Int32)} {m_steps : Int32} {m_met : Int64} {m_queue : (Nat → Int32)} {m_totals : (Nat → Int32)} {p1 p2 er e3 fr : Int32} {e0 e2 f0 f2 : Nat → Int32} (h_x1_lineCount : (0 ≤ x1_lineCount ∧ x1_lineCount ≤ 20)) (h_x1_goodsCount : (0 ≤ x1_goodsCount ∧ x1_goodsCount ≤ 8)) (h_x1_workCount : (0 ≤ x1_workCount ∧ x1_workCount ≤ 7)) (h_x1_years : (1 ≤ x1_years ∧ x1_years ≤ 30)) (h_x1_lines : (LnOk x1_lines)) (h_x1_goods : (GdOk x1_goods)) (h_x1_works : (WkOk x1_works)) (h_x1_change : (AI 0 99 x1_change)) (h_x1_coin : (AI 0 9 x1_coin)) (h_m_shelf : (AI 0 2 m_shelf)) (h_m_rowSize : (AI 0 40 m_rowSize)) (h_m_tapeSize : (0 ≤ m_tapeSize ∧ m_tapeSize ≤ 250)) (h_m_lines : (0 ≤ m_lines ∧ m_lines ≤ 20)) (h_m_line : (LnM m_line)) (h_m_changes : (AI 0 99 m_changes)) (h_m_coins : (AI 0 9 m_coins)) (h_m_goods : (0 ≤ m_goods ∧ m_goods ≤ 8)) (h_m_good : (GdM m_good)) (h_m_works : (0 ≤ m_works ∧ m_works ≤ 7)) (h_m_work : (WkM m_work)) (h_m_years : (1 ≤ m_years ∧ m_years ≤ 30)) (h_m_from : (0 ≤ m_from ∧ m_from ≤ 250)) (h_m_far : (AI 0 1000000000 m_far)) (h_m_way : (AI 0 22 m_way)) (h_m_steps : (0 ≤ m_steps ∧ m_steps ≤ 37)) (h_m_queue : (AI 0 35 m_queue)) (hA : (LaD x1_lineCount x1_goodsCount x1_workCount x1_years x1_lines x1_goods x1_works x1_change x1_coin m_lines m_line m_changes m_coins m_goods m_good m_works m_work m_years)) (hk : Kn (FrS x1_lineCount (ro 7 x1_lines) x1_change x1_coin (ro 3 x1_goods) x1_goodsCount (ro 5 x1_works) x1_workCount) x1_knownFree x1_isKnown) (eqA : fX6_coin (x0_refused, x0_isKept, x0_gone, x0_spent) (x1_lineCount, x1_goodsCount, x1_workCount, x1_years, x1_lines, x1_goods, x1_works, x1_change, x1_coin, x1_knownFree, x1_isKnown) p1 p2 = some (er, e0, e2, e3)) (eqB : fX7_coin (m_shelf, m_rowSort, m_rowSize, m_rows, m_moved, m_shown, m_tape, m_tapeSize, m_refused, m_lines, m_line, m_changes, m_coins, m_goods, m_good, m_works, m_work, m_years, m_gone, m_spent, m_at, m_token, m_from, m_figures, m_fault, m_numbers, m_statements, m_left, m_far, m_tons, m_way, m_steps, m_met, m_queue, m_totals) p1 p2 = some (fr, f0, f2)) : er = fr ∧ (LaD x1_lineCount x1_goodsCount x1_workCount x1_years x1_lines x1_goods x1_works x1_change e2 m_lines m_line m_changes f2 m_goods m_good m_works m_work m_years) ∧ Kn (FrS x1_lineCount (ro 7 x1_lines) x1_change e2 (ro 3 x1_goods) x1_goodsCount (ro 5 x1_works) x1_workCount) x1_knownFree e3 := by
  have a := coinC.at eqA
  have b := (coinR h_m_shelf h_m_rowSize h_m_tapeSize h_m_lines h_m_line h_m_changes h_m_coins h_m_goods h_m_good h_m_works h_m_work h_m_years h_m_from h_m_far h_m_way h_m_steps h_m_queue).at eqB
  obtain ⟨⟨z1, z2, z3, z4⟩, z5, z6, z7, z8, z9, z10⟩ := hA
  rcases AP_eq a b with ⟨⟨a0, a1, a2, a3⟩, b1, b2⟩ | ⟨e, ⟨a1, a2⟩, b1⟩
  · have a1 : er = x1_coin p1.toNatClampNeg := a1
    have b1 : fr = m_coins p1.toNatClampNeg := b1
    have a2 : e2 = va_up x1_coin p1.toNatClampNeg p2 := a2
    have b2 : f2 = va_up m_coins p1.toNatClampNeg p2 := b2
    have a3 : e3 = 0 := a3
    subst a2 b2 a3
    exact ⟨(a1.trans (z9 _ (i32_lt (M := 3) (N := 3) rfl ⟨a0.1, Int32.lt_of_le_of_lt a0.2 (by decide)⟩))).trans b1.symm, ⟨⟨z1, z2, z3, z4⟩, z5, z6, z7, z8, up_alike z9, z10⟩, Or.inl rfl⟩
  · have a1 : e2 = x1_coin := a1
    have a2 : e3 = x1_isKnown := a2
    have b1 : f2 = m_coins := b1
    subst a1 a2 b1
    exact ⟨e, ⟨⟨z1, z2, z3, z4⟩, z5, z6, z7, z8, z9, z10⟩, hk⟩
theorem yearsC {x0_refused : (Nat → Int32)} {x0_isKept : Int32} {x0_gone : Int32} {x0_spent : Int32} {x1_lineCount : Int32} {x1_goodsCount : Int32} {x1_workCount : Int32} {x1_years : Int32} {x1_lines : (Nat → Int32)} {x1_goods : (Nat → Int32)} {x1_works : (Nat → Int32)} {x1_change : (Nat → Int32)} {x1_coin : (Nat → Int32)} {x1_knownFree : (Nat → Int32)} {x1_isKnown : Int32} {p1 : Int32} : Sf (fX6_years (x0_refused, x0_isKept, x0_gone, x0_spent) (x1_lineCount, x1_goodsCount, x1_workCount, x1_years, x1_lines, x1_goods, x1_works, x1_change, x1_coin, x1_knownFree, x1_isKnown) p1) (fun r => AP (1 ≤ p1 ∧ p1 ≤ 30) r.1 (r.1 = x1_years ∧ r.2.2 = p1) (r.2.2 = x1_years)) := by
  unfold fX6_years
  dsimp only [u4, u11]
  refine Sf.bind sX6_within (fun v1 h1 => Sf.ite (fun hz => ?_) (fun hz => Sf.ok (Or.inl ⟨gd1 h1 hz, rfl, rfl⟩)))
  refine Sf.bind refC ?_
  rintro ⟨v, g⟩ e
  exact Sf.ok (Or.inr ⟨gd0 h1 hz, e, rfl⟩)
theorem yearsR {x0_shelf : (Nat → Int32)} {x0_rowSort : (Nat → Int32)} {x0_rowSize : (Nat → Int32)} {x0_rows : (Nat → Nat → Int64)} {x0_moved : (Nat → Int64)} {x0_shown : (Nat → Int32)} {x0_tape : (Nat → Int32)} {x0_tapeSize : Int32} {x0_refused : (Nat → Int32)} {x0_lines : Int32} {x0_line : (Nat → Nat → Int32)} {x0_changes : (Nat → Int32)} {x0_coins : (Nat → Int32)} {x0_goods : Int32} {x0_good : (Nat → Nat → Int32)} {x0_works : Int32} {x0_work : (Nat → Nat → Int32)} {x0_years : Int32} {x0_gone : Int32} {x0_spent : Int32} {x0_at : Int32} {x0_token : Int32} {x0_from : Int32} {x0_figures : Int64} {x0_fault : Int32} {x0_numbers : (Nat → Int32)} {x0_statements : Int32} {x0_left : (Nat → Int32)} {x0_far : (Nat → Int32)} {x0_tons : Int32} {x0_way : (Nat → Int32)} {x0_steps : Int32} {x0_met : Int64} {x0_queue : (Nat → Int32)} {x0_totals : (Nat → Int32)} {p1 : Int32} (h_x0_shelf : (AI 0 2 x0_shelf)) (h_x0_rowSize : (AI 0 40 x0_rowSize)) (h_x0_tapeSize : (0 ≤ x0_tapeSize ∧ x0_tapeSize ≤ 250)) (h_x0_lines : (0 ≤ x0_lines ∧ x0_lines ≤ 20)) (h_x0_line : (LnM x0_line)) (h_x0_changes : (AI 0 99 x0_changes)) (h_x0_coins : (AI 0 9 x0_coins)) (h_x0_goods : (0 ≤ x0_goods ∧ x0_goods ≤ 8)) (h_x0_good : (GdM x0_good)) (h_x0_works : (0 ≤ x0_works ∧ x0_works ≤ 7)) (h_x0_work : (WkM x0_work)) (h_x0_years : (1 ≤ x0_years ∧ x0_years ≤ 30)) (h_x0_from : (0 ≤ x0_from ∧ x0_from ≤ 250)) (h_x0_far : (AI 0 1000000000 x0_far)) (h_x0_way : (AI 0 22 x0_way)) (h_x0_steps : (0 ≤ x0_steps ∧ x0_steps ≤ 37)) (h_x0_queue : (AI 0 35 x0_queue)) : Sf (fX7_years (x0_shelf, x0_rowSort, x0_rowSize, x0_rows, x0_moved, x0_shown, x0_tape, x0_tapeSize, x0_refused, x0_lines, x0_line, x0_changes, x0_coins, x0_goods, x0_good, x0_works, x0_work, x0_years, x0_gone, x0_spent, x0_at, x0_token, x0_from, x0_figures, x0_fault, x0_numbers, x0_statements, x0_left, x0_far, x0_tons, x0_way, x0_steps, x0_met, x0_queue, x0_totals) p1) (fun r => AP (1 ≤ p1 ∧ p1 ≤ 30) r.1 (r.1 = x0_years ∧ r.2.2 = p1) (r.2.2 = x0_years)) := by
  unfold fX7_years
  dsimp only [u35]
  refine Sf.bind (s_inq p1 1 30 (by decide) (by decide)) (fun v1 h1 => Sf.ite (fun hz => ?_) (fun hz => Sf.ok (Or.inl ⟨gd1 h1 hz, rfl, rfl⟩)))
  refine Sf.bind (sX7_refuse h_x0_shelf h_x0_rowSize h_x0_tapeSize h_x0_lines h_x0_line h_x0_changes h_x0_coins h_x0_goods h_x0_good h_x0_works h_x0_work h_x0_years h_x0_from h_x0_far h_x0_way h_x0_steps h_x0_queue (by decide)) ?_
  rintro ⟨v, g⟩ e
  exact Sf.ok (Or.inr ⟨gd0 h1 hz, e, rfl⟩)
theorem dYears {x0_refused : (Nat → Int32)} {x0_isKept : Int32} {x0_gone : Int32} {x0_spent : Int32} {x1_lineCount : Int32} {x1_goodsCount : Int32} {x1_workCount : Int32} {x1_years : Int32} {x1_lines : (Nat → Int32)} {x1_goods : (Nat → Int32)} {x1_works : (Nat → Int32)} {x1_change : (Nat → Int32)} {x1_coin : (Nat → Int32)} {x1_knownFree : (Nat → Int32)} {x1_isKnown : Int32} {m_shelf : (Nat → Int32)} {m_rowSort : (Nat → Int32)} {m_rowSize : (Nat → Int32)} {m_rows : (Nat → Nat → Int64)} {m_moved : (Nat → Int64)} {m_shown : (Nat → Int32)} {m_tape : (Nat → Int32)} {m_tapeSize : Int32} {m_refused : (Nat → Int32)} {m_lines : Int32} {m_line : (Nat → Nat → Int32)} {m_changes : (Nat → Int32)} {m_coins : (Nat → Int32)} {m_goods : Int32} {m_good : (Nat → Nat → Int32)} {m_works : Int32} {m_work : (Nat → Nat → Int32)} {m_years : Int32} {m_gone : Int32} {m_spent : Int32} {m_at : Int32} {m_token : Int32} {m_from : Int32} {m_figures : Int64} {m_fault : Int32} {m_numbers : (Nat → Int32)} {m_statements : Int32} {m_left : (Nat → Int32)} {m_far : (Nat → Int32)} {m_tons : Int32} {m_way : (Nat → Int32)} {m_steps : Int32} {m_met : Int64} {m_queue : (Nat → Int32)} {m_totals : (Nat → Int32)} {p1 er e2 fr f2 : Int32} {e0 f0 : Nat → Int32} (h_x1_lineCount : (0 ≤ x1_lineCount ∧ x1_lineCount ≤ 20)) (h_x1_goodsCount : (0 ≤ x1_goodsCount ∧ x1_goodsCount ≤ 8)) (h_x1_workCount : (0 ≤ x1_workCount ∧ x1_workCount ≤ 7)) (h_x1_years : (1 ≤ x1_years ∧ x1_years ≤ 30)) (h_x1_lines : (LnOk x1_lines)) (h_x1_goods : (GdOk x1_goods)) (h_x1_works : (WkOk x1_works)) (h_x1_change : (AI 0 99 x1_change)) (h_x1_coin : (AI 0 9 x1_coin)) (h_m_shelf : (AI 0 2 m_shelf)) (h_m_rowSize : (AI 0 40 m_rowSize)) (h_m_tapeSize : (0 ≤ m_tapeSize ∧ m_tapeSize ≤ 250)) (h_m_lines : (0 ≤ m_lines ∧ m_lines ≤ 20)) (h_m_line : (LnM m_line)) (h_m_changes : (AI 0 99 m_changes)) (h_m_coins : (AI 0 9 m_coins)) (h_m_goods : (0 ≤ m_goods ∧ m_goods ≤ 8)) (h_m_good : (GdM m_good)) (h_m_works : (0 ≤ m_works ∧ m_works ≤ 7)) (h_m_work : (WkM m_work)) (h_m_years : (1 ≤ m_years ∧ m_years ≤ 30)) (h_m_from : (0 ≤ m_from ∧ m_from ≤ 250)) (h_m_far : (AI 0 1000000000 m_far)) (h_m_way : (AI 0 22 m_way)) (h_m_steps : (0 ≤ m_steps ∧ m_steps ≤ 37)) (h_m_queue : (AI 0 35 m_queue)) (hA : (LaD x1_lineCount x1_goodsCount x1_workCount x1_years x1_lines x1_goods x1_works x1_change x1_coin m_lines m_line m_changes m_coins m_goods m_good m_works m_work m_years)) (eqA : fX6_years (x0_refused, x0_isKept, x0_gone, x0_spent) (x1_lineCount, x1_goodsCount, x1_workCount, x1_years, x1_lines, x1_goods, x1_works, x1_change, x1_coin, x1_knownFree, x1_isKnown) p1 = some (er, e0, e2)) (eqB : fX7_years (m_shelf, m_rowSort, m_rowSize, m_rows, m_moved, m_shown, m_tape, m_tapeSize, m_refused, m_lines, m_line, m_changes, m_coins, m_goods, m_good, m_works, m_work, m_years, m_gone, m_spent, m_at, m_token, m_from, m_figures, m_fault, m_numbers, m_statements, m_left, m_far, m_tons, m_way, m_steps, m_met, m_queue, m_totals) p1 = some (fr, f0, f2)) : er = fr ∧ (LaD x1_lineCount x1_goodsCount x1_workCount e2 x1_lines x1_goods x1_works x1_change x1_coin m_lines m_line m_changes m_coins m_goods m_good m_works m_work f2) := by
  have a := yearsC.at eqA
  have b := (yearsR h_m_shelf h_m_rowSize h_m_tapeSize h_m_lines h_m_line h_m_changes h_m_coins h_m_goods h_m_good h_m_works h_m_work h_m_years h_m_from h_m_far h_m_way h_m_steps h_m_queue).at eqB
  obtain ⟨⟨z1, z2, z3, z4⟩, z5⟩ := hA
  rcases AP_eq a b with ⟨⟨a1, a2⟩, b1, b2⟩ | ⟨e, a1, b1⟩
  · have a1 : er = x1_years := a1
    have b1 : fr = m_years := b1
    have a2 : e2 = p1 := a2
    have b2 : f2 = p1 := b2
    exact ⟨by rw [a1, b1, z4], ⟨z1, z2, z3, by rw [a2, b2]⟩, z5⟩
  · have a1 : e2 = x1_years := a1
    have b1 : f2 = m_years := b1
    exact ⟨e, ⟨z1, z2, z3, by rw [a1, b1, z4]⟩, z5⟩
end
section
/-! work, washed -/
theorem six {q : Int32} (h : 0 ≤ q ∧ q ≤ 5) : q = 0 ∨ q = 1 ∨ q = 2 ∨ q = 3 ∨ q = 4 ∨ q = 5 := by grind
abbrev Und (p q : Int32) : Prop := q = 0 ∨ p = q ∨ (q = 1 ∧ p = 2) ∨ (q = 4 ∧ p = 5)
abbrev UndZ (z q : Int32) : Prop := (z = 0 ∧ q = 0) ∨ ((1 ≤ z ∧ z ≤ 5) ∧ Und z q)
abbrev UndD (z2 z3 : Int32) : Prop := (z2 = -1 ∧ z3 ≤ 4) ∨ (z2 = 0 ∧ z3 ≤ 3) ∨ ((z2 = 1 ∨ z2 = 4 ∨ z2 = 3) ∧ z3 ≤ 2) ∨ ((z2 = 2 ∨ z2 = 5) ∧ z3 ≤ 0)
theorem UndZ_next {z q : Int32} (hz : 0 ≤ z ∧ z ≤ 5) (hq : 0 ≤ q ∧ q ≤ 5) (hne : ¬ z = q) : UndZ (ABV z.toNatClampNeg) q ↔ UndZ z q := by
  rcases six hz with rfl | rfl | rfl | rfl | rfl | rfl <;> rcases six hq with rfl | rfl | rfl | rfl | rfl | rfl <;> first | exact absurd rfl hne | decide
theorem isUnderC {n : Nat} {p q : Int32} (hn : 1000000000000 ≤ n) (hp : 1 ≤ p ∧ p ≤ 5) (hq : 0 ≤ q ∧ q ≤ 5) : Sf (fX6_isUnder n p q) (fun r => (r = 1 ∧ Und p q) ∨ (r = 0 ∧ ¬ Und p q)) := by
  unfold fX6_isUnder
  refine Sf.bindS (P := fun _ => Und p q) (P' := fun _ => ¬ Und p q) ?_ (fun _ h => Sf.ok (Or.inl ⟨rfl, h⟩)) (fun _ h => Sf.ok (Or.inr ⟨rfl, h⟩))
  have hz0 : UndZ p q ↔ Und p q := ⟨fun h => by
    rcases h with h | h
    · rw [h.1] at hp; exact absurd hp.1 (by decide)
    · exact h.2, fun h => Or.inr ⟨hp, h⟩⟩
  refine Sf.loop2 (fun (z2 z3 : Int32) => (UndZ z2 q ↔ Und p q) ∧ 0 ≤ z3 ∧ UndD z2 z3) (fun z2 z3 => muUp z3) (fun z2 z3 h => ?_) (show (UndZ p q ↔ Und p q) ∧ 0 ≤ (0 : Int32) ∧ UndD p 0 from ⟨hz0, by decide, ?_⟩) (muUp_n hn)
  · obtain ⟨h1, h2, h3⟩ := h
    unfold fX6_isUnder_s4
    refine Sf.ite (fun hc => ?_) (fun hc => ?_)
    · exfalso
      unfold UndD at h3
      clear h1 hz0
      grind
    refine Sf.bind sX6_within (fun v5 h5 => ?_)
    refine Sf.ite (fun hv => ?_) (fun hv => ?_)
    · refine Sf.inr (show ¬ Und p q from fun hu => ?_)
      have hno := gd0 h5 hv
      rcases h1.mpr hu with h | h
      · exact hno (by rw [h.1]; decide)
      · exact hno ⟨Int32.le_trans (by decide) h.1.1, h.1.2⟩
    have hz := gd1 h5 hv
    refine Sf.ite (fun he => ?_) (fun he => ?_)
    · refine Sf.inr (show Und p q from h1.mp ?_)
      rw [← he]
      rcases six hz with rfl | rfl | rfl | rfl | rfl | rfl <;> decide
    refine Sf.rdb 6 rfl ⟨hz.1, Int32.lt_of_le_of_lt hz.2 (by decide)⟩ (fun v7 e7 => ?_)
    refine Sf.inl (show (UndZ v7 q ↔ Und p q) ∧ 0 ≤ z3 + 1 ∧ UndD v7 (z3 + 1) from ⟨?_, by clear h1 hz0 h3; grind, ?_⟩) (muUp_lt hc)
    · rw [e7, UndZ_next hz hq he]
      exact h1
    · rw [e7]
      unfold UndD at h3 ⊢
      clear h1 hz0
      rcases six hz with rfl | rfl | rfl | rfl | rfl | rfl
      · rw [show ABV (0 : Int32).toNatClampNeg = -1 from rfl]; grind
      · rw [show ABV (1 : Int32).toNatClampNeg = 0 from rfl]; grind
      · rw [show ABV (2 : Int32).toNatClampNeg = 1 from rfl]; grind
      · rw [show ABV (3 : Int32).toNatClampNeg = 0 from rfl]; grind
      · rw [show ABV (4 : Int32).toNatClampNeg = 0 from rfl]; grind
      · rw [show ABV (5 : Int32).toNatClampNeg = 4 from rfl]; grind
  · unfold UndD
    clear hz0
    rcases six ⟨Int32.le_trans (by decide) hp.1, hp.2⟩ with rfl | rfl | rfl | rfl | rfl | rfl <;> decide
def VA (lc k a : Int32) : Prop := (k = 1 ∨ k = 2 → 0 ≤ a ∧ a < lc) ∧ (¬ (k = 1 ∨ k = 2) → 0 ≤ a ∧ a ≤ 11)
def VB (k a b : Int32) : Prop := (k = 1 ∨ k = 2 → 0 ≤ b ∧ b ≤ 2) ∧ (k = 3 → 0 ≤ b ∧ b ≤ 99) ∧ (¬ (k = 1 ∨ k = 2) ∧ ¬ k = 3 → (0 ≤ b ∧ b ≤ 11) ∧ ¬ b = a)
def V3 (lc k a b : Int32) : Prop := (1 ≤ k ∧ k ≤ 5) ∧ VA lc k a ∧ VB k a b
theorem greatA {x0_lineCount : Int32} {x0_goodsCount : Int32} {x0_workCount : Int32} {x0_years : Int32} {x0_lines : (Nat → Int32)} {x0_goods : (Nat → Int32)} {x0_works : (Nat → Int32)} {x0_change : (Nat → Int32)} {x0_coin : (Nat → Int32)} {x0_knownFree : (Nat → Int32)} {x0_isKnown : Int32} {k : Int32} : Sf (fX1_greatestA (x0_lineCount, x0_goodsCount, x0_workCount, x0_years, x0_lines, x0_goods, x0_works, x0_change, x0_coin, x0_knownFree, x0_isKnown) k) (fun r => r = if k = 1 ∨ k = 2 then x0_lineCount - 1 else 11) := by
  unfold fX1_greatestA
  dsimp only [u11]
  refine Sf.ite (fun h => Sf.ok (by rw [if_pos (Or.inl h)])) (fun h => Sf.ite (fun h2 => Sf.ok (by rw [if_pos (Or.inr h2)])) (fun h2 => Sf.ok (by rw [if_neg]; rintro (e | e); exact h e; exact h2 e)))
theorem greatB {k : Int32} : Sf (fX1_greatestB k) (fun r => r = if k = 1 ∨ k = 2 then 2 else if k = 3 then 99 else 11) := by
  unfold fX1_greatestB
  refine Sf.ite (fun h => Sf.ok (by rw [if_pos (Or.inl h)])) (fun h => Sf.ite (fun h2 => Sf.ok (by rw [if_pos (Or.inr h2)])) (fun h2 => ?_))
  rw [if_neg (show ¬ (k = 1 ∨ k = 2) by rintro (e | e); exact h e; exact h2 e)]
  exact Sf.ite (fun h3 => Sf.ok (by rw [if_pos h3])) (fun h3 => Sf.ok (by rw [if_neg h3]))
theorem gA_iff {lc k a : Int32} (hl : 0 ≤ lc ∧ lc ≤ 20) : (0 ≤ a ∧ a ≤ (if k = 1 ∨ k = 2 then lc - 1 else 11)) ↔ VA lc k a := by
  unfold VA
  by_cases h : k = 1 ∨ k = 2
  · rw [if_pos h]
    constructor
    · intro hh
      exact ⟨fun _ => ⟨hh.1, by clear h; grind⟩, fun hn => absurd h hn⟩
    · intro hh
      have := hh.1 h
      exact ⟨this.1, by clear h hh; grind⟩
  · rw [if_neg h]
    exact ⟨fun hh => ⟨fun hn => absurd hn h, fun _ => hh⟩, fun hh => hh.2 h⟩
theorem gB_iff {k a b : Int32} : ((0 ≤ b ∧ b ≤ (if k = 1 ∨ k = 2 then 2 else if k = 3 then 99 else 11)) ∧ (¬ (k = 1 ∨ k = 2) ∧ ¬ k = 3 → ¬ b = a)) ↔ VB k a b := by
  unfold VB
  by_cases h : k = 1 ∨ k = 2
  · rw [if_pos h]
    have h3 : ¬ k = 3 := by rintro rfl; rcases h with h | h <;> exact absurd h (by decide)
    exact ⟨fun hh => ⟨fun _ => hh.1, fun e => absurd e h3, fun e => absurd h e.1⟩, fun hh => ⟨hh.1 h, fun e => absurd h e.1⟩⟩
  · rw [if_neg h]
    by_cases h3 : k = 3
    · rw [if_pos h3]
      exact ⟨fun hh => ⟨fun e => absurd e h, fun _ => hh.1, fun e => absurd h3 e.2⟩, fun hh => ⟨hh.2.1 h3, fun e => absurd h3 e.2⟩⟩
    · rw [if_neg h3]
      exact ⟨fun hh => ⟨fun e => absurd e h, fun e => absurd e h3, fun e => ⟨hh.1, hh.2 e⟩⟩, fun hh => ⟨(hh.2.2 ⟨h, h3⟩).1, fun e => (hh.2.2 e).2⟩⟩
theorem allowS {n : Nat} {x0_lineCount : Int32} {x0_goodsCount : Int32} {x0_workCount : Int32} {x0_years : Int32} {x0_lines : (Nat → Int32)} {x0_goods : (Nat → Int32)} {x0_works : (Nat → Int32)} {x0_change : (Nat → Int32)} {x0_coin : (Nat → Int32)} {x0_knownFree : (Nat → Int32)} {x0_isKnown : Int32} {k a b : Int32} (hn : 1000000000000 ≤ n) (hl : 0 ≤ x0_lineCount ∧ x0_lineCount ≤ 20) : Sf (fX1_allowsWork n (x0_lineCount, x0_goodsCount, x0_workCount, x0_years, x0_lines, x0_goods, x0_works, x0_change, x0_coin, x0_knownFree, x0_isKnown) k a b) (fun r => (r = 0 ∧ ¬ V3 x0_lineCount k a b) ∨ (¬ r = 0 ∧ V3 x0_lineCount k a b)) := by
  unfold fX1_allowsWork
  dsimp only [u11]
  refine Sf.bind sX6_within (fun v1 h1 => Sf.ite (fun hz => Sf.ok (Or.inl ⟨rfl, fun V => gd0 h1 hz V.1⟩)) (fun hz => ?_))
  have hk := gd1 h1 hz
  have j : (¬ (k = 1 ∨ k = 2) ∧ ¬ k = 3 → ¬ b = a) → Sf (fX1_allowsWork_j24 k a b x0_lineCount x0_goodsCount x0_workCount x0_years x0_lines x0_goods x0_works x0_change x0_coin x0_knownFree x0_isKnown) (fun r => (r = 0 ∧ ¬ V3 x0_lineCount k a b) ∨ (¬ r = 0 ∧ V3 x0_lineCount k a b)) := by
    intro hne
    unfold fX1_allowsWork_j24
    refine Sf.bind greatA (fun v5 e5 => ?_)
    refine Sf.bind sX6_within (fun v7 h7 => Sf.ite (fun hz => Sf.ok (Or.inl ⟨rfl, fun V => gd0 h7 hz (by rw [e5]; exact (gA_iff hl).mpr V.2.1)⟩)) (fun hz => ?_))
    have c7 := gd1 h7 hz
    rw [e5] at c7
    refine Sf.bind greatB (fun v9 e9 => ?_)
    refine Sf.bind sX6_within (fun v11 h11 => Sf.ite (fun hz => Sf.ok (Or.inl ⟨rfl, fun V => gd0 h11 hz (by rw [e9]; exact (gB_iff.mpr V.2.2).1)⟩)) (fun hz => ?_))
    have c11 := gd1 h11 hz
    rw [e9] at c11
    exact Sf.ok (Or.inr ⟨by decide, hk, (gA_iff hl).mp c7, gB_iff.mp ⟨c11, hne⟩⟩)
  have u4 : Und k 4 ↔ (¬ (k = 1 ∨ k = 2) ∧ ¬ k = 3) := by
    clear j
    rcases six ⟨Int32.le_trans (by decide) hk.1, hk.2⟩ with rfl | rfl | rfl | rfl | rfl | rfl
    · exact absurd hk.1 (by decide)
    all_goals decide
  refine Sf.bind (isUnderC hn hk (by decide)) (fun v3 h3 => ?_)
  refine Sf.ite (fun hv => ?_) (fun hv => ?_)
  · refine j (fun h => ?_)
    rcases h3 with h3 | h3
    · rw [h3.1] at hv; exact absurd hv (by decide)
    · exact absurd (u4.mpr h) h3.2
  · have hu : Und k 4 := by
      rcases h3 with h3 | h3
      · exact h3.2
      · exact absurd h3.1 hv
    refine Sf.ite (fun he => Sf.ok (Or.inl ⟨rfl, fun V => (V.2.2.2.2 (u4.mp hu)).2 he.symm⟩)) (fun he => j (fun _ e => he e.symm))
theorem addWorkS {x0_lineCount : Int32} {x0_goodsCount : Int32} {x0_workCount : Int32} {x0_years : Int32} {x0_lines : (Nat → Int32)} {x0_goods : (Nat → Int32)} {x0_works : (Nat → Int32)} {x0_change : (Nat → Int32)} {x0_coin : (Nat → Int32)} {x0_knownFree : (Nat → Int32)} {x0_isKnown : Int32} {p1 p2 p3 p4 : Int32} (hL : 0 ≤ x0_workCount ∧ x0_workCount < 7) : Sf (fX1_addWork (x0_lineCount, x0_goodsCount, x0_workCount, x0_years, x0_lines, x0_goods, x0_works, x0_change, x0_coin, x0_knownFree, x0_isKnown) p1 p2 p3 p4) (fun r => r.1 = x0_workCount + 1 ∧ r.2.2 = 0 ∧ AddR 5 (ro 5 x0_works) (ro 5 r.2.1) x0_workCount.toNatClampNeg [p1, p2, p3, p4, 0]) := by
  unfold fX1_addWork
  dsimp only [u11]
  rw [if_pos hL.2]
  have ix : ∀ c : Int32, 0 ≤ c ∧ c < 5 → (0 ≤ x0_workCount * 5 + c ∧ x0_workCount * 5 + c < 35) ∧ (x0_workCount * 5 + c).toNatClampNeg = 5 * x0_workCount.toNatClampNeg + c.toNatClampNeg := by
    intro c hc
    have e := ixm (p := x0_workCount) (m := 5) (c := c) ⟨hL.1, Int32.le_trans (Int32.le_of_lt hL.2) (by decide)⟩ (by decide) ⟨hc.1, Int32.le_trans (Int32.le_of_lt hc.2) (by decide)⟩
    refine ⟨by clear e; grind, ?_⟩
    rw [e, show (5 : Int32).toNatClampNeg = 5 from rfl, Nat.mul_comm]
  refine Sf.wrb 35 rfl (ix 0 (by decide)).1 (fun f1 e1 => ?_)
  refine Sf.wrb 35 rfl (ix 1 (by decide)).1 (fun f2 e2 => ?_)
  refine Sf.wrb 35 rfl (ix 2 (by decide)).1 (fun f3 e3 => ?_)
  refine Sf.wrb 35 rfl (ix 3 (by decide)).1 (fun f4 e4 => ?_)
  refine Sf.wrb 35 rfl (ix 4 (by decide)).1 (fun f5 e5 => ?_)
  rw [(ix 0 (by decide)).2, show (0 : Int32).toNatClampNeg = 0 from rfl] at e1
  rw [(ix 1 (by decide)).2, show (1 : Int32).toNatClampNeg = 1 from rfl] at e2
  rw [(ix 2 (by decide)).2, show (2 : Int32).toNatClampNeg = 2 from rfl] at e3
  rw [(ix 3 (by decide)).2, show (3 : Int32).toNatClampNeg = 3 from rfl] at e4
  rw [(ix 4 (by decide)).2, show (4 : Int32).toNatClampNeg = 4 from rfl] at e5
  refine Sf.ok ⟨rfl, rfl, fun l hl c hc => ?_, fun c hc => ?_⟩
  · show ro 5 f5 l c = _
    rw [ro_eq hc, ro_eq hc, e5, va_ne _ _ (by omega), e4, va_ne _ _ (by omega), e3, va_ne _ _ (by omega), e2, va_ne _ _ (by omega), e1, va_ne _ _ (by omega)]
  · show ro 5 f5 _ c = _
    rw [ro_eq hc, e5, e4, e3, e2, e1]
    rcases (show c = 0 ∨ c = 1 ∨ c = 2 ∨ c = 3 ∨ c = 4 by omega) with rfl | rfl | rfl | rfl | rfl
    · rw [va_ne _ _ (by omega), va_ne _ _ (by omega), va_ne _ _ (by omega), va_ne _ _ (by omega), va_eq]; rfl
    · rw [va_ne _ _ (by omega), va_ne _ _ (by omega), va_ne _ _ (by omega), va_eq]; rfl
    · rw [va_ne _ _ (by omega), va_ne _ _ (by omega), va_eq]; rfl
    · rw [va_ne _ _ (by omega), va_eq]; rfl
    · rw [va_eq]; rfl
def VWork (lc p1 p2 p3 p4 : Int32) : Prop := V3 lc p1 p2 p3 ∧ (0 ≤ p4 ∧ p4 ≤ 9999)
theorem workC {n : Nat} {x0_refused : (Nat → Int32)} {x0_isKept : Int32} {x0_gone : Int32} {x0_spent : Int32} {x1_lineCount : Int32} {x1_goodsCount : Int32} {x1_workCount : Int32} {x1_years : Int32} {x1_lines : (Nat → Int32)} {x1_goods : (Nat → Int32)} {x1_works : (Nat → Int32)} {x1_change : (Nat → Int32)} {x1_coin : (Nat → Int32)} {x1_knownFree : (Nat → Int32)} {x1_isKnown : Int32} {p1 p2 p3 p4 : Int32} (hn : 1000000000000 ≤ n) (h_x1_lineCount : 0 ≤ x1_lineCount ∧ x1_lineCount ≤ 20) (h_x1_workCount : 0 ≤ x1_workCount ∧ x1_workCount ≤ 7) : Sf (fX6_work n (x0_refused, x0_isKept, x0_gone, x0_spent) (x1_lineCount, x1_goodsCount, x1_workCount, x1_years, x1_lines, x1_goods, x1_works, x1_change, x1_coin, x1_knownFree, x1_isKnown) p1 p2 p3 p4) (fun r => AQ (VWork x1_lineCount p1 p2 p3 p4) (7 ≤ x1_workCount) r.1 (V3 x1_lineCount p1 p2 p3 ∧ r.1 = x1_workCount ∧ r.2.2.1 = x1_workCount + 1 ∧ r.2.2.2.2 = 0 ∧ AddR 5 (ro 5 x1_works) (ro 5 r.2.2.2.1) x1_workCount.toNatClampNeg [p1, p2, p3, p4, 0]) (r.2.2.1 = x1_workCount ∧ r.2.2.2.1 = x1_works ∧ r.2.2.2.2 = x1_isKnown)) := by
  unfold fX6_work
  dsimp only [u4, u11]
  have no : ¬ VWork x1_lineCount p1 p2 p3 p4 → Sf ((fX6_refuse (x0_refused, x0_isKept, x0_gone, x0_spent) (-2)).bind (u2 fun v g => some (v, g, x1_workCount, x1_works, x1_isKnown))) (fun r => AQ (VWork x1_lineCount p1 p2 p3 p4) (7 ≤ x1_workCount) r.1 (V3 x1_lineCount p1 p2 p3 ∧ r.1 = x1_workCount ∧ r.2.2.1 = x1_workCount + 1 ∧ r.2.2.2.2 = 0 ∧ AddR 5 (ro 5 x1_works) (ro 5 r.2.2.2.1) x1_workCount.toNatClampNeg [p1, p2, p3, p4, 0]) (r.2.2.1 = x1_workCount ∧ r.2.2.2.1 = x1_works ∧ r.2.2.2.2 = x1_isKnown)) := by
    intro hV
    refine Sf.bind refC ?_
    rintro ⟨v, g⟩ e
    exact Sf.ok (Or.inr (Or.inr ⟨hV, e, rfl, rfl, rfl⟩))
  refine Sf.bind (allowS hn h_x1_lineCount) (fun v1 h1 => Sf.ite (fun hz => no (fun V => ?_)) (fun hz => ?_))
  · rcases h1 with h1 | h1
    · exact h1.2 V.1
    · exact h1.1 hz
  have c1 : V3 x1_lineCount p1 p2 p3 := by
    rcases h1 with h1 | h1
    · exact absurd h1.1 hz
    · exact h1.2
  refine Sf.bind sX6_within (fun v6 h6 => Sf.ite (fun hz => no (fun V => gd0 h6 hz V.2)) (fun hz => ?_))
  have V : VWork x1_lineCount p1 p2 p3 p4 := ⟨c1, gd1 h6 hz⟩
  refine Sf.ite (fun hl => ?_) (fun hl => ?_)
  · refine Sf.bind (addWorkS ⟨h_x1_workCount.1, hl⟩) ?_
    rintro ⟨g31, g32, g33⟩ ⟨e1, e2, e3⟩
    have e1 : g31 = x1_workCount + 1 := e1
    refine Sf.ok (Or.inl ⟨V, Int32.not_le.mpr hl, c1, ?_, e1, e2, e3⟩)
    show g31 - 1 = x1_workCount
    rw [e1]
    grind
  · refine Sf.bind refC ?_
    rintro ⟨v, g⟩ e
    exact Sf.ok (Or.inr (Or.inl ⟨V, Int32.not_lt.mp hl, e, rfl, rfl, rfl⟩))
theorem mbF {x0_shelf : (Nat → Int32)} {x0_rowSort : (Nat → Int32)} {x0_rowSize : (Nat → Int32)} {x0_rows : (Nat → Nat → Int64)} {x0_moved : (Nat → Int64)} {x0_shown : (Nat → Int32)} {x0_tape : (Nat → Int32)} {x0_tapeSize : Int32} {x0_refused : (Nat → Int32)} {x0_lines : Int32} {x0_line : (Nat → Nat → Int32)} {x0_changes : (Nat → Int32)} {x0_coins : (Nat → Int32)} {x0_goods : Int32} {x0_good : (Nat → Nat → Int32)} {x0_works : Int32} {x0_work : (Nat → Nat → Int32)} {x0_years : Int32} {x0_gone : Int32} {x0_spent : Int32} {x0_at : Int32} {x0_token : Int32} {x0_from : Int32} {x0_figures : Int64} {x0_fault : Int32} {x0_numbers : (Nat → Int32)} {x0_statements : Int32} {x0_left : (Nat → Int32)} {x0_far : (Nat → Int32)} {x0_tons : Int32} {x0_way : (Nat → Int32)} {x0_steps : Int32} {x0_met : Int64} {x0_queue : (Nat → Int32)} {x0_totals : (Nat → Int32)} {k a : Int32} (h_x0_shelf : (AI 0 2 x0_shelf)) (h_x0_rowSize : (AI 0 40 x0_rowSize)) (h_x0_tapeSize : (0 ≤ x0_tapeSize ∧ x0_tapeSize ≤ 250)) (h_x0_lines : (0 ≤ x0_lines ∧ x0_lines ≤ 20)) (h_x0_line : (LnM x0_line)) (h_x0_changes : (AI 0 99 x0_changes)) (h_x0_coins : (AI 0 9 x0_coins)) (h_x0_goods : (0 ≤ x0_goods ∧ x0_goods ≤ 8)) (h_x0_good : (GdM x0_good)) (h_x0_works : (0 ≤ x0_works ∧ x0_works ≤ 7)) (h_x0_work : (WkM x0_work)) (h_x0_years : (1 ≤ x0_years ∧ x0_years ≤ 30)) (h_x0_from : (0 ≤ x0_from ∧ x0_from ≤ 250)) (h_x0_far : (AI 0 1000000000 x0_far)) (h_x0_way : (AI 0 22 x0_way)) (h_x0_steps : (0 ≤ x0_steps ∧ x0_steps ≤ 37)) (h_x0_queue : (AI 0 35 x0_queue)) : Sf (fX7_mayBeFirst (x0_shelf, x0_rowSort, x0_rowSize, x0_rows, x0_moved, x0_shown, x0_tape, x0_tapeSize, x0_refused, x0_lines, x0_line, x0_changes, x0_coins, x0_goods, x0_good, x0_works, x0_work, x0_years, x0_gone, x0_spent, x0_at, x0_token, x0_from, x0_figures, x0_fault, x0_numbers, x0_statements, x0_left, x0_far, x0_tons, x0_way, x0_steps, x0_met, x0_queue, x0_totals) k a) (fun r => (r = 0 ∧ ¬ VA x0_lines k a) ∨ (¬ r = 0 ∧ VA x0_lines k a)) := by
  have jl : (k = 1 ∨ k = 2) → Sf ((fX7_isLine (x0_shelf, x0_rowSort, x0_rowSize, x0_rows, x0_moved, x0_shown, x0_tape, x0_tapeSize, x0_refused, x0_lines, x0_line, x0_changes, x0_coins, x0_goods, x0_good, x0_works, x0_work, x0_years, x0_gone, x0_spent, x0_at, x0_token, x0_from, x0_figures, x0_fault, x0_numbers, x0_statements, x0_left, x0_far, x0_tons, x0_way, x0_steps, x0_met, x0_queue, x0_totals) a).bind (fun v1 => (zb v1).bind fun v3 => some v3)) (fun r => (r = 0 ∧ ¬ VA x0_lines k a) ∨ (¬ r = 0 ∧ VA x0_lines k a)) := by
    intro hk
    refine Sf.bind (sX7_isLine h_x0_shelf h_x0_rowSize h_x0_tapeSize h_x0_lines h_x0_line h_x0_changes h_x0_coins h_x0_goods h_x0_good h_x0_works h_x0_work h_x0_years h_x0_from h_x0_far h_x0_way h_x0_steps h_x0_queue) (fun v1 h1 => ?_)
    refine Sf.zbb (by rcases h1 with h | h; exact Or.inr h.1; exact Or.inl h.1) (fun r e => Sf.ok ?_)
    rw [e]
    rcases h1 with h | h
    · exact Or.inr ⟨by rw [h.1]; decide, fun _ => h.2, fun hn => absurd hk hn⟩
    · exact Or.inl ⟨h.1, fun V => h.2 (V.1 hk)⟩
  unfold fX7_mayBeFirst
  dsimp only [u35]
  refine Sf.ite (fun h => jl (Or.inl h)) (fun h => Sf.ite (fun h2 => jl (Or.inr h2)) (fun h2 => ?_))
  have hk : ¬ (k = 1 ∨ k = 2) := by rintro (e | e); exact h e; exact h2 e
  refine Sf.bind sX7_isPlace (fun v1 h1 => ?_)
  refine Sf.zbb (by rcases h1 with h | h; exact Or.inr h.1; exact Or.inl h.1) (fun r e => Sf.ok ?_)
  rw [e]
  by_cases hz : v1 = 0
  · exact Or.inl ⟨hz, fun V => gd0 h1 hz (V.2 hk)⟩
  · exact Or.inr ⟨hz, fun e => absurd e hk, fun _ => gd1 h1 hz⟩
theorem mbS {k a b : Int32} : Sf (fX7_mayBeSecond k a b) (fun r => (r = 0 ∧ ¬ VB k a b) ∨ (¬ r = 0 ∧ VB k a b)) := by
  have jl : (k = 1 ∨ k = 2) → Sf (fX7_mayBeSecond_j10 b) (fun r => (r = 0 ∧ ¬ VB k a b) ∨ (¬ r = 0 ∧ VB k a b)) := by
    intro hk
    have h3 : ¬ k = 3 := by rintro rfl; rcases hk with h | h <;> exact absurd h (by decide)
    unfold fX7_mayBeSecond_j10
    refine Sf.bind (s_inq b 0 2 (by decide) (by decide)) (fun v1 h1 => ?_)
    refine Sf.zbb (by rcases h1 with h | h; exact Or.inr h.1; exact Or.inl h.1) (fun r e => Sf.ok ?_)
    rw [e]
    by_cases hz : v1 = 0
    · exact Or.inl ⟨hz, fun V => gd0 h1 hz (V.1 hk)⟩
    · exact Or.inr ⟨hz, fun _ => gd1 h1 hz, fun e => absurd e h3, fun e => absurd hk e.1⟩
  unfold fX7_mayBeSecond
  refine Sf.ite (fun h => jl (Or.inl h)) (fun h => Sf.ite (fun h2 => jl (Or.inr h2)) (fun h2 => ?_))
  have hk : ¬ (k = 1 ∨ k = 2) := by rintro (e | e); exact h e; exact h2 e
  refine Sf.ite (fun h3 => ?_) (fun h3 => ?_)
  · refine Sf.bind (s_inq b 0 99 (by decide) (by decide)) (fun v1 h1 => ?_)
    refine Sf.zbb (by rcases h1 with h | h; exact Or.inr h.1; exact Or.inl h.1) (fun r e => Sf.ok ?_)
    rw [e]
    by_cases hz : v1 = 0
    · exact Or.inl ⟨hz, fun V => gd0 h1 hz (V.2.1 h3)⟩
    · exact Or.inr ⟨hz, fun e => absurd e hk, fun _ => gd1 h1 hz, fun e => absurd h3 e.2⟩
  · refine Sf.bind sX7_isPlace (fun v1 h1 => Sf.ite (fun hz => Sf.ok (Or.inl ⟨rfl, fun V => gd0 h1 hz (V.2.2 ⟨hk, h3⟩).1⟩)) (fun hz => ?_))
    exact Sf.ite (fun he => Sf.ok (Or.inl ⟨rfl, fun V => (V.2.2 ⟨hk, h3⟩).2 he⟩)) (fun he => Sf.ok (Or.inr ⟨by decide, fun e => absurd e hk, fun e => absurd e h3, fun _ => ⟨gd1 h1 hz, he⟩⟩))
theorem workR {x0_shelf : (Nat → Int32)} {x0_rowSort : (Nat → Int32)} {x0_rowSize : (Nat → Int32)} {x0_rows : (Nat → Nat → Int64)} {x0_moved : (Nat → Int64)} {x0_shown : (Nat → Int32)} {x0_tape : (Nat → Int32)} {x0_tapeSize : Int32} {x0_refused : (Nat → Int32)} {x0_lines : Int32} {x0_line : (Nat → Nat → Int32)} {x0_changes : (Nat → Int32)} {x0_coins : (Nat → Int32)} {x0_goods : Int32} {x0_good : (Nat → Nat → Int32)} {x0_works : Int32} {x0_work : (Nat → Nat → Int32)} {x0_years : Int32} {x0_gone : Int32} {x0_spent : Int32} {x0_at : Int32} {x0_token : Int32} {x0_from : Int32} {x0_figures : Int64} {x0_fault : Int32} {x0_numbers : (Nat → Int32)} {x0_statements : Int32} {x0_left : (Nat → Int32)} {x0_far : (Nat → Int32)} {x0_tons : Int32} {x0_way : (Nat → Int32)} {x0_steps : Int32} {x0_met : Int64} {x0_queue : (Nat → Int32)} {x0_totals : (Nat → Int32)} {p1 p2 p3 p4 : Int32} (h_x0_shelf : (AI 0 2 x0_shelf)) (h_x0_rowSize : (AI 0 40 x0_rowSize)) (h_x0_tapeSize : (0 ≤ x0_tapeSize ∧ x0_tapeSize ≤ 250)) (h_x0_lines : (0 ≤ x0_lines ∧ x0_lines ≤ 20)) (h_x0_line : (LnM x0_line)) (h_x0_changes : (AI 0 99 x0_changes)) (h_x0_coins : (AI 0 9 x0_coins)) (h_x0_goods : (0 ≤ x0_goods ∧ x0_goods ≤ 8)) (h_x0_good : (GdM x0_good)) (h_x0_works : (0 ≤ x0_works ∧ x0_works ≤ 7)) (h_x0_work : (WkM x0_work)) (h_x0_years : (1 ≤ x0_years ∧ x0_years ≤ 30)) (h_x0_from : (0 ≤ x0_from ∧ x0_from ≤ 250)) (h_x0_far : (AI 0 1000000000 x0_far)) (h_x0_way : (AI 0 22 x0_way)) (h_x0_steps : (0 ≤ x0_steps ∧ x0_steps ≤ 37)) (h_x0_queue : (AI 0 35 x0_queue)) : Sf (fX7_work (x0_shelf, x0_rowSort, x0_rowSize, x0_rows, x0_moved, x0_shown, x0_tape, x0_tapeSize, x0_refused, x0_lines, x0_line, x0_changes, x0_coins, x0_goods, x0_good, x0_works, x0_work, x0_years, x0_gone, x0_spent, x0_at, x0_token, x0_from, x0_figures, x0_fault, x0_numbers, x0_statements, x0_left, x0_far, x0_tons, x0_way, x0_steps, x0_met, x0_queue, x0_totals) p1 p2 p3 p4) (fun r => AQ (VWork x0_lines p1 p2 p3 p4) (7 ≤ x0_works) r.1 (r.1 = x0_works ∧ r.2.2.1 = x0_works + 1 ∧ AddR 5 x0_work r.2.2.2 x0_works.toNatClampNeg [p1, p2, p3, p4, 0]) (r.2.2.1 = x0_works ∧ r.2.2.2 = x0_work)) := by
  unfold fX7_work
  dsimp only [u35]
  have no : ¬ VWork x0_lines p1 p2 p3 p4 → Sf ((fX7_refuse (x0_shelf, x0_rowSort, x0_rowSize, x0_rows, x0_moved, x0_shown, x0_tape, x0_tapeSize, x0_refused, x0_lines, x0_line, x0_changes, x0_coins, x0_goods, x0_good, x0_works, x0_work, x0_years, x0_gone, x0_spent, x0_at, x0_token, x0_from, x0_figures, x0_fault, x0_numbers, x0_statements, x0_left, x0_far, x0_tons, x0_way, x0_steps, x0_met, x0_queue, x0_totals) (-2)).bind (u2 fun v g => some (v, g, x0_works, x0_work))) (fun r => AQ (VWork x0_lines p1 p2 p3 p4) (7 ≤ x0_works) r.1 (r.1 = x0_works ∧ r.2.2.1 = x0_works + 1 ∧ AddR 5 x0_work r.2.2.2 x0_works.toNatClampNeg [p1, p2, p3, p4, 0]) (r.2.2.1 = x0_works ∧ r.2.2.2 = x0_work)) := by
    intro hV
    refine Sf.bind (sX7_refuse h_x0_shelf h_x0_rowSize h_x0_tapeSize h_x0_lines h_x0_line h_x0_changes h_x0_coins h_x0_goods h_x0_good h_x0_works h_x0_work h_x0_years h_x0_from h_x0_far h_x0_way h_x0_steps h_x0_queue (by decide)) ?_
    rintro ⟨v, g⟩ e
    exact Sf.ok (Or.inr (Or.inr ⟨hV, e, rfl, rfl⟩))
  have z0 : ∀ {v : Int32} {P : Prop}, ((v = 0 ∧ ¬ P) ∨ (¬ v = 0 ∧ P)) → v = 0 → ¬ P := by
    intro v P h hz
    rcases h with h | h
    · exact h.2
    · exact absurd hz h.1
  have z1 : ∀ {v : Int32} {P : Prop}, ((v = 0 ∧ ¬ P) ∨ (¬ v = 0 ∧ P)) → ¬ v = 0 → P := by
    intro v P h hz
    rcases h with h | h
    · exact absurd h.1 hz
    · exact h.2
  refine Sf.bind (s_inq p1 1 5 (by decide) (by decide)) (fun v1 h1 => Sf.ite (fun hz => no (fun V => gd0 h1 hz V.1.1)) (fun hz => ?_))
  have c1 := gd1 h1 hz
  refine Sf.bind (mbF h_x0_shelf h_x0_rowSize h_x0_tapeSize h_x0_lines h_x0_line h_x0_changes h_x0_coins h_x0_goods h_x0_good h_x0_works h_x0_work h_x0_years h_x0_from h_x0_far h_x0_way h_x0_steps h_x0_queue) (fun v6 h6 => Sf.ite (fun hz => no (fun V => z0 h6 hz V.1.2.1)) (fun hz => ?_))
  have c2 := z1 h6 hz
  refine Sf.bind mbS (fun v11 h11 => Sf.ite (fun hz => no (fun V => z0 h11 hz V.1.2.2)) (fun hz => ?_))
  have c3 := z1 h11 hz
  refine Sf.bind (s_inq p4 0 9999 (by decide) (by decide)) (fun v14 h14 => Sf.ite (fun hz => no (fun V => gd0 h14 hz V.2)) (fun hz => ?_))
  have V : VWork x0_lines p1 p2 p3 p4 := ⟨⟨c1, c2, c3⟩, gd1 h14 hz⟩
  refine Sf.ite (fun hl => ?_) (fun hl => ?_)
  · refine Sf.bind (sX7_refuse h_x0_shelf h_x0_rowSize h_x0_tapeSize h_x0_lines h_x0_line h_x0_changes h_x0_coins h_x0_goods h_x0_good h_x0_works h_x0_work h_x0_years h_x0_from h_x0_far h_x0_way h_x0_steps h_x0_queue (by decide)) ?_
    rintro ⟨v, g⟩ e
    exact Sf.ok (Or.inr (Or.inl ⟨V, by rw [hl]; decide, e, rfl, rfl⟩))
  · have hL : 0 ≤ x0_works ∧ x0_works < 7 := ⟨h_x0_works.1, by clear no z0 z1 V c2 c3 h6 h11; grind⟩
    refine Sf.ckb 7 rfl hL (fun q18 e18 _ => ?_)
    refine Sf.wrb 5 rfl (by decide) (fun f19 e19 => ?_)
    refine Sf.wrb 5 rfl (by decide) (fun f20 e20 => ?_)
    refine Sf.wrb 5 rfl (by decide) (fun f21 e21 => ?_)
    refine Sf.wrb 5 rfl (by decide) (fun f22 e22 => ?_)
    refine Sf.wrb 5 rfl (by decide) (fun f23 e23 => ?_)
    rw [va_eq] at e20 e21 e22 e23
    refine Sf.ok (Or.inl ⟨V, Int32.not_le.mpr hL.2, rfl, rfl, fun l hl' c hc => ?_, fun c hc => ?_⟩)
    · rw [← e18] at hl'
      show va_up (va_up (va_up (va_up (va_up x0_work _ f19) _ f20) _ f21) _ f22) _ f23 l c = _
      rw [va_ne _ _ hl', va_ne _ _ hl', va_ne _ _ hl', va_ne _ _ hl', va_ne _ _ hl']
    · show va_up (va_up (va_up (va_up (va_up x0_work _ f19) _ f20) _ f21) _ f22) _ f23 _ c = _
      rw [← e18, va_eq, e23, e22, e21, e20, e19]
      rcases (show c = 0 ∨ c = 1 ∨ c = 2 ∨ c = 3 ∨ c = 4 by omega) with rfl | rfl | rfl | rfl | rfl <;> rfl
theorem Wf1_of {lc k a b x y : Int32} {f : Nat → Nat → Int32} {K : Nat} (h : V3 lc k a b) (hf : ∀ c, c < 5 → f K c = ([k, a, b, x, y] : List Int32).getD c 0) : Wf1 f lc K := by
  have e0 : f K 0 = k := hf 0 (by decide)
  have e1 : f K 1 = a := hf 1 (by decide)
  unfold Wf1
  rw [e0, e1]
  obtain ⟨h1, ⟨h2, h3⟩, h4⟩ := h
  refine ⟨h1, ?_, fun e => (h2 e).2, fun e => (h3 ?_).2⟩
  · by_cases e : k = 1 ∨ k = 2
    · exact (h2 e).1
    · exact (h3 e).1
  · rw [e]; decide
theorem dWork {n : Nat} {x0_refused : (Nat → Int32)} {x0_isKept : Int32} {x0_gone : Int32} {x0_spent : Int32} {x1_lineCount : Int32} {x1_goodsCount : Int32} {x1_workCount : Int32} {x1_years : Int32} {x1_lines : (Nat → Int32)} {x1_goods : (Nat → Int32)} {x1_works : (Nat → Int32)} {x1_change : (Nat → Int32)} {x1_coin : (Nat → Int32)} {x1_knownFree : (Nat → Int32)} {x1_isKnown : Int32} {m_shelf : (Nat → Int32)} {m_rowSort : (Nat → Int32)} {m_rowSize : (Nat → Int32)} {m_rows : (Nat → Nat → Int64)} {m_moved : (Nat → Int64)} {m_shown : (Nat → Int32)} {m_tape : (Nat → Int32)} {m_tapeSize : Int32} {m_refused : (Nat → Int32)} {m_lines : Int32} {m_line : (Nat → Nat → Int32)} {m_changes : (Nat → Int32)} {m_coins : (Nat → Int32)} {m_goods : Int32} {m_good : (Nat → Nat → Int32)} {m_works : Int32} {m_work : (Nat → Nat → Int32)} {m_years : Int32} {m_gone : Int32} {m_spent : Int32} {m_at : Int32} {m_token : Int32} {m_from : Int32} {m_figures : Int64} {m_fault : Int32} {m_numbers : (Nat → Int32)} {m_statements : Int32} {m_left : (Nat → Int32)} {m_far : (Nat → Int32)} {m_tons : Int32} {m_way : (Nat → Int32)} {m_steps : Int32} {m_met : Int64} {m_queue : (Nat → Int32)} {m_totals : (Nat → Int32)} {p1 p2 p3 p4 er e1 e3 fr f1 : Int32} {e0 e2 f0 : Nat → Int32} {f2 : Nat → Nat → Int32} (hn : 1000000000000 ≤ n) (h_x1_lineCount : (0 ≤ x1_lineCount ∧ x1_lineCount ≤ 20)) (h_x1_goodsCount : (0 ≤ x1_goodsCount ∧ x1_goodsCount ≤ 8)) (h_x1_workCount : (0 ≤ x1_workCount ∧ x1_workCount ≤ 7)) (h_x1_years : (1 ≤ x1_years ∧ x1_years ≤ 30)) (h_x1_lines : (LnOk x1_lines)) (h_x1_goods : (GdOk x1_goods)) (h_x1_works : (WkOk x1_works)) (h_x1_change : (AI 0 99 x1_change)) (h_x1_coin : (AI 0 9 x1_coin)) (h_m_shelf : (AI 0 2 m_shelf)) (h_m_rowSize : (AI 0 40 m_rowSize)) (h_m_tapeSize : (0 ≤ m_tapeSize ∧ m_tapeSize ≤ 250)) (h_m_lines : (0 ≤ m_lines ∧ m_lines ≤ 20)) (h_m_line : (LnM m_line)) (h_m_changes : (AI 0 99 m_changes)) (h_m_coins : (AI 0 9 m_coins)) (h_m_goods : (0 ≤ m_goods ∧ m_goods ≤ 8)) (h_m_good : (GdM m_good)) (h_m_works : (0 ≤ m_works ∧ m_works ≤ 7)) (h_m_work : (WkM m_work)) (h_m_years : (1 ≤ m_years ∧ m_years ≤ 30)) (h_m_from : (0 ≤ m_from ∧ m_from ≤ 250)) (h_m_far : (AI 0 1000000000 m_far)) (h_m_way : (AI 0 22 m_way)) (h_m_steps : (0 ≤ m_steps ∧ m_steps ≤ 37)) (h_m_queue : (AI 0 35 m_queue)) (hA : (LaD x1_lineCount x1_goodsCount x1_workCount x1_years x1_lines x1_goods x1_works x1_change x1_coin m_lines m_line m_changes m_coins m_goods m_good m_works m_work m_years)) (hk : Kn (FrS x1_lineCount (ro 7 x1_lines) x1_change x1_coin (ro 3 x1_goods) x1_goodsCount (ro 5 x1_works) x1_workCount) x1_knownFree x1_isKnown) (eqA : fX6_work n (x0_refused, x0_isKept, x0_gone, x0_spent) (x1_lineCount, x1_goodsCount, x1_workCount, x1_years, x1_lines, x1_goods, x1_works, x1_change, x1_coin, x1_knownFree, x1_isKnown) p1 p2 p3 p4 = some (er, e0, e1, e2, e3)) (eqB : fX7_work (m_shelf, m_rowSort, m_rowSize, m_rows, m_moved, m_shown, m_tape, m_tapeSize, m_refused, m_lines, m_line, m_changes, m_coins, m_goods, m_good, m_works, m_work, m_years, m_gone, m_spent, m_at, m_token, m_from, m_figures, m_fault, m_numbers, m_statements, m_left, m_far, m_tons, m_way, m_steps, m_met, m_queue, m_totals) p1 p2 p3 p4 = some (fr, f0, f1, f2)) : er = fr ∧ (LaD x1_lineCount x1_goodsCount e1 x1_years x1_lines x1_goods e2 x1_change x1_coin m_lines m_line m_changes m_coins m_goods m_good f1 f2 m_years) ∧ Kn (FrS x1_lineCount (ro 7 x1_lines) x1_change x1_coin (ro 3 x1_goods) x1_goodsCount (ro 5 e2) e1) x1_knownFree e3 := by
  have a := (workC hn h_x1_lineCount h_x1_workCount).at eqA
  have b := (workR h_m_shelf h_m_rowSize h_m_tapeSize h_m_lines h_m_line h_m_changes h_m_coins h_m_goods h_m_good h_m_works h_m_work h_m_years h_m_from h_m_far h_m_way h_m_steps h_m_queue).at eqB
  obtain ⟨⟨z1, z2, z3, z4⟩, z5, z6, z7, z8, z9, z10⟩ := hA
  subst z1 z3
  rcases AQ_eq Iff.rfl a b with ⟨⟨a0, a1, a2, a3, a4⟩, b1, b2, b3⟩ | ⟨e, ⟨a1, a2, a3⟩, b1, b2⟩
  · have a2 : e1 = x1_workCount + 1 := a2
    have b2 : f1 = x1_workCount + 1 := b2
    have a3 : e3 = 0 := a3
    subst a2 b2 a3
    have h20 : ¬ (20 : Int32) ≤ x1_workCount := fun h => absurd (Int32.le_trans h h_x1_workCount.2) (by decide)
    refine ⟨a1.trans b1.symm, ⟨⟨rfl, z2, rfl, z4⟩, z5, z6, AddR.alike h_x1_workCount.1 h20 a4 b3 z7, z8, z9, fun k hk' => ?_⟩, Or.inl rfl⟩
    rw [(up1 h_x1_workCount.1 (B := 20) (by decide) h20).2.1] at hk'
    by_cases e : k = x1_workCount.toNatClampNeg
    · rw [e]
      exact Wf1_of a0 a4.2
    · exact (z10 k (by omega)).congr (fun c hc => (a4.1 k e c (by omega)).symm)
  · have a1 : e1 = x1_workCount := a1
    have a2 : e2 = x1_works := a2
    have a3 : e3 = x1_isKnown := a3
    have b1 : f1 = x1_workCount := b1
    have b2 : f2 = m_work := b2
    subst a1 a2 a3 b2
    exact ⟨e, ⟨⟨rfl, z2, b1.symm, z4⟩, z5, z6, z7, z8, z9, z10⟩, hk⟩
end
section
/-! years: the class -/
theorem ix5 {z c : Int32} (hz : 0 ≤ z ∧ z ≤ 6) (hc : 0 ≤ c ∧ c < 5) : (0 ≤ z * 5 + c ∧ z * 5 + c < 35) ∧ (z * 5 + c).toNatClampNeg = 5 * z.toNatClampNeg + c.toNatClampNeg := by
  have e := ixm (p := z) (m := 5) (c := c) ⟨hz.1, Int32.le_trans hz.2 (by decide)⟩ (by decide) ⟨hc.1, Int32.le_trans (Int32.le_of_lt hc.2) (by decide)⟩
  refine ⟨by clear e; grind, ?_⟩
  rw [e, show (5 : Int32).toNatClampNeg = 5 from rfl, Nat.mul_comm]
theorem okK_lt {W p : Int32} (hW : 0 ≤ W ∧ W ≤ 7) (hp : 0 ≤ p ∧ p.toNatClampNeg < W.toNatClampNeg) : (0 ≤ p ∧ p < W) ∧ (0 ≤ p ∧ p ≤ 6) := by
  have a := i32_cl hp.1
  have b := i32_cl hW.1
  have c := (i32_b hW).2
  have e7 : (7 : Int32).toInt = 7 := by decide
  have e6 : (6 : Int32).toInt = 6 := by decide
  exact ⟨⟨hp.1, Int32.lt_iff_toInt_lt.mpr (by omega)⟩, hp.1, Int32.le_iff_toInt_le.mpr (by omega)⟩
theorem pfgC {x0_lineCount : Int32} {x0_goodsCount : Int32} {x0_workCount : Int32} {x0_years : Int32} {x0_lines : (Nat → Int32)} {x0_goods : (Nat → Int32)} {x0_works : (Nat → Int32)} {x0_change : (Nat → Int32)} {x0_coin : (Nat → Int32)} {x0_knownFree : (Nat → Int32)} {x0_isKnown : Int32} {p1 : Int32} (h_x0_lineCount : (0 ≤ x0_lineCount ∧ x0_lineCount ≤ 20)) (h_x0_goodsCount : (0 ≤ x0_goodsCount ∧ x0_goodsCount ≤ 8)) (h_x0_workCount : (0 ≤ x0_workCount ∧ x0_workCount ≤ 7)) (h_x0_years : (1 ≤ x0_years ∧ x0_years ≤ 30)) (h_x0_lines : (LnOk x0_lines)) (h_x0_goods : (GdOk x0_goods)) (h_x0_works : (WkOk x0_works)) (h_x0_change : (AI 0 99 x0_change)) (h_x0_coin : (AI 0 9 x0_coin)) (hp : 0 ≤ p1 ∧ p1 < x0_workCount) (hf : Wf1 (ro 5 x0_works) x0_lineCount p1.toNatClampNeg) : Sf (fX1_performForGood (x0_lineCount, x0_goodsCount, x0_workCount, x0_years, x0_lines, x0_goods, x0_works, x0_change, x0_coin, x0_knownFree, x0_isKnown) p1) (fun r => AbEq (r.1, ro 7 r.2.1, r.2.2.2.1) (doA (ro 5 x0_works) p1.toNatClampNeg (x0_lineCount, ro 7 x0_lines, x0_change)) ∧ (∀ k c, c < 5 → ro 5 r.2.2.1 k c = va_up (ro 5 x0_works) p1.toNatClampNeg (va_up (ro 5 x0_works p1.toNatClampNeg) 4 1) k c) ∧ r.2.2.2.2 = 0) := by
  have hp6 : 0 ≤ p1 ∧ p1 ≤ 6 := by clear hf; grind
  unfold fX1_performForGood
  dsimp only [u11]
  refine Sf.bind hasWorkS (fun v1 h1 => ?_)
  refine Sf.ite (fun hz => ?_) (fun _ => ?_)
  · exfalso
    rcases h1 with h1 | h1
    · rw [h1.1] at hz; exact absurd hz (by decide)
    · have h1 := h1.2
      clear hf
      grind
  refine Sf.bind (performC h_x0_lineCount h_x0_goodsCount h_x0_workCount h_x0_years h_x0_lines h_x0_goods h_x0_works h_x0_change h_x0_coin hp hf) ?_
  rintro ⟨g3, g4, g5, g6⟩ h3
  try dsimp only [u4]
  obtain ⟨i1, i2⟩ := ix5 (z := p1) (c := 4) hp6 (by decide)
  refine Sf.wrb 35 rfl i1 (fun f8 e8 => ?_)
  rw [i2, show (4 : Int32).toNatClampNeg = 4 from rfl] at e8
  refine Sf.ok ⟨h3, fun k c hc => ?_, rfl⟩
  show ro 5 f8 k c = _
  rw [ro_eq hc, e8]
  by_cases hk : k = p1.toNatClampNeg
  · rw [hk, va_eq]
    by_cases h4 : c = 4
    · rw [h4, va_eq, va_eq]
    · rw [va_ne _ _ h4, va_ne _ _ (by omega), ro_eq hc]
  · rw [va_ne _ _ hk, va_ne _ _ (by omega), ro_eq hc]
def NewQ (S : S1) (coin goods : Nat → Int32) (gc wc : Int32) (r : Int32 × (Nat → Int32) × (Nat → Int32) × (Nat → Int32) × (Nat → Int32) × Int32) : Prop := SEq wc.toNatClampNeg ((r.1, ro 7 r.2.1, r.2.2.2.1), ro 5 r.2.2.1) S ∧ Kn (FrS r.1 (ro 7 r.2.1) r.2.2.2.1 coin (ro 3 goods) gc (ro 5 r.2.2.1) wc) r.2.2.2.2.1 r.2.2.2.2.2
theorem costOfYearC {n : Nat} {x0_gained : Nat → Int32} {x1_left : (Nat → Int32)} {x1_earned : (Nat → Int32)} {x1_turnCost : Int32} {x1_turnWayless : Int32} {x2_edgeA : (Nat → Int32)} {x2_edgeB : (Nat → Int32)} {x2_edgeCost : (Nat → Int32)} {x2_edgeLine : (Nat → Int32)} {x2_change : (Nat → Int32)} {x2_away : (Nat → Int32)} {x2_steps : (Nat → Int32)} {x2_nodes : (Nat → Int32)} {x2_stepCount : Int32} {x2_open : (Nat → Int32)} {x2_openCount : Int32} {x2_seen : Int64} {x2_edgeCount : Int32} {x2_aim : Int32} {x3_lineCount : Int32} {x3_goodsCount : Int32} {x3_workCount : Int32} {x3_years : Int32} {x3_lines : (Nat → Int32)} {x3_goods : (Nat → Int32)} {x3_works : (Nat → Int32)} {x3_change : (Nat → Int32)} {x3_coin : (Nat → Int32)} {x3_knownFree : (Nat → Int32)} {x3_isKnown : Int32} {x4_lineCount : Int32} {x4_goodsCount : Int32} {x4_workCount : Int32} {x4_years : Int32} {x4_lines : (Nat → Int32)} {x4_goods : (Nat → Int32)} {x4_works : (Nat → Int32)} {x4_change : (Nat → Int32)} {x4_coin : (Nat → Int32)} {x4_knownFree : (Nat → Int32)} {x4_isKnown : Int32} {p2 : Int32} (hn : 1000000000000 ≤ n) (h_x2_edgeA : (AI 0 35 x2_edgeA)) (h_x2_edgeB : (AI 0 35 x2_edgeB)) (h_x2_edgeLine : (AI 0 19 x2_edgeLine)) (h_x2_steps : (AI 0 22 x2_steps)) (h_x2_nodes : (AI 0 35 x2_nodes)) (h_x2_stepCount : (0 ≤ x2_stepCount ∧ x2_stepCount ≤ 36)) (h_x2_open : (AI 0 35 x2_open)) (h_x2_openCount : (0 ≤ x2_openCount ∧ x2_openCount ≤ 36)) (h_x2_edgeCount : (0 ≤ x2_edgeCount ∧ x2_edgeCount ≤ 60)) (h_x3_lineCount : (0 ≤ x3_lineCount ∧ x3_lineCount ≤ 20)) (h_x3_goodsCount : (0 ≤ x3_goodsCount ∧ x3_goodsCount ≤ 8)) (h_x3_workCount : (0 ≤ x3_workCount ∧ x3_workCount ≤ 7)) (h_x3_years : (1 ≤ x3_years ∧ x3_years ≤ 30)) (h_x3_lines : (LnOk x3_lines)) (h_x3_goods : (GdOk x3_goods)) (h_x3_works : (WkOk x3_works)) (h_x3_change : (AI 0 99 x3_change)) (h_x3_coin : (AI 0 9 x3_coin)) (h_x4_lineCount : (0 ≤ x4_lineCount ∧ x4_lineCount ≤ 20)) (h_x4_goodsCount : (0 ≤ x4_goodsCount ∧ x4_goodsCount ≤ 8)) (h_x4_workCount : (0 ≤ x4_workCount ∧ x4_workCount ≤ 7)) (h_x4_years : (1 ≤ x4_years ∧ x4_years ≤ 30)) (h_x4_lines : (LnOk x4_lines)) (h_x4_goods : (GdOk x4_goods)) (h_x4_works : (WkOk x4_works)) (h_x4_change : (AI 0 99 x4_change)) (h_x4_coin : (AI 0 9 x4_coin)) (hf : ∀ k, k < x4_workCount.toNatClampNeg → Wf1 (ro 5 x4_works) x4_lineCount k) (hk : Kn (FrS x4_lineCount (ro 7 x4_lines) x4_change x4_coin (ro 3 x4_goods) x4_goodsCount (ro 5 x4_works) x4_workCount) x4_knownFree x4_isKnown) (hp : okK x4_workCount.toNatClampNeg p2) : Sf (fX0_costOfYear n x0_gained (x1_left, x1_earned, x1_turnCost, x1_turnWayless) (x2_edgeA, x2_edgeB, x2_edgeCost, x2_edgeLine, x2_change, x2_away, x2_steps, x2_nodes, x2_stepCount, x2_open, x2_openCount, x2_seen, x2_edgeCount, x2_aim) (x3_lineCount, x3_goodsCount, x3_workCount, x3_years, x3_lines, x3_goods, x3_works, x3_change, x3_coin, x3_knownFree, x3_isKnown) (x4_lineCount, x4_goodsCount, x4_workCount, x4_years, x4_lines, x4_goods, x4_works, x4_change, x4_coin, x4_knownFree, x4_isKnown) p2) (fun r => r.1 = costA x4_coin (ro 3 x4_goods) x4_goodsCount p2 ((x4_lineCount, ro 7 x4_lines, x4_change), ro 5 x4_works) ∧ NewQ (yearA p2 ((x4_lineCount, ro 7 x4_lines, x4_change), ro 5 x4_works)) x4_coin x4_goods x4_goodsCount x4_workCount r.2.2.2) := by
  unfold fX0_costOfYear
  dsimp only [u4, u14, u11]
  refine Sf.bind hasWorkS (fun v1 h1 => ?_)
  have none0 : ∀ {s : Int32} {A : Ab} {work : Nat → Nat → Int32} {W : Nat} {q : Int32}, (∀ k, k < W → tq s k = (tq 0 k && decide (work k 4 = 0))) → doS work s W A = A := fun h => doS_none _ (fun k hk' => by rw [h k hk', tq_zero]; rfl)
  refine Sf.ite (fun hz => ?_) (fun hz => ?_)
  · have hm : p2 = -1 := by
      rcases hp with hp | hp
      · exact hp
      · exfalso
        have q := (okK_lt h_x4_workCount hp).1
        rcases h1 with h1 | h1
        · rw [h1.1] at hz; exact absurd hz (by decide)
        · have h1 := h1.2
          clear hf hk none0
          grind
    have ey : yearA p2 ((x4_lineCount, ro 7 x4_lines, x4_change), ro 5 x4_works) = ((x4_lineCount, ro 7 x4_lines, x4_change), ro 5 x4_works) := if_pos hm
    unfold fX0_costOfYear_j22
    refine Sf.bind (freeWithC hn h_x2_edgeA h_x2_edgeB h_x2_edgeLine h_x2_steps h_x2_nodes h_x2_stepCount h_x2_open h_x2_openCount h_x2_edgeCount h_x3_lineCount h_x3_goodsCount h_x3_workCount h_x3_years h_x3_lines h_x3_goods h_x3_works h_x3_change h_x3_coin h_x4_lineCount h_x4_goodsCount h_x4_workCount h_x4_years h_x4_lines h_x4_goods h_x4_works h_x4_change h_x4_coin hf hk) ?_
    rintro ⟨v9, ⟨g11, g12, g13, g14, g15, g16, g17, g18⟩, ⟨g20, g21, g22, g23, g24, g25, g26, g27, g28, g29⟩, ⟨g31, g32, g33, g34, g35⟩⟩ ⟨⟨s, hs, e9⟩, q1, q2, q3, q4⟩
    have q1 : g31 = x4_lineCount := q1
    have q2 : g32 = x4_lines := q2
    have q3 : g33 = x4_change := q3
    have q4 : Kn _ g34 g35 := q4
    have e9 : v9 = FrA (doS (ro 5 x4_works) s x4_workCount.toNatClampNeg (x4_lineCount, ro 7 x4_lines, x4_change)) x4_coin (ro 3 x4_goods) x4_goodsCount := e9
    rw [none0 (q := 0) hs] at e9
    refine Sf.ok ⟨?_, ?_⟩
    · show 0 + v9 = _
      unfold costA
      rw [if_pos hm, ey, e9]
    · rw [ey]
      show NewQ _ _ _ _ _ (g31, g32, x4_works, g33, g34, g35)
      rw [q1, q2, q3]
      exact ⟨SEq.refl _, q4⟩
  · have hm : ¬ p2 = -1 := by
      intro e
      rcases h1 with h1 | h1
      · rw [e] at h1; exact absurd h1.2.1 (by decide)
      · exact absurd h1.1 hz
    have hp2 : 0 ≤ p2 ∧ p2.toNatClampNeg < x4_workCount.toNatClampNeg := by
      rcases hp with hp | hp
      · exact absurd hp hm
      · exact hp
    obtain ⟨hpl, hp6⟩ := okK_lt h_x4_workCount hp2
    refine Sf.bind (ofWorkV h_x4_works hp6 (by decide)) (fun v37 e37 => ?_)
    have e37 : v37 = ro 5 x4_works p2.toNatClampNeg 3 := e37
    refine Sf.bind (Sf.and (sX1_performForGood h_x4_lineCount h_x4_workCount h_x4_lines h_x4_works h_x4_change) (pfgC h_x4_lineCount h_x4_goodsCount h_x4_workCount h_x4_years h_x4_lines h_x4_goods h_x4_works h_x4_change h_x4_coin hpl (hf _ hp2.2))) ?_
    rintro ⟨g40, g41, g42, g43, g44⟩ ⟨⟨b1, b2, b3, b4⟩, a1, a2, a3⟩
    have b1 : 0 ≤ g40 ∧ g40 ≤ 20 := b1
    have b2 : LnOk g41 := b2
    have b3 : WkOk g42 := b3
    have b4 : AI 0 99 g43 := b4
    have a1 : AbEq (g40, ro 7 g41, g43) (doA (ro 5 x4_works) p2.toNatClampNeg (x4_lineCount, ro 7 x4_lines, x4_change)) := a1
    have a2 : ∀ k c, c < 5 → ro 5 g42 k c = va_up (ro 5 x4_works) p2.toNatClampNeg (va_up (ro 5 x4_works p2.toNatClampNeg) 4 1) k c := a2
    have a3 : g44 = 0 := a3
    try dsimp only [u5]
    have ey : yearA p2 ((x4_lineCount, ro 7 x4_lines, x4_change), ro 5 x4_works) = (doA (ro 5 x4_works) p2.toNatClampNeg (x4_lineCount, ro 7 x4_lines, x4_change), va_up (ro 5 x4_works) p2.toNatClampNeg (va_up (ro 5 x4_works p2.toNatClampNeg) 4 1)) := if_neg hm
    have hS : SEq x4_workCount.toNatClampNeg ((g40, ro 7 g41, g43), ro 5 g42) (yearA p2 ((x4_lineCount, ro 7 x4_lines, x4_change), ro 5 x4_works)) := by
      rw [ey]
      exact ⟨a1, fun k _ c hc => a2 k c hc⟩
    have hW : WfS x4_workCount.toNatClampNeg ((g40, ro 7 g41, g43), ro 5 g42) := (yearA_wf ⟨h_x4_lineCount, hf⟩).congr hS.symm
    unfold fX0_costOfYear_j22
    refine Sf.bind (freeWithC (x4_knownFree := x4_knownFree) hn h_x2_edgeA h_x2_edgeB h_x2_edgeLine h_x2_steps h_x2_nodes h_x2_stepCount h_x2_open h_x2_openCount h_x2_edgeCount h_x3_lineCount h_x3_goodsCount h_x3_workCount h_x3_years h_x3_lines h_x3_goods h_x3_works h_x3_change h_x3_coin b1 h_x4_goodsCount h_x4_workCount h_x4_years b2 h_x4_goods b3 b4 h_x4_coin hW.2 (Or.inl a3)) ?_
    rintro ⟨v9, ⟨g11, g12, g13, g14, g15, g16, g17, g18⟩, ⟨g20, g21, g22, g23, g24, g25, g26, g27, g28, g29⟩, ⟨g31, g32, g33, g34, g35⟩⟩ ⟨⟨s, hs, e9⟩, q1, q2, q3, q4⟩
    have q1 : g31 = g40 := q1
    have q2 : g32 = g41 := q2
    have q3 : g33 = g43 := q3
    have q4 : Kn _ g34 g35 := q4
    have e9 : v9 = FrA (doS (ro 5 g42) s x4_workCount.toNatClampNeg (g40, ro 7 g41, g43)) x4_coin (ro 3 x4_goods) x4_goodsCount := e9
    rw [none0 (q := 0) hs] at e9
    refine Sf.ok ⟨?_, ?_⟩
    · show v37 + v9 = _
      unfold costA
      rw [if_neg hm, ey, e9, e37, FrA_congr a1 (fun _ _ => rfl) (fun _ _ _ _ => rfl)]
    · show NewQ _ _ _ _ _ (g31, g32, g42, g33, g34, g35)
      rw [q1, q2, q3]
      exact ⟨hS, q4⟩
theorem passYearC {n : Nat} {x0_refused : (Nat → Int32)} {x0_isKept : Int32} {x0_gone : Int32} {x0_spent : Int32} {x1_gained : Nat → Int32} {x2_lineCount : Int32} {x2_goodsCount : Int32} {x2_workCount : Int32} {x2_years : Int32} {x2_lines : (Nat → Int32)} {x2_goods : (Nat → Int32)} {x2_works : (Nat → Int32)} {x2_change : (Nat → Int32)} {x2_coin : (Nat → Int32)} {x2_knownFree : (Nat → Int32)} {x2_isKnown : Int32} {x3_lineCount : Int32} {x3_goodsCount : Int32} {x3_workCount : Int32} {x3_years : Int32} {x3_lines : (Nat → Int32)} {x3_goods : (Nat → Int32)} {x3_works : (Nat → Int32)} {x3_change : (Nat → Int32)} {x3_coin : (Nat → Int32)} {x3_knownFree : (Nat → Int32)} {x3_isKnown : Int32} {x4_left : (Nat → Int32)} {x4_earned : (Nat → Int32)} {x4_turnCost : Int32} {x4_turnWayless : Int32} {x5_edgeA : (Nat → Int32)} {x5_edgeB : (Nat → Int32)} {x5_edgeCost : (Nat → Int32)} {x5_edgeLine : (Nat → Int32)} {x5_change : (Nat → Int32)} {x5_away : (Nat → Int32)} {x5_steps : (Nat → Int32)} {x5_nodes : (Nat → Int32)} {x5_stepCount : Int32} {x5_open : (Nat → Int32)} {x5_openCount : Int32} {x5_seen : Int64} {x5_edgeCount : Int32} {x5_aim : Int32} {p1 : Int32} (hn : 1000000000000 ≤ n) (h_x2_lineCount : (0 ≤ x2_lineCount ∧ x2_lineCount ≤ 20)) (h_x2_goodsCount : (0 ≤ x2_goodsCount ∧ x2_goodsCount ≤ 8)) (h_x2_workCount : (0 ≤ x2_workCount ∧ x2_workCount ≤ 7)) (h_x2_years : (1 ≤ x2_years ∧ x2_years ≤ 30)) (h_x2_lines : (LnOk x2_lines)) (h_x2_goods : (GdOk x2_goods)) (h_x2_works : (WkOk x2_works)) (h_x2_change : (AI 0 99 x2_change)) (h_x2_coin : (AI 0 9 x2_coin)) (h_x3_lineCount : (0 ≤ x3_lineCount ∧ x3_lineCount ≤ 20)) (h_x3_goodsCount : (0 ≤ x3_goodsCount ∧ x3_goodsCount ≤ 8)) (h_x3_workCount : (0 ≤ x3_workCount ∧ x3_workCount ≤ 7)) (h_x3_years : (1 ≤ x3_years ∧ x3_years ≤ 30)) (h_x3_lines : (LnOk x3_lines)) (h_x3_goods : (GdOk x3_goods)) (h_x3_works : (WkOk x3_works)) (h_x3_change : (AI 0 99 x3_change)) (h_x3_coin : (AI 0 9 x3_coin)) (h_x5_edgeA : (AI 0 35 x5_edgeA)) (h_x5_edgeB : (AI 0 35 x5_edgeB)) (h_x5_edgeLine : (AI 0 19 x5_edgeLine)) (h_x5_steps : (AI 0 22 x5_steps)) (h_x5_nodes : (AI 0 35 x5_nodes)) (h_x5_stepCount : (0 ≤ x5_stepCount ∧ x5_stepCount ≤ 36)) (h_x5_open : (AI 0 35 x5_open)) (h_x5_openCount : (0 ≤ x5_openCount ∧ x5_openCount ≤ 36)) (h_x5_edgeCount : (0 ≤ x5_edgeCount ∧ x5_edgeCount ≤ 60)) (hf : ∀ k, k < x3_workCount.toNatClampNeg → Wf1 (ro 5 x3_works) x3_lineCount k) (hk : Kn (FrS x3_lineCount (ro 7 x3_lines) x3_change x3_coin (ro 3 x3_goods) x3_goodsCount (ro 5 x3_works) x3_workCount) x3_knownFree x3_isKnown) (hp : okK x3_workCount.toNatClampNeg p1) : Sf (fX6_passYear n (x0_refused, x0_isKept, x0_gone, x0_spent) x1_gained (x2_lineCount, x2_goodsCount, x2_workCount, x2_years, x2_lines, x2_goods, x2_works, x2_change, x2_coin, x2_knownFree, x2_isKnown) (x3_lineCount, x3_goodsCount, x3_workCount, x3_years, x3_lines, x3_goods, x3_works, x3_change, x3_coin, x3_knownFree, x3_isKnown) (x4_left, x4_earned, x4_turnCost, x4_turnWayless) (x5_edgeA, x5_edgeB, x5_edgeCost, x5_edgeLine, x5_change, x5_away, x5_steps, x5_nodes, x5_stepCount, x5_open, x5_openCount, x5_seen, x5_edgeCount, x5_aim) p1) (fun r => r.1 = costA x3_coin (ro 3 x3_goods) x3_goodsCount p1 ((x3_lineCount, ro 7 x3_lines, x3_change), ro 5 x3_works) ∧ NewQ (yearA p1 ((x3_lineCount, ro 7 x3_lines, x3_change), ro 5 x3_works)) x3_coin x3_goods x3_goodsCount x3_workCount r.2.2.2.2.1) := by
  unfold fX6_passYear
  dsimp only [u4, u14, u11]
  refine Sf.bind (costOfYearC hn h_x5_edgeA h_x5_edgeB h_x5_edgeLine h_x5_steps h_x5_nodes h_x5_stepCount h_x5_open h_x5_openCount h_x5_edgeCount h_x2_lineCount h_x2_goodsCount h_x2_workCount h_x2_years h_x2_lines h_x2_goods h_x2_works h_x2_change h_x2_coin h_x3_lineCount h_x3_goodsCount h_x3_workCount h_x3_years h_x3_lines h_x3_goods h_x3_works h_x3_change h_x3_coin hf hk hp) ?_
  rintro ⟨v9, ⟨g11, g12, g13, g14, g15, g16, g17, g18⟩, ⟨g20, g21, g22, g23, g24, g25, g26, g27, g28, g29⟩, ⟨g31, g32, g33, g34, g35, g36⟩⟩ h
  exact Sf.ok h
/-- a year: what both sides answer and do -/
def YQ (work : Nat → Nat → Int32) (W p a c : Int32) (S O : Prop) : Prop := (okK W.toNatClampNeg p ∧ (p = -1 ∨ work p.toNatClampNeg 4 = 0) ∧ a = c ∧ S) ∨ (¬ okK W.toNatClampNeg p ∧ a = -2 ∧ O) ∨ (okK W.toNatClampNeg p ∧ ¬ (p = -1 ∨ work p.toNatClampNeg 4 = 0) ∧ a = -5 ∧ O)
theorem YQ_eq {work work' : Nat → Nat → Int32} {W p a a' c c' : Int32} {S O S' O' : Prop} (hw : ∀ k, k < W.toNatClampNeg → work k 4 = work' k 4) (h : YQ work W p a c S O) (h' : YQ work' W p a' c' S' O') : (okK W.toNatClampNeg p ∧ a = c ∧ a' = c' ∧ S ∧ S') ∨ (a = a' ∧ O ∧ O') := by
  have e : okK W.toNatClampNeg p → ((p = -1 ∨ work p.toNatClampNeg 4 = 0) ↔ (p = -1 ∨ work' p.toNatClampNeg 4 = 0)) := by
    intro hk
    rcases hk with hk | hk
    · exact ⟨fun _ => Or.inl hk, fun _ => Or.inl hk⟩
    · rw [hw _ hk.2]
  rcases h with ⟨k, d, s⟩ | ⟨k, s⟩ | ⟨k, d, s⟩ <;> rcases h' with ⟨k', d', s'⟩ | ⟨k', s'⟩ | ⟨k', d', s'⟩
  · exact Or.inl ⟨k, s.1, s'.1, s.2, s'.2⟩
  · exact absurd k k'
  · exact absurd ((e k).mp d) d'
  · exact absurd k' k
  · exact Or.inr ⟨by rw [s.1, s'.1], s.2, s'.2⟩
  · exact absurd k' k
  · exact absurd ((e k).mpr d') d
  · exact absurd k k'
  · exact Or.inr ⟨by rw [s.1, s'.1], s.2, s'.2⟩
theorem noChC {x0_refused : (Nat → Int32)} {x0_isKept : Int32} {x0_gone : Int32} {x0_spent : Int32} {x1_lineCount : Int32} {x1_goodsCount : Int32} {x1_workCount : Int32} {x1_years : Int32} {x1_lines : (Nat → Int32)} {x1_goods : (Nat → Int32)} {x1_works : (Nat → Int32)} {x1_change : (Nat → Int32)} {x1_coin : (Nat → Int32)} {x1_knownFree : (Nat → Int32)} {x1_isKnown : Int32} {p1 : Int32} (h_x1_lineCount : (0 ≤ x1_lineCount ∧ x1_lineCount ≤ 20)) (h_x1_goodsCount : (0 ≤ x1_goodsCount ∧ x1_goodsCount ≤ 8)) (h_x1_workCount : (0 ≤ x1_workCount ∧ x1_workCount ≤ 7)) (h_x1_years : (1 ≤ x1_years ∧ x1_years ≤ 30)) (h_x1_lines : (LnOk x1_lines)) (h_x1_goods : (GdOk x1_goods)) (h_x1_works : (WkOk x1_works)) (h_x1_change : (AI 0 99 x1_change)) (h_x1_coin : (AI 0 9 x1_coin)) : Sf (fX6_noChoice (x0_refused, x0_isKept, x0_gone, x0_spent) (x1_lineCount, x1_goodsCount, x1_workCount, x1_years, x1_lines, x1_goods, x1_works, x1_change, x1_coin, x1_knownFree, x1_isKnown) p1) (fun r => (r = 0 ∧ (0 ≤ p1 ∧ p1.toNatClampNeg < x1_workCount.toNatClampNeg) ∧ ro 5 x1_works p1.toNatClampNeg 4 = 0) ∨ (r = -2 ∧ ¬ (0 ≤ p1 ∧ p1.toNatClampNeg < x1_workCount.toNatClampNeg)) ∨ (r = -5 ∧ (0 ≤ p1 ∧ p1.toNatClampNeg < x1_workCount.toNatClampNeg) ∧ ¬ ro 5 x1_works p1.toNatClampNeg 4 = 0)) := by
  unfold fX6_noChoice
  dsimp only [u4, u11]
  refine Sf.bind hasWorkS (fun v1 h1 => ?_)
  refine Sf.ite (fun hz => ?_) (fun hz => ?_)
  · refine Sf.ok (Or.inr (Or.inl ⟨rfl, fun h => ?_⟩))
    have q := (okK_lt h_x1_workCount h).1
    rcases h1 with h1 | h1
    · rw [h1.1] at hz; exact absurd hz (by decide)
    · have h1 := h1.2
      grind
  · have hq : 0 ≤ p1 ∧ p1 ≤ x1_workCount - 1 := by
      rcases h1 with h1 | h1
      · exact h1.2
      · exact absurd h1.1 hz
    have hp : 0 ≤ p1 ∧ p1 < x1_workCount := by clear h1; grind
    have hp6 : 0 ≤ p1 ∧ p1 ≤ 6 := by clear h1; grind
    have hpn : 0 ≤ p1 ∧ p1.toNatClampNeg < x1_workCount.toNatClampNeg := by
      have a := i32_cl hp.1
      have b := i32_cl h_x1_workCount.1
      have c := Int32.lt_iff_toInt_lt.mp hp.2
      exact ⟨hp.1, by omega⟩
    refine Sf.bind (isDoneS h_x1_works hp6) (fun v3 e3 => ?_)
    refine Sf.ite (fun hv => ?_) (fun hv => ?_)
    · refine Sf.ok (Or.inl ⟨rfl, hpn, ?_⟩)
      refine Classical.byContradiction fun hn' => ?_
      rw [if_neg hn'] at e3
      rw [e3] at hv
      exact absurd hv (by decide)
    · refine Sf.ok (Or.inr (Or.inr ⟨rfl, hpn, fun hn' => ?_⟩))
      rw [if_pos hn'] at e3
      exact hv e3
theorem yearC {n : Nat} {x0_refused : (Nat → Int32)} {x0_isKept : Int32} {x0_gone : Int32} {x0_spent : Int32} {x1_gained : Nat → Int32} {x2_lineCount : Int32} {x2_goodsCount : Int32} {x2_workCount : Int32} {x2_years : Int32} {x2_lines : (Nat → Int32)} {x2_goods : (Nat → Int32)} {x2_works : (Nat → Int32)} {x2_change : (Nat → Int32)} {x2_coin : (Nat → Int32)} {x2_knownFree : (Nat → Int32)} {x2_isKnown : Int32} {x3_lineCount : Int32} {x3_goodsCount : Int32} {x3_workCount : Int32} {x3_years : Int32} {x3_lines : (Nat → Int32)} {x3_goods : (Nat → Int32)} {x3_works : (Nat → Int32)} {x3_change : (Nat → Int32)} {x3_coin : (Nat → Int32)} {x3_knownFree : (Nat → Int32)} {x3_isKnown : Int32} {x4_left : (Nat → Int32)} {x4_earned : (Nat → Int32)} {x4_turnCost : Int32} {x4_turnWayless : Int32} {x5_edgeA : (Nat → Int32)} {x5_edgeB : (Nat → Int32)} {x5_edgeCost : (Nat → Int32)} {x5_edgeLine : (Nat → Int32)} {x5_change : (Nat → Int32)} {x5_away : (Nat → Int32)} {x5_steps : (Nat → Int32)} {x5_nodes : (Nat → Int32)} {x5_stepCount : Int32} {x5_open : (Nat → Int32)} {x5_openCount : Int32} {x5_seen : Int64} {x5_edgeCount : Int32} {x5_aim : Int32} {p1 : Int32} (hn : 1000000000000 ≤ n) (h_x2_lineCount : (0 ≤ x2_lineCount ∧ x2_lineCount ≤ 20)) (h_x2_goodsCount : (0 ≤ x2_goodsCount ∧ x2_goodsCount ≤ 8)) (h_x2_workCount : (0 ≤ x2_workCount ∧ x2_workCount ≤ 7)) (h_x2_years : (1 ≤ x2_years ∧ x2_years ≤ 30)) (h_x2_lines : (LnOk x2_lines)) (h_x2_goods : (GdOk x2_goods)) (h_x2_works : (WkOk x2_works)) (h_x2_change : (AI 0 99 x2_change)) (h_x2_coin : (AI 0 9 x2_coin)) (h_x3_lineCount : (0 ≤ x3_lineCount ∧ x3_lineCount ≤ 20)) (h_x3_goodsCount : (0 ≤ x3_goodsCount ∧ x3_goodsCount ≤ 8)) (h_x3_workCount : (0 ≤ x3_workCount ∧ x3_workCount ≤ 7)) (h_x3_years : (1 ≤ x3_years ∧ x3_years ≤ 30)) (h_x3_lines : (LnOk x3_lines)) (h_x3_goods : (GdOk x3_goods)) (h_x3_works : (WkOk x3_works)) (h_x3_change : (AI 0 99 x3_change)) (h_x3_coin : (AI 0 9 x3_coin)) (h_x5_edgeA : (AI 0 35 x5_edgeA)) (h_x5_edgeB : (AI 0 35 x5_edgeB)) (h_x5_edgeLine : (AI 0 19 x5_edgeLine)) (h_x5_steps : (AI 0 22 x5_steps)) (h_x5_nodes : (AI 0 35 x5_nodes)) (h_x5_stepCount : (0 ≤ x5_stepCount ∧ x5_stepCount ≤ 36)) (h_x5_open : (AI 0 35 x5_open)) (h_x5_openCount : (0 ≤ x5_openCount ∧ x5_openCount ≤ 36)) (h_x5_edgeCount : (0 ≤ x5_edgeCount ∧ x5_edgeCount ≤ 60)) (hf : ∀ k, k < x3_workCount.toNatClampNeg → Wf1 (ro 5 x3_works) x3_lineCount k) (hk : Kn (FrS x3_lineCount (ro 7 x3_lines) x3_change x3_coin (ro 3 x3_goods) x3_goodsCount (ro 5 x3_works) x3_workCount) x3_knownFree x3_isKnown) : Sf (fX6_year n (x0_refused, x0_isKept, x0_gone, x0_spent) x1_gained (x2_lineCount, x2_goodsCount, x2_workCount, x2_years, x2_lines, x2_goods, x2_works, x2_change, x2_coin, x2_knownFree, x2_isKnown) (x3_lineCount, x3_goodsCount, x3_workCount, x3_years, x3_lines, x3_goods, x3_works, x3_change, x3_coin, x3_knownFree, x3_isKnown) (x4_left, x4_earned, x4_turnCost, x4_turnWayless) (x5_edgeA, x5_edgeB, x5_edgeCost, x5_edgeLine, x5_change, x5_away, x5_steps, x5_nodes, x5_stepCount, x5_open, x5_openCount, x5_seen, x5_edgeCount, x5_aim) p1) (fun r => YQ (ro 5 x3_works) x3_workCount p1 r.1 (costA x3_coin (ro 3 x3_goods) x3_goodsCount p1 ((x3_lineCount, ro 7 x3_lines, x3_change), ro 5 x3_works)) (NewQ (yearA p1 ((x3_lineCount, ro 7 x3_lines, x3_change), ro 5 x3_works)) x3_coin x3_goods x3_goodsCount x3_workCount r.2.2.2.2.2.1) (r.2.2.2.2.2.1 = (x3_lineCount, x3_lines, x3_works, x3_change, x3_knownFree, x3_isKnown))) := by
  unfold fX6_year
  dsimp only [u4, u14, u11]
  have go : okK x3_workCount.toNatClampNeg p1 → (p1 = -1 ∨ ro 5 x3_works p1.toNatClampNeg 4 = 0) → Sf (fX6_year_j14 n p1 x0_refused x0_isKept x0_gone x0_spent x1_gained x2_lineCount x2_goodsCount x2_workCount x2_years x2_lines x2_goods x2_works x2_change x2_coin x2_knownFree x2_isKnown x3_lineCount x3_goodsCount x3_workCount x3_years x3_lines x3_goods x3_works x3_change x3_coin x3_knownFree x3_isKnown x4_left x4_earned x4_turnCost x4_turnWayless x5_edgeA x5_edgeB x5_edgeCost x5_edgeLine x5_change x5_away x5_steps x5_nodes x5_stepCount x5_open x5_openCount x5_seen x5_edgeCount x5_aim 0) (fun r => YQ (ro 5 x3_works) x3_workCount p1 r.1 (costA x3_coin (ro 3 x3_goods) x3_goodsCount p1 ((x3_lineCount, ro 7 x3_lines, x3_change), ro 5 x3_works)) (NewQ (yearA p1 ((x3_lineCount, ro 7 x3_lines, x3_change), ro 5 x3_works)) x3_coin x3_goods x3_goodsCount x3_workCount r.2.2.2.2.2.1) (r.2.2.2.2.2.1 = (x3_lineCount, x3_lines, x3_works, x3_change, x3_knownFree, x3_isKnown))) := by
    intro hp hd
    unfold fX6_year_j14
    rw [if_pos rfl]
    refine Sf.bind (passYearC hn h_x2_lineCount h_x2_goodsCount h_x2_workCount h_x2_years h_x2_lines h_x2_goods h_x2_works h_x2_change h_x2_coin h_x3_lineCount h_x3_goodsCount h_x3_workCount h_x3_years h_x3_lines h_x3_goods h_x3_works h_x3_change h_x3_coin h_x5_edgeA h_x5_edgeB h_x5_edgeLine h_x5_steps h_x5_nodes h_x5_stepCount h_x5_open h_x5_openCount h_x5_edgeCount hf hk hp) ?_
    rintro ⟨v2, g3, g4, ⟨g6, g7, g8, g9, g10, g11, g12, g13, g14, g15⟩, ⟨g17, g18, g19, g20, g21, g22⟩, ⟨g24, g25, g26, g27, g28, g29, g30, g31⟩⟩ ⟨h1, h2⟩
    exact Sf.ok (Or.inl ⟨hp, hd, h1, h2⟩)
  have no : ∀ y : Int32, y ≠ 0 → ((y = -2 ∧ ¬ okK x3_workCount.toNatClampNeg p1) ∨ (y = -5 ∧ okK x3_workCount.toNatClampNeg p1 ∧ ¬ (p1 = -1 ∨ ro 5 x3_works p1.toNatClampNeg 4 = 0))) → Sf (fX6_year_j14 n p1 x0_refused x0_isKept x0_gone x0_spent x1_gained x2_lineCount x2_goodsCount x2_workCount x2_years x2_lines x2_goods x2_works x2_change x2_coin x2_knownFree x2_isKnown x3_lineCount x3_goodsCount x3_workCount x3_years x3_lines x3_goods x3_works x3_change x3_coin x3_knownFree x3_isKnown x4_left x4_earned x4_turnCost x4_turnWayless x5_edgeA x5_edgeB x5_edgeCost x5_edgeLine x5_change x5_away x5_steps x5_nodes x5_stepCount x5_open x5_openCount x5_seen x5_edgeCount x5_aim y) (fun r => YQ (ro 5 x3_works) x3_workCount p1 r.1 (costA x3_coin (ro 3 x3_goods) x3_goodsCount p1 ((x3_lineCount, ro 7 x3_lines, x3_change), ro 5 x3_works)) (NewQ (yearA p1 ((x3_lineCount, ro 7 x3_lines, x3_change), ro 5 x3_works)) x3_coin x3_goods x3_goodsCount x3_workCount r.2.2.2.2.2.1) (r.2.2.2.2.2.1 = (x3_lineCount, x3_lines, x3_works, x3_change, x3_knownFree, x3_isKnown))) := by
    intro y hy h
    unfold fX6_year_j14
    rw [if_neg hy]
    refine Sf.bind refC ?_
    rintro ⟨v, g⟩ e
    have e : v = y := e
    rcases h with h | h
    · exact Sf.ok (Or.inr (Or.inl ⟨h.2, e.trans h.1, rfl⟩))
    · exact Sf.ok (Or.inr (Or.inr ⟨h.2.1, h.2.2, e.trans h.1, rfl⟩))
  refine Sf.ite (fun hm => go (Or.inl hm) (Or.inl hm)) (fun hm => ?_)
  refine Sf.bind (noChC h_x3_lineCount h_x3_goodsCount h_x3_workCount h_x3_years h_x3_lines h_x3_goods h_x3_works h_x3_change h_x3_coin) (fun v36 h36 => ?_)
  rcases h36 with ⟨e, h, d⟩ | ⟨e, h⟩ | ⟨e, h, d⟩
  · rw [e]
    exact go (Or.inr h) (Or.inr d)
  · refine no v36 (by rw [e]; decide) (Or.inl ⟨e, ?_⟩)
    rintro (h2 | h2)
    · exact hm h2
    · exact h h2
  · refine no v36 (by rw [e]; decide) (Or.inr ⟨e, Or.inr h, ?_⟩)
    rintro (h2 | h2)
    · exact hm h2
    · exact d h2
theorem yearR {n : Nat} {x0_shelf : (Nat → Int32)} {x0_rowSort : (Nat → Int32)} {x0_rowSize : (Nat → Int32)} {x0_rows : (Nat → Nat → Int64)} {x0_moved : (Nat → Int64)} {x0_shown : (Nat → Int32)} {x0_tape : (Nat → Int32)} {x0_tapeSize : Int32} {x0_refused : (Nat → Int32)} {x0_lines : Int32} {x0_line : (Nat → Nat → Int32)} {x0_changes : (Nat → Int32)} {x0_coins : (Nat → Int32)} {x0_goods : Int32} {x0_good : (Nat → Nat → Int32)} {x0_works : Int32} {x0_work : (Nat → Nat → Int32)} {x0_years : Int32} {x0_gone : Int32} {x0_spent : Int32} {x0_at : Int32} {x0_token : Int32} {x0_from : Int32} {x0_figures : Int64} {x0_fault : Int32} {x0_numbers : (Nat → Int32)} {x0_statements : Int32} {x0_left : (Nat → Int32)} {x0_far : (Nat → Int32)} {x0_tons : Int32} {x0_way : (Nat → Int32)} {x0_steps : Int32} {x0_met : Int64} {x0_queue : (Nat → Int32)} {x0_totals : (Nat → Int32)} {p1 : Int32} (hn : 1000000000000 ≤ n) (h_x0_shelf : (AI 0 2 x0_shelf)) (h_x0_rowSize : (AI 0 40 x0_rowSize)) (h_x0_tapeSize : (0 ≤ x0_tapeSize ∧ x0_tapeSize ≤ 250)) (h_x0_lines : (0 ≤ x0_lines ∧ x0_lines ≤ 20)) (h_x0_line : (LnM x0_line)) (h_x0_changes : (AI 0 99 x0_changes)) (h_x0_coins : (AI 0 9 x0_coins)) (h_x0_goods : (0 ≤ x0_goods ∧ x0_goods ≤ 8)) (h_x0_good : (GdM x0_good)) (h_x0_works : (0 ≤ x0_works ∧ x0_works ≤ 7)) (h_x0_work : (WkM x0_work)) (h_x0_years : (1 ≤ x0_years ∧ x0_years ≤ 30)) (h_x0_from : (0 ≤ x0_from ∧ x0_from ≤ 250)) (h_x0_far : (AI 0 1000000000 x0_far)) (h_x0_way : (AI 0 22 x0_way)) (h_x0_steps : (0 ≤ x0_steps ∧ x0_steps ≤ 37)) (h_x0_queue : (AI 0 35 x0_queue)) : Sf (fX7_year n (x0_shelf, x0_rowSort, x0_rowSize, x0_rows, x0_moved, x0_shown, x0_tape, x0_tapeSize, x0_refused, x0_lines, x0_line, x0_changes, x0_coins, x0_goods, x0_good, x0_works, x0_work, x0_years, x0_gone, x0_spent, x0_at, x0_token, x0_from, x0_figures, x0_fault, x0_numbers, x0_statements, x0_left, x0_far, x0_tons, x0_way, x0_steps, x0_met, x0_queue, x0_totals) p1) (fun r => YQ x0_work x0_works p1 r.1 (costA x0_coins x0_good x0_goods p1 ((x0_lines, x0_line, x0_changes), x0_work)) (SEq x0_works.toNatClampNeg ((r.2.2.1, r.2.2.2.1, r.2.2.2.2.1), r.2.2.2.2.2.1) (yearA p1 ((x0_lines, x0_line, x0_changes), x0_work))) ((r.2.2.1, r.2.2.2.1, r.2.2.2.2.1, r.2.2.2.2.2.1) = (x0_lines, x0_line, x0_changes, x0_work))) := by
  unfold fX7_year
  dsimp only [u35]
  refine Sf.ite (fun hm => ?_) (fun hm => ?_)
  · unfold fX7_year_j20
    rw [if_pos hm]
    refine Sf.bind (goesR hn h_x0_shelf h_x0_rowSize h_x0_tapeSize h_x0_lines h_x0_line h_x0_changes h_x0_coins h_x0_goods h_x0_good h_x0_works h_x0_work h_x0_years h_x0_from h_x0_far h_x0_way h_x0_steps h_x0_queue (Or.inl hm)) ?_
    rintro ⟨v1, g3, g4, g5, g6, g7, g8, g9, g10, g11⟩ ⟨h1, h2⟩
    exact Sf.ok (Or.inl ⟨Or.inl hm, Or.inl hm, h1, h2⟩)
  refine Sf.bind (sX7_isWork h_x0_shelf h_x0_rowSize h_x0_tapeSize h_x0_lines h_x0_line h_x0_changes h_x0_coins h_x0_goods h_x0_good h_x0_works h_x0_work h_x0_years h_x0_from h_x0_far h_x0_way h_x0_steps h_x0_queue) (fun v30 h30 => ?_)
  refine Sf.ite (fun hz => ?_) (fun hz => ?_)
  · refine Sf.bind (sX7_refuse h_x0_shelf h_x0_rowSize h_x0_tapeSize h_x0_lines h_x0_line h_x0_changes h_x0_coins h_x0_goods h_x0_good h_x0_works h_x0_work h_x0_years h_x0_from h_x0_far h_x0_way h_x0_steps h_x0_queue (by decide)) ?_
    rintro ⟨v, g⟩ e
    refine Sf.ok (Or.inr (Or.inl ⟨?_, e, rfl⟩))
    rintro (h2 | h2)
    · exact hm h2
    · have q := (okK_lt h_x0_works h2).1
      rcases h30 with h | h
      · rw [h.1] at hz; exact absurd hz (by decide)
      · exact h.2 q
  · have hp : 0 ≤ p1 ∧ p1 < x0_works := by
      rcases h30 with h | h
      · exact h.2
      · exact absurd h.1 hz
    have hpn : 0 ≤ p1 ∧ p1.toNatClampNeg < x0_works.toNatClampNeg := by
      have a := i32_cl hp.1
      have b := i32_cl h_x0_works.1
      have c := Int32.lt_iff_toInt_lt.mp hp.2
      exact ⟨hp.1, by omega⟩
    unfold fX7_year_j20
    rw [if_neg hm]
    refine Sf.ckb 7 rfl ⟨hp.1, Int32.lt_of_lt_of_le hp.2 h_x0_works.2⟩ (fun q13 e13 _ => ?_)
    refine Sf.rdl 4 rfl rfl (fun v14 e14 => ?_)
    rw [e13] at e14
    have b14 : 0 ≤ v14 ∧ v14 ≤ 1 := by rw [e14]; exact h_x0_work.1 p1.toNatClampNeg 4
    refine Sf.ite (fun hv => ?_) (fun hv => ?_)
    · refine Sf.bind (sX7_refuse h_x0_shelf h_x0_rowSize h_x0_tapeSize h_x0_lines h_x0_line h_x0_changes h_x0_coins h_x0_goods h_x0_good h_x0_works h_x0_work h_x0_years h_x0_from h_x0_far h_x0_way h_x0_steps h_x0_queue (by decide)) ?_
      rintro ⟨v, g⟩ e
      refine Sf.ok (Or.inr (Or.inr ⟨Or.inr hpn, ?_, e, rfl⟩))
      rintro (h2 | h2)
      · exact hm h2
      · rw [← e14, hv] at h2; exact absurd h2 (by decide)
    · have h0 : x0_work p1.toNatClampNeg 4 = 0 := by
        rw [← e14]
        clear h30 e14
        grind
      refine Sf.bind (goesR hn h_x0_shelf h_x0_rowSize h_x0_tapeSize h_x0_lines h_x0_line h_x0_changes h_x0_coins h_x0_goods h_x0_good h_x0_works h_x0_work h_x0_years h_x0_from h_x0_far h_x0_way h_x0_steps h_x0_queue (Or.inr hpn)) ?_
      rintro ⟨v1, g3, g4, g5, g6, g7, g8, g9, g10, g11⟩ ⟨h1, h2⟩
      exact Sf.ok (Or.inl ⟨Or.inr hpn, Or.inr h0, h1, h2⟩)
/-- alike lands, as the abstract ones -/
theorem LaD.s {lc gc wc yr : Int32} {lines goods works chg coin : Nat → Int32} {L : Int32} {line : Nat → Nat → Int32} {ch co : Nat → Int32} {G : Int32} {good : Nat → Nat → Int32} {W : Int32} {work : Nat → Nat → Int32} {Y : Int32} (h : LaD lc gc wc yr lines goods works chg coin L line ch co G good W work Y) : SEq wc.toNatClampNeg ((lc, ro 7 lines, chg), ro 5 works) ((L, line, ch), work) := ⟨⟨h.1.1, h.2.1, h.2.2.2.2.1⟩, h.2.2.2.1⟩
theorem LaD.of {lc gc wc yr : Int32} {lines goods works chg coin : Nat → Int32} {L : Int32} {line : Nat → Nat → Int32} {ch co : Nat → Int32} {G : Int32} {good : Nat → Nat → Int32} {W : Int32} {work : Nat → Nat → Int32} {Y lc' : Int32} {lines' works' chg' : Nat → Int32} {L' : Int32} {line' : Nat → Nat → Int32} {ch' : Nat → Int32} {work' : Nat → Nat → Int32} (h : LaD lc gc wc yr lines goods works chg coin L line ch co G good W work Y) (hs : SEq wc.toNatClampNeg ((lc', ro 7 lines', chg'), ro 5 works') ((L', line', ch'), work')) (hw : ∀ k, k < wc.toNatClampNeg → Wf1 (ro 5 works') lc' k) : LaD lc' gc wc yr lines' goods works' chg' coin L' line' ch' co G good W work' Y := ⟨⟨hs.1.1, h.1.2⟩, hs.1.2.1, h.2.2.1, hs.2, hs.1.2.2, h.2.2.2.2.2.1, hw⟩
theorem dYear {n : Nat} {x0_refused : (Nat → Int32)} {x0_isKept : Int32} {x0_gone : Int32} {x0_spent : Int32} {x1_gained : Nat → Int32} {x2_lineCount : Int32} {x2_goodsCount : Int32} {x2_workCount : Int32} {x2_years : Int32} {x2_lines : (Nat → Int32)} {x2_goods : (Nat → Int32)} {x2_works : (Nat → Int32)} {x2_change : (Nat → Int32)} {x2_coin : (Nat → Int32)} {x2_knownFree : (Nat → Int32)} {x2_isKnown : Int32} {x3_lineCount : Int32} {x3_goodsCount : Int32} {x3_workCount : Int32} {x3_years : Int32} {x3_lines : (Nat → Int32)} {x3_goods : (Nat → Int32)} {x3_works : (Nat → Int32)} {x3_change : (Nat → Int32)} {x3_coin : (Nat → Int32)} {x3_knownFree : (Nat → Int32)} {x3_isKnown : Int32} {x4_left : (Nat → Int32)} {x4_earned : (Nat → Int32)} {x4_turnCost : Int32} {x4_turnWayless : Int32} {x5_edgeA : (Nat → Int32)} {x5_edgeB : (Nat → Int32)} {x5_edgeCost : (Nat → Int32)} {x5_edgeLine : (Nat → Int32)} {x5_change : (Nat → Int32)} {x5_away : (Nat → Int32)} {x5_steps : (Nat → Int32)} {x5_nodes : (Nat → Int32)} {x5_stepCount : Int32} {x5_open : (Nat → Int32)} {x5_openCount : Int32} {x5_seen : Int64} {x5_edgeCount : Int32} {x5_aim : Int32} {m_shelf : (Nat → Int32)} {m_rowSort : (Nat → Int32)} {m_rowSize : (Nat → Int32)} {m_rows : (Nat → Nat → Int64)} {m_moved : (Nat → Int64)} {m_shown : (Nat → Int32)} {m_tape : (Nat → Int32)} {m_tapeSize : Int32} {m_refused : (Nat → Int32)} {m_lines : Int32} {m_line : (Nat → Nat → Int32)} {m_changes : (Nat → Int32)} {m_coins : (Nat → Int32)} {m_goods : Int32} {m_good : (Nat → Nat → Int32)} {m_works : Int32} {m_work : (Nat → Nat → Int32)} {m_years : Int32} {m_gone : Int32} {m_spent : Int32} {m_at : Int32} {m_token : Int32} {m_from : Int32} {m_figures : Int64} {m_fault : Int32} {m_numbers : (Nat → Int32)} {m_statements : Int32} {m_left : (Nat → Int32)} {m_far : (Nat → Int32)} {m_tons : Int32} {m_way : (Nat → Int32)} {m_steps : Int32} {m_met : Int64} {m_queue : (Nat → Int32)} {m_totals : (Nat → Int32)} {p1 er eg es e1 e6 fr : Int32} {e0 e2 e3 e4 e5 : Nat → Int32} {T : Int32 × Int32 × Int32 × Int32 × (Nat → Int32) × (Nat → Int32) × (Nat → Int32) × (Nat → Int32) × (Nat → Int32) × Int32} {Y : (Nat → Int32) × (Nat → Int32) × (Nat → Int32) × (Nat → Int32) × (Nat → Int32) × (Nat → Int32) × Int32 × Int32} {f0 f3 f7 f8 : Nat → Int32} {f1 f5 f6 f9 : Int32} {f2 f4 : Nat → Nat → Int32} (hn : 1000000000000 ≤ n) (h_x2_lineCount : (0 ≤ x2_lineCount ∧ x2_lineCount ≤ 20)) (h_x2_goodsCount : (0 ≤ x2_goodsCount ∧ x2_goodsCount ≤ 8)) (h_x2_workCount : (0 ≤ x2_workCount ∧ x2_workCount ≤ 7)) (h_x2_years : (1 ≤ x2_years ∧ x2_years ≤ 30)) (h_x2_lines : (LnOk x2_lines)) (h_x2_goods : (GdOk x2_goods)) (h_x2_works : (WkOk x2_works)) (h_x2_change : (AI 0 99 x2_change)) (h_x2_coin : (AI 0 9 x2_coin)) (h_x3_lineCount : (0 ≤ x3_lineCount ∧ x3_lineCount ≤ 20)) (h_x3_goodsCount : (0 ≤ x3_goodsCount ∧ x3_goodsCount ≤ 8)) (h_x3_workCount : (0 ≤ x3_workCount ∧ x3_workCount ≤ 7)) (h_x3_years : (1 ≤ x3_years ∧ x3_years ≤ 30)) (h_x3_lines : (LnOk x3_lines)) (h_x3_goods : (GdOk x3_goods)) (h_x3_works : (WkOk x3_works)) (h_x3_change : (AI 0 99 x3_change)) (h_x3_coin : (AI 0 9 x3_coin)) (h_x5_edgeA : (AI 0 35 x5_edgeA)) (h_x5_edgeB : (AI 0 35 x5_edgeB)) (h_x5_edgeLine : (AI 0 19 x5_edgeLine)) (h_x5_steps : (AI 0 22 x5_steps)) (h_x5_nodes : (AI 0 35 x5_nodes)) (h_x5_stepCount : (0 ≤ x5_stepCount ∧ x5_stepCount ≤ 36)) (h_x5_open : (AI 0 35 x5_open)) (h_x5_openCount : (0 ≤ x5_openCount ∧ x5_openCount ≤ 36)) (h_x5_edgeCount : (0 ≤ x5_edgeCount ∧ x5_edgeCount ≤ 60)) (h_m_shelf : (AI 0 2 m_shelf)) (h_m_rowSize : (AI 0 40 m_rowSize)) (h_m_tapeSize : (0 ≤ m_tapeSize ∧ m_tapeSize ≤ 250)) (h_m_lines : (0 ≤ m_lines ∧ m_lines ≤ 20)) (h_m_line : (LnM m_line)) (h_m_changes : (AI 0 99 m_changes)) (h_m_coins : (AI 0 9 m_coins)) (h_m_goods : (0 ≤ m_goods ∧ m_goods ≤ 8)) (h_m_good : (GdM m_good)) (h_m_works : (0 ≤ m_works ∧ m_works ≤ 7)) (h_m_work : (WkM m_work)) (h_m_years : (1 ≤ m_years ∧ m_years ≤ 30)) (h_m_from : (0 ≤ m_from ∧ m_from ≤ 250)) (h_m_far : (AI 0 1000000000 m_far)) (h_m_way : (AI 0 22 m_way)) (h_m_steps : (0 ≤ m_steps ∧ m_steps ≤ 37)) (h_m_queue : (AI 0 35 m_queue)) (hA : (LaD x3_lineCount x3_goodsCount x3_workCount x3_years x3_lines x3_goods x3_works x3_change x3_coin m_lines m_line m_changes m_coins m_goods m_good m_works m_work m_years)) (hk : Kn (FrS x3_lineCount (ro 7 x3_lines) x3_change x3_coin (ro 3 x3_goods) x3_goodsCount (ro 5 x3_works) x3_workCount) x3_knownFree x3_isKnown) (eqA : fX6_year n (x0_refused, x0_isKept, x0_gone, x0_spent) x1_gained (x2_lineCount, x2_goodsCount, x2_workCount, x2_years, x2_lines, x2_goods, x2_works, x2_change, x2_coin, x2_knownFree, x2_isKnown) (x3_lineCount, x3_goodsCount, x3_workCount, x3_years, x3_lines, x3_goods, x3_works, x3_change, x3_coin, x3_knownFree, x3_isKnown) (x4_left, x4_earned, x4_turnCost, x4_turnWayless) (x5_edgeA, x5_edgeB, x5_edgeCost, x5_edgeLine, x5_change, x5_away, x5_steps, x5_nodes, x5_stepCount, x5_open, x5_openCount, x5_seen, x5_edgeCount, x5_aim) p1 = some (er, e0, eg, es, T, (e1, e2, e3, e4, e5, e6), Y)) (eqB : fX7_year n (m_shelf, m_rowSort, m_rowSize, m_rows, m_moved, m_shown, m_tape, m_tapeSize, m_refused, m_lines, m_line, m_changes, m_coins, m_goods, m_good, m_works, m_work, m_years, m_gone, m_spent, m_at, m_token, m_from, m_figures, m_fault, m_numbers, m_statements, m_left, m_far, m_tons, m_way, m_steps, m_met, m_queue, m_totals) p1 = some (fr, (f0, f1, f2, f3, f4, f5, f6, f7, f8, f9))) : er = fr ∧ (LaD e1 x3_goodsCount x3_workCount x3_years e2 x3_goods e3 e4 x3_coin f1 f2 f3 m_coins m_goods m_good m_works f4 m_years) ∧ Kn (FrS e1 (ro 7 e2) e4 x3_coin (ro 3 x3_goods) x3_goodsCount (ro 5 e3) x3_workCount) e5 e6 := by
  have hf := hA.2.2.2.2.2.2
  have a := (yearC hn h_x2_lineCount h_x2_goodsCount h_x2_workCount h_x2_years h_x2_lines h_x2_goods h_x2_works h_x2_change h_x2_coin h_x3_lineCount h_x3_goodsCount h_x3_workCount h_x3_years h_x3_lines h_x3_goods h_x3_works h_x3_change h_x3_coin h_x5_edgeA h_x5_edgeB h_x5_edgeLine h_x5_steps h_x5_nodes h_x5_stepCount h_x5_open h_x5_openCount h_x5_edgeCount hf hk).at eqA
  have b := (yearR hn h_m_shelf h_m_rowSize h_m_tapeSize h_m_lines h_m_line h_m_changes h_m_coins h_m_goods h_m_good h_m_works h_m_work h_m_years h_m_from h_m_far h_m_way h_m_steps h_m_queue).at eqB
  have hS := hA.s
  obtain ⟨⟨z1, z2, z3, z4⟩, z5, z6, z7, z8, z9, z10⟩ := id hA
  subst z3
  rcases YQ_eq (fun k hk' => z7 k hk' 4 (by decide)) a b with ⟨hp, ha, hb, ⟨s1, s2⟩, s'⟩ | ⟨e, o, o'⟩
  · have hW : WfS x3_workCount.toNatClampNeg ((x3_lineCount, ro 7 x3_lines, x3_change), ro 5 x3_works) := ⟨h_x3_lineCount, z10⟩
    have s1 : SEq x3_workCount.toNatClampNeg ((e1, ro 7 e2, e4), ro 5 e3) (yearA p1 ((x3_lineCount, ro 7 x3_lines, x3_change), ro 5 x3_works)) := s1
    have s' : SEq x3_workCount.toNatClampNeg ((f1, f2, f3), f4) (yearA p1 ((m_lines, m_line, m_changes), m_work)) := s'
    have q := yearA_congr hS hW hp
    have hS2 := SEq.trans s1 (SEq.trans q s'.symm)
    refine ⟨?_, hA.of hS2 ((yearA_wf hW).congr s1.symm).2, s2⟩
    have ha : er = _ := ha
    have hb : fr = _ := hb
    subst z2
    rw [ha, hb]
    exact costA_congr hS hW hp z9 z6
  · cases o
    cases o'
    exact ⟨e, hA, hk⟩
end
section
/-! run -/
theorem runA_1 (coins : Nat → Int32) (good : Nat → Nat → Int32) (G W yr : Int32) (i : Nat) (x : Int32 × S1) : (runA coins good G W yr (i + 1) x).1 = (runA coins good G W yr i x).1 + costA coins good G (FirA (runA coins good G W yr i x).2.1 coins good G (runA coins good G W yr i x).2.2 W yr) (runA coins good G W yr i x).2 := rfl
theorem runA_2 (coins : Nat → Int32) (good : Nat → Nat → Int32) (G W yr : Int32) (i : Nat) (x : Int32 × S1) : (runA coins good G W yr (i + 1) x).2 = yearA (FirA (runA coins good G W yr i x).2.1 coins good G (runA coins good G W yr i x).2.2 W yr) (runA coins good G W yr i x).2 := rfl
theorem runC {n : Nat} {x0_refused : (Nat → Int32)} {x0_isKept : Int32} {x0_gone : Int32} {x0_spent : Int32} {x1_gained : Nat → Int32} {x2_lineCount : Int32} {x2_goodsCount : Int32} {x2_workCount : Int32} {x2_years : Int32} {x2_lines : (Nat → Int32)} {x2_goods : (Nat → Int32)} {x2_works : (Nat → Int32)} {x2_change : (Nat → Int32)} {x2_coin : (Nat → Int32)} {x2_knownFree : (Nat → Int32)} {x2_isKnown : Int32} {x3_lineCount : Int32} {x3_goodsCount : Int32} {x3_workCount : Int32} {x3_years : Int32} {x3_lines : (Nat → Int32)} {x3_goods : (Nat → Int32)} {x3_works : (Nat → Int32)} {x3_change : (Nat → Int32)} {x3_coin : (Nat → Int32)} {x3_knownFree : (Nat → Int32)} {x3_isKnown : Int32} {x4_left : (Nat → Int32)} {x4_earned : (Nat → Int32)} {x4_turnCost : Int32} {x4_turnWayless : Int32} {x5_edgeA : (Nat → Int32)} {x5_edgeB : (Nat → Int32)} {x5_edgeCost : (Nat → Int32)} {x5_edgeLine : (Nat → Int32)} {x5_change : (Nat → Int32)} {x5_away : (Nat → Int32)} {x5_steps : (Nat → Int32)} {x5_nodes : (Nat → Int32)} {x5_stepCount : Int32} {x5_open : (Nat → Int32)} {x5_openCount : Int32} {x5_seen : Int64} {x5_edgeCount : Int32} {x5_aim : Int32} {p1 : Int32} (hn : 1000000000000 ≤ n) (h_x2_lineCount : (0 ≤ x2_lineCount ∧ x2_lineCount ≤ 20)) (h_x2_goodsCount : (0 ≤ x2_goodsCount ∧ x2_goodsCount ≤ 8)) (h_x2_workCount : (0 ≤ x2_workCount ∧ x2_workCount ≤ 7)) (h_x2_years : (1 ≤ x2_years ∧ x2_years ≤ 30)) (h_x2_lines : (LnOk x2_lines)) (h_x2_goods : (GdOk x2_goods)) (h_x2_works : (WkOk x2_works)) (h_x2_change : (AI 0 99 x2_change)) (h_x2_coin : (AI 0 9 x2_coin)) (h_x3_lineCount : (0 ≤ x3_lineCount ∧ x3_lineCount ≤ 20)) (h_x3_goodsCount : (0 ≤ x3_goodsCount ∧ x3_goodsCount ≤ 8)) (h_x3_workCount : (0 ≤ x3_workCount ∧ x3_workCount ≤ 7)) (h_x3_years : (1 ≤ x3_years ∧ x3_years ≤ 30)) (h_x3_lines : (LnOk x3_lines)) (h_x3_goods : (GdOk x3_goods)) (h_x3_works : (WkOk x3_works)) (h_x3_change : (AI 0 99 x3_change)) (h_x3_coin : (AI 0 9 x3_coin)) (h_x5_edgeA : (AI 0 35 x5_edgeA)) (h_x5_edgeB : (AI 0 35 x5_edgeB)) (h_x5_edgeLine : (AI 0 19 x5_edgeLine)) (h_x5_steps : (AI 0 22 x5_steps)) (h_x5_nodes : (AI 0 35 x5_nodes)) (h_x5_stepCount : (0 ≤ x5_stepCount ∧ x5_stepCount ≤ 36)) (h_x5_open : (AI 0 35 x5_open)) (h_x5_openCount : (0 ≤ x5_openCount ∧ x5_openCount ≤ 36)) (h_x5_edgeCount : (0 ≤ x5_edgeCount ∧ x5_edgeCount ≤ 60)) (hf : ∀ k, k < x3_workCount.toNatClampNeg → Wf1 (ro 5 x3_works) x3_lineCount k) (hk : Kn (FrS x3_lineCount (ro 7 x3_lines) x3_change x3_coin (ro 3 x3_goods) x3_goodsCount (ro 5 x3_works) x3_workCount) x3_knownFree x3_isKnown) : Sf (fX6_run n (x0_refused, x0_isKept, x0_gone, x0_spent) x1_gained (x2_lineCount, x2_goodsCount, x2_workCount, x2_years, x2_lines, x2_goods, x2_works, x2_change, x2_coin, x2_knownFree, x2_isKnown) (x3_lineCount, x3_goodsCount, x3_workCount, x3_years, x3_lines, x3_goods, x3_works, x3_change, x3_coin, x3_knownFree, x3_isKnown) (x4_left, x4_earned, x4_turnCost, x4_turnWayless) (x5_edgeA, x5_edgeB, x5_edgeCost, x5_edgeLine, x5_change, x5_away, x5_steps, x5_nodes, x5_stepCount, x5_open, x5_openCount, x5_seen, x5_edgeCount, x5_aim) p1) (fun r => AP (1 ≤ p1 ∧ p1 ≤ 20) r.1 ((1 ≤ p1 ∧ p1 ≤ 20) ∧ r.1 = (runA x3_coin (ro 3 x3_goods) x3_goodsCount x3_workCount x3_years p1.toNatClampNeg (0, ((x3_lineCount, ro 7 x3_lines, x3_change), ro 5 x3_works))).1 ∧ NewQ (runA x3_coin (ro 3 x3_goods) x3_goodsCount x3_workCount x3_years p1.toNatClampNeg (0, ((x3_lineCount, ro 7 x3_lines, x3_change), ro 5 x3_works))).2 x3_coin x3_goods x3_goodsCount x3_workCount r.2.2.2.2.2.1) (r.2.2.2.2.2.1 = (x3_lineCount, x3_lines, x3_works, x3_change, x3_knownFree, x3_isKnown))) := by
  unfold fX6_run
  dsimp only [u4, u14, u11]
  refine Sf.bind sX6_within (fun v1 h1 => Sf.ite (fun hz => ?_) (fun hz => ?_))
  · refine Sf.bind refC ?_
    rintro ⟨v, g⟩ e
    exact Sf.ok (Or.inr ⟨gd0 h1 hz, e, rfl⟩)
  have hp := gd1 h1 hz
  refine Sf.bind (P := fun r => r.1 = (runA x3_coin (ro 3 x3_goods) x3_goodsCount x3_workCount x3_years p1.toNatClampNeg (0, ((x3_lineCount, ro 7 x3_lines, x3_change), ro 5 x3_works))).1 ∧ NewQ (runA x3_coin (ro 3 x3_goods) x3_goodsCount x3_workCount x3_years p1.toNatClampNeg (0, ((x3_lineCount, ro 7 x3_lines, x3_change), ro 5 x3_works))).2 x3_coin x3_goods x3_goodsCount x3_workCount (r.2.2.2.2.2.2.2.2.2.2.2.2.2.1, r.2.2.2.2.2.2.2.2.2.2.2.2.2.2.1, r.2.2.2.2.2.2.2.2.2.2.2.2.2.2.2.1, r.2.2.2.2.2.2.2.2.2.2.2.2.2.2.2.2.1, r.2.2.2.2.2.2.2.2.2.2.2.2.2.2.2.2.2.1, r.2.2.2.2.2.2.2.2.2.2.2.2.2.2.2.2.2.2.1)) ?_ ?_
  · refine Sf.loop28 (fun z4 z5 z6 z7 z8 z9 z10 z11 z12 z13 z14 z15 z16 z17 z18 z19 z20 z21 z22 z23 z24 z25 z26 z27 z28 z29 z30 z31 => (0 ≤ z5 ∧ z5 ≤ p1) ∧ z4 = (runA x3_coin (ro 3 x3_goods) x3_goodsCount x3_workCount x3_years z5.toNatClampNeg (0, ((x3_lineCount, ro 7 x3_lines, x3_change), ro 5 x3_works))).1 ∧ NewQ (runA x3_coin (ro 3 x3_goods) x3_goodsCount x3_workCount x3_years z5.toNatClampNeg (0, ((x3_lineCount, ro 7 x3_lines, x3_change), ro 5 x3_works))).2 x3_coin x3_goods x3_goodsCount x3_workCount (z18, z19, z20, z21, z22, z23) ∧ StB z24 z25 z27 z30 z8 z9 z10 z11 z12 z13 z14 z15 z16 ∧ ((0 ≤ z18 ∧ z18 ≤ 20) ∧ LnOk z19 ∧ WkOk z20 ∧ AI 0 99 z21)) (fun z4 z5 z6 z7 z8 z9 z10 z11 z12 z13 z14 z15 z16 z17 z18 z19 z20 z21 z22 z23 z24 z25 z26 z27 z28 z29 z30 z31 => muUp z5) (fun z4 z5 z6 z7 z8 z9 z10 z11 z12 z13 z14 z15 z16 z17 z18 z19 z20 z21 z22 z23 z24 z25 z26 z27 z28 z29 z30 z31 h => ?_) ?_ (muUp_n hn)
    · obtain ⟨i0, i1, ⟨i2, i3⟩, ⟨⟨j1, j2, j3, j4⟩, m1, m2, m3, m4, m5, m6, m7, m8, m9⟩, l1, l2, l3, l4⟩ := h
      have i2 : SEq x3_workCount.toNatClampNeg ((z18, ro 7 z19, z21), ro 5 z20) _ := i2
      have i3 : Kn (FrS z18 (ro 7 z19) z21 x3_coin (ro 3 x3_goods) x3_goodsCount (ro 5 z20) x3_workCount) z22 z23 := i3
      unfold fX6_run_s21
      refine Sf.ite (fun hc => ?_) (fun hc => ?_)
      · have e : z5 = p1 := Int32.le_antisymm i0.2 hc
        rw [e] at i1 i2
        exact Sf.inr ⟨i1, i2, i3⟩
      obtain ⟨p0, p1', p3⟩ := up1 i0.1 (Int32.le_trans hp.2 (by decide)) hc
      have hz1 : z5 + 1 ≤ p1 := by clear i1 i2 i3 hk hf; grind
      have hWa := runA_wf (coins := x3_coin) (good := ro 3 x3_goods) (G := x3_goodsCount) (W := x3_workCount) (yr := x3_years) (x := (0, ((x3_lineCount, ro 7 x3_lines, x3_change), ro 5 x3_works))) ⟨h_x3_lineCount, hf⟩ z5.toNatClampNeg
      have hWc := hWa.congr i2.symm
      refine Sf.bind (Sf.and (sX0_firstOf hn j1 j2 j3 h_x5_steps h_x5_nodes h_x5_stepCount h_x5_open h_x5_openCount j4 m1 m2 m3 m4 m5 m6 m7 m8 m9 l1 h_x3_goodsCount h_x3_workCount h_x3_years l2 h_x3_goods l3 l4 h_x3_coin) (firstOfC hn j1 j2 j3 h_x5_steps h_x5_nodes h_x5_stepCount h_x5_open h_x5_openCount j4 m1 m2 m3 m4 m5 m6 m7 m8 m9 l1 h_x3_goodsCount h_x3_workCount h_x3_years l2 h_x3_goods l3 l4 h_x3_coin hWc.2 i3)) ?_
      rintro ⟨v60, ⟨g62, g63, g64, g65, g66, g67, g68, g69⟩, ⟨g71, g72, g73, g74, g75, g76, g77, g78, g79, g80⟩, ⟨g82, g83, g84, g85, g86⟩⟩ ⟨⟨b0, b1, b2, b3, b4, b5, b6, b7, b8, b9, b10, b11, b12, b13, b14, b15, b16⟩, e60, q1, q2, q3, q4⟩
      have q1 : g82 = z18 := q1
      have q2 : g83 = z19 := q2
      have q3 : g84 = z21 := q3
      have q4 : Kn _ g85 g86 := q4
      have e60 : v60 = _ := e60
      try dsimp only [u8, u10, u5]
      rw [q1, q2, q3]
      have ef := SEq.fir (coins := x3_coin) (coins' := x3_coin) (good := ro 3 x3_goods) (good' := ro 3 x3_goods) (G := x3_goodsCount) (yr := x3_years) i2 hWc (fun _ _ => rfl) (fun _ _ _ _ => rfl)
      have ev : v60 = FirA (runA x3_coin (ro 3 x3_goods) x3_goodsCount x3_workCount x3_years z5.toNatClampNeg (0, ((x3_lineCount, ro 7 x3_lines, x3_change), ro 5 x3_works))).2.1 x3_coin (ro 3 x3_goods) x3_goodsCount (runA x3_coin (ro 3 x3_goods) x3_goodsCount x3_workCount x3_years z5.toNatClampNeg (0, ((x3_lineCount, ro 7 x3_lines, x3_change), ro 5 x3_works))).2.2 x3_workCount x3_years := e60.trans ef
      have ok : okK x3_workCount.toNatClampNeg v60 := by rw [ev]; exact FirA_ok h_x3_workCount
      refine Sf.bind (Sf.and (sX6_passYear hn b5 b6 b7 b8 b9 b10 b11 b12 b13 l1 h_x3_goodsCount h_x3_workCount h_x3_years l2 h_x3_goods l3 l4 h_x3_coin b1 b2 b3 h_x5_steps h_x5_nodes h_x5_stepCount h_x5_open h_x5_openCount b4) (passYearC hn b5 b6 b7 b8 b9 b10 b11 b12 b13 l1 h_x3_goodsCount h_x3_workCount h_x3_years l2 h_x3_goods l3 l4 h_x3_coin b1 b2 b3 h_x5_steps h_x5_nodes h_x5_stepCount h_x5_open h_x5_openCount b4 hWc.2 q4 ok)) ?_
      rintro ⟨v88, g89, g90, ⟨g92, g93, g94, g95, g96, g97, g98, g99, g100, g101⟩, ⟨g103, g104, g105, g106, g107, g108⟩, ⟨g110, g111, g112, g113, g114, g115, g116, g117⟩⟩ ⟨⟨c1, c2, c3, c4, c5, c6, c7, c8, c9, c10, c11, c12, c13, c14, c15, c16, c17⟩, e88, s1, s2⟩
      have e88 : v88 = _ := e88
      have s1 : SEq x3_workCount.toNatClampNeg ((g103, ro 7 g104, g106), ro 5 g105) (yearA v60 ((z18, ro 7 z19, z21), ro 5 z20)) := s1
      try dsimp only [u10, u6, u8]
      refine Sf.inl ⟨⟨p0, hz1⟩, ?_, ⟨?_, s2⟩, ⟨⟨c14, c15, c16, c17⟩, c1, c2, c3, c4, c5, c6, c7, c8, c9⟩, c10, c11, c12, c13⟩ (muUp_lt hc)
      · show z4 + v88 = (runA x3_coin (ro 3 x3_goods) x3_goodsCount x3_workCount x3_years (z5 + 1).toNatClampNeg (0, ((x3_lineCount, ro 7 x3_lines, x3_change), ro 5 x3_works))).1
        rw [p1', runA_1, ← ev, ← i1, e88, costA_congr i2 hWc ok (fun _ _ => rfl) (fun _ _ _ _ => rfl)]
      · show SEq x3_workCount.toNatClampNeg ((g103, ro 7 g104, g106), ro 5 g105) (runA x3_coin (ro 3 x3_goods) x3_goodsCount x3_workCount x3_years (z5 + 1).toNatClampNeg (0, ((x3_lineCount, ro 7 x3_lines, x3_change), ro 5 x3_works))).2
        rw [p1', runA_2, ← ev]
        exact SEq.trans s1 (yearA_congr i2 hWc ok)
    · exact ⟨⟨(show (0 : Int32) ≤ 0 by decide), (show (0 : Int32) ≤ p1 from Int32.le_trans (by decide) hp.1)⟩, rfl, ⟨SEq.refl _, hk⟩, ⟨⟨h_x5_edgeA, h_x5_edgeB, h_x5_edgeLine, h_x5_edgeCount⟩, h_x2_lineCount, h_x2_goodsCount, h_x2_workCount, h_x2_years, h_x2_lines, h_x2_goods, h_x2_works, h_x2_change, h_x2_coin⟩, h_x3_lineCount, h_x3_lines, h_x3_works, h_x3_change⟩
  · rintro ⟨w33, w34, w35, w36, w37, w38, w39, w40, w41, w42, w43, w44, w45, w46, w47, w48, w49, w50, w51, w52, w53, w54, w55, w56, w57, w58, w59⟩ ⟨h1, h2⟩
    exact Sf.ok (Or.inl ⟨hp, hp, h1, h2⟩)
theorem runR {n : Nat} {x0_shelf : (Nat → Int32)} {x0_rowSort : (Nat → Int32)} {x0_rowSize : (Nat → Int32)} {x0_rows : (Nat → Nat → Int64)} {x0_moved : (Nat → Int64)} {x0_shown : (Nat → Int32)} {x0_tape : (Nat → Int32)} {x0_tapeSize : Int32} {x0_refused : (Nat → Int32)} {x0_lines : Int32} {x0_line : (Nat → Nat → Int32)} {x0_changes : (Nat → Int32)} {x0_coins : (Nat → Int32)} {x0_goods : Int32} {x0_good : (Nat → Nat → Int32)} {x0_works : Int32} {x0_work : (Nat → Nat → Int32)} {x0_years : Int32} {x0_gone : Int32} {x0_spent : Int32} {x0_at : Int32} {x0_token : Int32} {x0_from : Int32} {x0_figures : Int64} {x0_fault : Int32} {x0_numbers : (Nat → Int32)} {x0_statements : Int32} {x0_left : (Nat → Int32)} {x0_far : (Nat → Int32)} {x0_tons : Int32} {x0_way : (Nat → Int32)} {x0_steps : Int32} {x0_met : Int64} {x0_queue : (Nat → Int32)} {x0_totals : (Nat → Int32)} {x1_shelf : (Nat → Int32)} {x1_rowSort : (Nat → Int32)} {x1_rowSize : (Nat → Int32)} {x1_rows : (Nat → Nat → Int64)} {x1_moved : (Nat → Int64)} {x1_shown : (Nat → Int32)} {x1_tape : (Nat → Int32)} {x1_tapeSize : Int32} {x1_refused : (Nat → Int32)} {x1_lines : Int32} {x1_line : (Nat → Nat → Int32)} {x1_changes : (Nat → Int32)} {x1_coins : (Nat → Int32)} {x1_goods : Int32} {x1_good : (Nat → Nat → Int32)} {x1_works : Int32} {x1_work : (Nat → Nat → Int32)} {x1_years : Int32} {x1_gone : Int32} {x1_spent : Int32} {x1_at : Int32} {x1_token : Int32} {x1_from : Int32} {x1_figures : Int64} {x1_fault : Int32} {x1_numbers : (Nat → Int32)} {x1_statements : Int32} {x1_left : (Nat → Int32)} {x1_far : (Nat → Int32)} {x1_tons : Int32} {x1_way : (Nat → Int32)} {x1_steps : Int32} {x1_met : Int64} {x1_queue : (Nat → Int32)} {x1_totals : (Nat → Int32)} {p1 : Int32} {coins : Nat → Int32} {good : Nat → Nat → Int32} {S : S1} (hn : 1000000000000 ≤ n) (h_x0_shelf : (AI 0 2 x0_shelf)) (h_x0_rowSize : (AI 0 40 x0_rowSize)) (h_x0_tapeSize : (0 ≤ x0_tapeSize ∧ x0_tapeSize ≤ 250)) (h_x0_lines : (0 ≤ x0_lines ∧ x0_lines ≤ 20)) (h_x0_line : (LnM x0_line)) (h_x0_changes : (AI 0 99 x0_changes)) (h_x0_coins : (AI 0 9 x0_coins)) (h_x0_goods : (0 ≤ x0_goods ∧ x0_goods ≤ 8)) (h_x0_good : (GdM x0_good)) (h_x0_works : (0 ≤ x0_works ∧ x0_works ≤ 7)) (h_x0_work : (WkM x0_work)) (h_x0_years : (1 ≤ x0_years ∧ x0_years ≤ 30)) (h_x0_from : (0 ≤ x0_from ∧ x0_from ≤ 250)) (h_x0_far : (AI 0 1000000000 x0_far)) (h_x0_way : (AI 0 22 x0_way)) (h_x0_steps : (0 ≤ x0_steps ∧ x0_steps ≤ 37)) (h_x0_queue : (AI 0 35 x0_queue)) (h_x1_shelf : (AI 0 2 x1_shelf)) (h_x1_rowSize : (AI 0 40 x1_rowSize)) (h_x1_tapeSize : (0 ≤ x1_tapeSize ∧ x1_tapeSize ≤ 250)) (h_x1_lines : (0 ≤ x1_lines ∧ x1_lines ≤ 20)) (h_x1_line : (LnM x1_line)) (h_x1_changes : (AI 0 99 x1_changes)) (h_x1_coins : (AI 0 9 x1_coins)) (h_x1_goods : (0 ≤ x1_goods ∧ x1_goods ≤ 8)) (h_x1_good : (GdM x1_good)) (h_x1_works : (0 ≤ x1_works ∧ x1_works ≤ 7)) (h_x1_work : (WkM x1_work)) (h_x1_years : (1 ≤ x1_years ∧ x1_years ≤ 30)) (h_x1_from : (0 ≤ x1_from ∧ x1_from ≤ 250)) (h_x1_far : (AI 0 1000000000 x1_far)) (h_x1_way : (AI 0 22 x1_way)) (h_x1_steps : (0 ≤ x1_steps ∧ x1_steps ≤ 37)) (h_x1_queue : (AI 0 35 x1_queue)) (hS : SEq x0_works.toNatClampNeg ((x0_lines, x0_line, x0_changes), x0_work) S) (hW : WfS x0_works.toNatClampNeg S) (hco : ∀ w, w < 3 → x0_coins w = coins w) (hg : ∀ g, g < x0_goods.toNatClampNeg → ∀ c, c < 3 → x0_good g c = good g c) : Sf (fX7_run n (x0_shelf, x0_rowSort, x0_rowSize, x0_rows, x0_moved, x0_shown, x0_tape, x0_tapeSize, x0_refused, x0_lines, x0_line, x0_changes, x0_coins, x0_goods, x0_good, x0_works, x0_work, x0_years, x0_gone, x0_spent, x0_at, x0_token, x0_from, x0_figures, x0_fault, x0_numbers, x0_statements, x0_left, x0_far, x0_tons, x0_way, x0_steps, x0_met, x0_queue, x0_totals) (x1_shelf, x1_rowSort, x1_rowSize, x1_rows, x1_moved, x1_shown, x1_tape, x1_tapeSize, x1_refused, x1_lines, x1_line, x1_changes, x1_coins, x1_goods, x1_good, x1_works, x1_work, x1_years, x1_gone, x1_spent, x1_at, x1_token, x1_from, x1_figures, x1_fault, x1_numbers, x1_statements, x1_left, x1_far, x1_tons, x1_way, x1_steps, x1_met, x1_queue, x1_totals) p1) (fun r => AP (1 ≤ p1 ∧ p1 ≤ 20) r.1 (r.1 = (runA coins good x0_goods x0_works x0_years p1.toNatClampNeg (0, S)).1 ∧ SEq x0_works.toNatClampNeg ((r.2.1.2.1, r.2.1.2.2.1, r.2.1.2.2.2.1), r.2.1.2.2.2.2.1) (runA coins good x0_goods x0_works x0_years p1.toNatClampNeg (0, S)).2) ((r.2.1.2.1, r.2.1.2.2.1, r.2.1.2.2.2.1, r.2.1.2.2.2.2.1) = (x0_lines, x0_line, x0_changes, x0_work))) := by
  unfold fX7_run
  dsimp only [u35]
  refine Sf.bind (s_inq p1 1 20 (by decide) (by decide)) (fun v1 h1 => Sf.ite (fun hz => ?_) (fun hz => ?_))
  · refine Sf.bind (sX7_refuse h_x0_shelf h_x0_rowSize h_x0_tapeSize h_x0_lines h_x0_line h_x0_changes h_x0_coins h_x0_goods h_x0_good h_x0_works h_x0_work h_x0_years h_x0_from h_x0_far h_x0_way h_x0_steps h_x0_queue (by decide)) ?_
    rintro ⟨v, g⟩ e
    exact Sf.ok (Or.inr ⟨gd0 h1 hz, e, rfl⟩)
  have hp := gd1 h1 hz
  refine Sf.bind (P := fun r => r.1 = (runA coins good x0_goods x0_works x0_years p1.toNatClampNeg (0, S)).1 ∧ SEq x0_works.toNatClampNeg ((r.2.1, r.2.2.1, r.2.2.2.1), r.2.2.2.2.1) (runA coins good x0_goods x0_works x0_years p1.toNatClampNeg (0, S)).2) ?_ ?_
  · refine Sf.loop25 (fun z4 z5 z6 z7 z8 z9 z10 z11 z12 z13 z14 z15 z16 z17 z18 z19 z20 z21 z22 z23 z24 z25 z26 z27 z28 => (0 ≤ z5 ∧ z5 ≤ p1) ∧ z4 = (runA coins good x0_goods x0_works x0_years z5.toNatClampNeg (0, S)).1 ∧ SEq x0_works.toNatClampNeg ((z6, z7, z8), z9) (runA coins good x0_goods x0_works x0_years z5.toNatClampNeg (0, S)).2 ∧ ((0 ≤ z6 ∧ z6 ≤ 20) ∧ LnM z7 ∧ AI 0 99 z8 ∧ WkM z9 ∧ AI 0 1000000000 z13) ∧ (0 ≤ z15 ∧ z15 ≤ 20) ∧ LnM z16 ∧ AI 0 99 z17 ∧ AI 0 9 z18 ∧ (0 ≤ z19 ∧ z19 ≤ 8) ∧ GdM z20 ∧ (0 ≤ z21 ∧ z21 ≤ 7) ∧ WkM z22 ∧ (1 ≤ z23 ∧ z23 ≤ 30) ∧ AI 0 1000000000 z27) (fun z4 z5 z6 z7 z8 z9 z10 z11 z12 z13 z14 z15 z16 z17 z18 z19 z20 z21 z22 z23 z24 z25 z26 z27 z28 => muUp z5) (fun z4 z5 z6 z7 z8 z9 z10 z11 z12 z13 z14 z15 z16 z17 z18 z19 z20 z21 z22 z23 z24 z25 z26 z27 z28 h => ?_) ?_ (muUp_n hn)
    · obtain ⟨i0, i1, i2, ⟨l1, l2, l3, l4, l5⟩, m1, m2, m3, m4, m5, m6, m7, m8, m9, m10⟩ := h
      unfold fX7_run_s23
      refine Sf.ite (fun hc => ?_) (fun hc => ?_)
      · have e : z5 = p1 := Int32.le_antisymm i0.2 hc
        rw [e] at i1 i2
        exact Sf.inr ⟨i1, i2⟩
      obtain ⟨p0, p1', p3⟩ := up1 i0.1 (Int32.le_trans hp.2 (by decide)) hc
      have hz1 : z5 + 1 ≤ p1 := by clear i1 i2 hS hW; grind
      have hWa := runA_wf (coins := coins) (good := good) (G := x0_goods) (W := x0_works) (yr := x0_years) (x := (0, S)) hW z5.toNatClampNeg
      have hWc := hWa.congr i2.symm
      refine Sf.bind (Sf.and (sX7_first hn h_x0_shelf h_x0_rowSize h_x0_tapeSize l1 l2 l3 h_x0_coins h_x0_goods h_x0_good h_x0_works l4 h_x0_years h_x0_from l5 h_x0_way h_x0_steps h_x0_queue h_x1_shelf h_x1_rowSize h_x1_tapeSize m1 m2 m3 m4 m5 m6 m7 m8 m9 h_x1_from m10 h_x1_way h_x1_steps h_x1_queue) (firstR hn h_x0_shelf h_x0_rowSize h_x0_tapeSize l1 l2 l3 h_x0_coins h_x0_goods h_x0_good h_x0_works l4 h_x0_years h_x0_from l5 h_x0_way h_x0_steps h_x0_queue h_x1_shelf h_x1_rowSize h_x1_tapeSize m1 m2 m3 m4 m5 m6 m7 m8 m9 h_x1_from m10 h_x1_way h_x1_steps h_x1_queue hWc.2)) ?_
      rintro ⟨v54, g56, g57, g58, g59, g60, g61, g62, g63, g64, g65, g66, g67, g68, g69⟩ ⟨⟨b0, b1, b2, b3, b4, b5, b6, b7, b8, b9, b10, b11⟩, e54⟩
      have e54 : v54 = _ := e54
      try dsimp only [u2, u14]
      have ef := SEq.fir (coins := x0_coins) (coins' := coins) (good := x0_good) (good' := good) (G := x0_goods) (yr := x0_years) i2 hWc hco hg
      have ev : v54 = FirA (runA coins good x0_goods x0_works x0_years z5.toNatClampNeg (0, S)).2.1 coins good x0_goods (runA coins good x0_goods x0_works x0_years z5.toNatClampNeg (0, S)).2.2 x0_works x0_years := e54.trans ef
      have ok : okK x0_works.toNatClampNeg v54 := by rw [ev]; exact FirA_ok h_x0_works
      have hb0 : -1 ≤ v54 ∧ v54 ≤ 6 := b0
      refine Sf.bind (Sf.and (sX7_goes hn h_x0_shelf h_x0_rowSize h_x0_tapeSize l1 l2 l3 h_x0_coins h_x0_goods h_x0_good h_x0_works l4 h_x0_years h_x0_from l5 h_x0_way h_x0_steps h_x0_queue hb0) (goesR hn h_x0_shelf h_x0_rowSize h_x0_tapeSize l1 l2 l3 h_x0_coins h_x0_goods h_x0_good h_x0_works l4 h_x0_years h_x0_from l5 h_x0_way h_x0_steps h_x0_queue ok)) ?_
      rintro ⟨v71, g73, g74, g75, g76, g77, g78, g79, g80, g81⟩ ⟨⟨c1, c2, c3, c4, c5⟩, e71, s1⟩
      have e71 : v71 = _ := e71
      have s1 : SEq x0_works.toNatClampNeg ((g73, g74, g75), g76) (yearA v54 ((z6, z7, z8), z9)) := s1
      try dsimp only [u2, u9]
      refine Sf.inl ⟨⟨p0, hz1⟩, ?_, ?_, ⟨c1, c2, c3, c4, c5⟩, b1, b2, b3, b4, b5, b6, b7, b8, b9, b10⟩ (muUp_lt hc)
      · show z4 + v71 = (runA coins good x0_goods x0_works x0_years (z5 + 1).toNatClampNeg (0, S)).1
        rw [p1', runA_1, ← ev, ← i1, e71, costA_congr i2 hWc ok hco hg]
      · show SEq x0_works.toNatClampNeg ((g73, g74, g75), g76) (runA coins good x0_goods x0_works x0_years (z5 + 1).toNatClampNeg (0, S)).2
        rw [p1', runA_2, ← ev]
        exact SEq.trans s1 (yearA_congr i2 hWc ok)
    · exact ⟨⟨(show (0 : Int32) ≤ 0 by decide), (show (0 : Int32) ≤ p1 from Int32.le_trans (by decide) hp.1)⟩, rfl, hS, ⟨h_x0_lines, h_x0_line, h_x0_changes, h_x0_work, h_x0_far⟩, h_x1_lines, h_x1_line, h_x1_changes, h_x1_coins, h_x1_goods, h_x1_good, h_x1_works, h_x1_work, h_x1_years, h_x1_far⟩
  · rintro ⟨w30, w31, w32, w33, w34, w35, w36, w37, w38, w39, w40, w41, w42, w43, w44, w45, w46, w47, w48, w49, w50, w51, w52, w53⟩ ⟨h1, h2⟩
    exact Sf.ok (Or.inl ⟨hp, h1, h2⟩)
theorem dRun {n : Nat} {x0_refused : (Nat → Int32)} {x0_isKept : Int32} {x0_gone : Int32} {x0_spent : Int32} {x1_gained : Nat → Int32} {x2_lineCount : Int32} {x2_goodsCount : Int32} {x2_workCount : Int32} {x2_years : Int32} {x2_lines : (Nat → Int32)} {x2_goods : (Nat → Int32)} {x2_works : (Nat → Int32)} {x2_change : (Nat → Int32)} {x2_coin : (Nat → Int32)} {x2_knownFree : (Nat → Int32)} {x2_isKnown : Int32} {x3_lineCount : Int32} {x3_goodsCount : Int32} {x3_workCount : Int32} {x3_years : Int32} {x3_lines : (Nat → Int32)} {x3_goods : (Nat → Int32)} {x3_works : (Nat → Int32)} {x3_change : (Nat → Int32)} {x3_coin : (Nat → Int32)} {x3_knownFree : (Nat → Int32)} {x3_isKnown : Int32} {x4_left : (Nat → Int32)} {x4_earned : (Nat → Int32)} {x4_turnCost : Int32} {x4_turnWayless : Int32} {x5_edgeA : (Nat → Int32)} {x5_edgeB : (Nat → Int32)} {x5_edgeCost : (Nat → Int32)} {x5_edgeLine : (Nat → Int32)} {x5_change : (Nat → Int32)} {x5_away : (Nat → Int32)} {x5_steps : (Nat → Int32)} {x5_nodes : (Nat → Int32)} {x5_stepCount : Int32} {x5_open : (Nat → Int32)} {x5_openCount : Int32} {x5_seen : Int64} {x5_edgeCount : Int32} {x5_aim : Int32} {m_shelf : (Nat → Int32)} {m_rowSort : (Nat → Int32)} {m_rowSize : (Nat → Int32)} {m_rows : (Nat → Nat → Int64)} {m_moved : (Nat → Int64)} {m_shown : (Nat → Int32)} {m_tape : (Nat → Int32)} {m_tapeSize : Int32} {m_refused : (Nat → Int32)} {m_lines : Int32} {m_line : (Nat → Nat → Int32)} {m_changes : (Nat → Int32)} {m_coins : (Nat → Int32)} {m_goods : Int32} {m_good : (Nat → Nat → Int32)} {m_works : Int32} {m_work : (Nat → Nat → Int32)} {m_years : Int32} {m_gone : Int32} {m_spent : Int32} {m_at : Int32} {m_token : Int32} {m_from : Int32} {m_figures : Int64} {m_fault : Int32} {m_numbers : (Nat → Int32)} {m_statements : Int32} {m_left : (Nat → Int32)} {m_far : (Nat → Int32)} {m_tons : Int32} {m_way : (Nat → Int32)} {m_steps : Int32} {m_met : Int64} {m_queue : (Nat → Int32)} {m_totals : (Nat → Int32)} {t_shelf : (Nat → Int32)} {t_rowSort : (Nat → Int32)} {t_rowSize : (Nat → Int32)} {t_rows : (Nat → Nat → Int64)} {t_moved : (Nat → Int64)} {t_shown : (Nat → Int32)} {t_tape : (Nat → Int32)} {t_tapeSize : Int32} {t_refused : (Nat → Int32)} {t_lines : Int32} {t_line : (Nat → Nat → Int32)} {t_changes : (Nat → Int32)} {t_coins : (Nat → Int32)} {t_goods : Int32} {t_good : (Nat → Nat → Int32)} {t_works : Int32} {t_work : (Nat → Nat → Int32)} {t_years : Int32} {t_gone : Int32} {t_spent : Int32} {t_at : Int32} {t_token : Int32} {t_from : Int32} {t_figures : Int64} {t_fault : Int32} {t_numbers : (Nat → Int32)} {t_statements : Int32} {t_left : (Nat → Int32)} {t_far : (Nat → Int32)} {t_tons : Int32} {t_way : (Nat → Int32)} {t_steps : Int32} {t_met : Int64} {t_queue : (Nat → Int32)} {t_totals : (Nat → Int32)} {p1 er eg es e1 e6 fr : Int32} {e0 e2 e3 e4 e5 : Nat → Int32} {T : Int32 × Int32 × Int32 × Int32 × (Nat → Int32) × (Nat → Int32) × (Nat → Int32) × (Nat → Int32) × (Nat → Int32) × Int32} {Y : (Nat → Int32) × (Nat → Int32) × (Nat → Int32) × (Nat → Int32) × (Nat → Int32) × (Nat → Int32) × Int32 × Int32} {f0 f3 f7 f8 : Nat → Int32} {f1 f5 f6 f9 : Int32} {f2 f4 : Nat → Nat → Int32} {Z : Int32 × (Nat → Nat → Int32) × (Nat → Int32) × (Nat → Int32) × Int32 × (Nat → Nat → Int32) × Int32 × (Nat → Nat → Int32) × Int32 × Int32 × Int32 × (Nat → Int32) × (Nat → Int32) × Int32} (hn : 1000000000000 ≤ n) (h_x2_lineCount : (0 ≤ x2_lineCount ∧ x2_lineCount ≤ 20)) (h_x2_goodsCount : (0 ≤ x2_goodsCount ∧ x2_goodsCount ≤ 8)) (h_x2_workCount : (0 ≤ x2_workCount ∧ x2_workCount ≤ 7)) (h_x2_years : (1 ≤ x2_years ∧ x2_years ≤ 30)) (h_x2_lines : (LnOk x2_lines)) (h_x2_goods : (GdOk x2_goods)) (h_x2_works : (WkOk x2_works)) (h_x2_change : (AI 0 99 x2_change)) (h_x2_coin : (AI 0 9 x2_coin)) (h_x3_lineCount : (0 ≤ x3_lineCount ∧ x3_lineCount ≤ 20)) (h_x3_goodsCount : (0 ≤ x3_goodsCount ∧ x3_goodsCount ≤ 8)) (h_x3_workCount : (0 ≤ x3_workCount ∧ x3_workCount ≤ 7)) (h_x3_years : (1 ≤ x3_years ∧ x3_years ≤ 30)) (h_x3_lines : (LnOk x3_lines)) (h_x3_goods : (GdOk x3_goods)) (h_x3_works : (WkOk x3_works)) (h_x3_change : (AI 0 99 x3_change)) (h_x3_coin : (AI 0 9 x3_coin)) (h_x5_edgeA : (AI 0 35 x5_edgeA)) (h_x5_edgeB : (AI 0 35 x5_edgeB)) (h_x5_edgeLine : (AI 0 19 x5_edgeLine)) (h_x5_steps : (AI 0 22 x5_steps)) (h_x5_nodes : (AI 0 35 x5_nodes)) (h_x5_stepCount : (0 ≤ x5_stepCount ∧ x5_stepCount ≤ 36)) (h_x5_open : (AI 0 35 x5_open)) (h_x5_openCount : (0 ≤ x5_openCount ∧ x5_openCount ≤ 36)) (h_x5_edgeCount : (0 ≤ x5_edgeCount ∧ x5_edgeCount ≤ 60)) (h_m_shelf : (AI 0 2 m_shelf)) (h_m_rowSize : (AI 0 40 m_rowSize)) (h_m_tapeSize : (0 ≤ m_tapeSize ∧ m_tapeSize ≤ 250)) (h_m_lines : (0 ≤ m_lines ∧ m_lines ≤ 20)) (h_m_line : (LnM m_line)) (h_m_changes : (AI 0 99 m_changes)) (h_m_coins : (AI 0 9 m_coins)) (h_m_goods : (0 ≤ m_goods ∧ m_goods ≤ 8)) (h_m_good : (GdM m_good)) (h_m_works : (0 ≤ m_works ∧ m_works ≤ 7)) (h_m_work : (WkM m_work)) (h_m_years : (1 ≤ m_years ∧ m_years ≤ 30)) (h_m_from : (0 ≤ m_from ∧ m_from ≤ 250)) (h_m_far : (AI 0 1000000000 m_far)) (h_m_way : (AI 0 22 m_way)) (h_m_steps : (0 ≤ m_steps ∧ m_steps ≤ 37)) (h_m_queue : (AI 0 35 m_queue)) (h_t_shelf : (AI 0 2 t_shelf)) (h_t_rowSize : (AI 0 40 t_rowSize)) (h_t_tapeSize : (0 ≤ t_tapeSize ∧ t_tapeSize ≤ 250)) (h_t_lines : (0 ≤ t_lines ∧ t_lines ≤ 20)) (h_t_line : (LnM t_line)) (h_t_changes : (AI 0 99 t_changes)) (h_t_coins : (AI 0 9 t_coins)) (h_t_goods : (0 ≤ t_goods ∧ t_goods ≤ 8)) (h_t_good : (GdM t_good)) (h_t_works : (0 ≤ t_works ∧ t_works ≤ 7)) (h_t_work : (WkM t_work)) (h_t_years : (1 ≤ t_years ∧ t_years ≤ 30)) (h_t_from : (0 ≤ t_from ∧ t_from ≤ 250)) (h_t_far : (AI 0 1000000000 t_far)) (h_t_way : (AI 0 22 t_way)) (h_t_steps : (0 ≤ t_steps ∧ t_steps ≤ 37)) (h_t_queue : (AI 0 35 t_queue)) (hA : (LaD x3_lineCount x3_goodsCount x3_workCount x3_years x3_lines x3_goods x3_works x3_change x3_coin m_lines m_line m_changes m_coins m_goods m_good m_works m_work m_years)) (hk : Kn (FrS x3_lineCount (ro 7 x3_lines) x3_change x3_coin (ro 3 x3_goods) x3_goodsCount (ro 5 x3_works) x3_workCount) x3_knownFree x3_isKnown) (eqA : fX6_run n (x0_refused, x0_isKept, x0_gone, x0_spent) x1_gained (x2_lineCount, x2_goodsCount, x2_workCount, x2_years, x2_lines, x2_goods, x2_works, x2_change, x2_coin, x2_knownFree, x2_isKnown) (x3_lineCount, x3_goodsCount, x3_workCount, x3_years, x3_lines, x3_goods, x3_works, x3_change, x3_coin, x3_knownFree, x3_isKnown) (x4_left, x4_earned, x4_turnCost, x4_turnWayless) (x5_edgeA, x5_edgeB, x5_edgeCost, x5_edgeLine, x5_change, x5_away, x5_steps, x5_nodes, x5_stepCount, x5_open, x5_openCount, x5_seen, x5_edgeCount, x5_aim) p1 = some (er, e0, eg, es, T, (e1, e2, e3, e4, e5, e6), Y)) (eqB : fX7_run n (m_shelf, m_rowSort, m_rowSize, m_rows, m_moved, m_shown, m_tape, m_tapeSize, m_refused, m_lines, m_line, m_changes, m_coins, m_goods, m_good, m_works, m_work, m_years, m_gone, m_spent, m_at, m_token, m_from, m_figures, m_fault, m_numbers, m_statements, m_left, m_far, m_tons, m_way, m_steps, m_met, m_queue, m_totals) (t_shelf, t_rowSort, t_rowSize, t_rows, t_moved, t_shown, t_tape, t_tapeSize, t_refused, t_lines, t_line, t_changes, t_coins, t_goods, t_good, t_works, t_work, t_years, t_gone, t_spent, t_at, t_token, t_from, t_figures, t_fault, t_numbers, t_statements, t_left, t_far, t_tons, t_way, t_steps, t_met, t_queue, t_totals) p1 = some (fr, (f0, f1, f2, f3, f4, f5, f6, f7, f8, f9), Z)) : er = fr ∧ (LaD e1 x3_goodsCount x3_workCount x3_years e2 x3_goods e3 e4 x3_coin f1 f2 f3 m_coins m_goods m_good m_works f4 m_years) ∧ Kn (FrS e1 (ro 7 e2) e4 x3_coin (ro 3 x3_goods) x3_goodsCount (ro 5 e3) x3_workCount) e5 e6 := by
  have hf := hA.2.2.2.2.2.2
  have a := (runC hn h_x2_lineCount h_x2_goodsCount h_x2_workCount h_x2_years h_x2_lines h_x2_goods h_x2_works h_x2_change h_x2_coin h_x3_lineCount h_x3_goodsCount h_x3_workCount h_x3_years h_x3_lines h_x3_goods h_x3_works h_x3_change h_x3_coin h_x5_edgeA h_x5_edgeB h_x5_edgeLine h_x5_steps h_x5_nodes h_x5_stepCount h_x5_open h_x5_openCount h_x5_edgeCount hf hk).at eqA
  have hS := hA.s
  obtain ⟨⟨z1, z2, z3, z4⟩, z5, z6, z7, z8, z9, z10⟩ := id hA
  subst z2 z3 z4
  have hW : WfS x3_workCount.toNatClampNeg ((x3_lineCount, ro 7 x3_lines, x3_change), ro 5 x3_works) := ⟨h_x3_lineCount, z10⟩
  have b := (runR (coins := x3_coin) (good := ro 3 x3_goods) (S := ((x3_lineCount, ro 7 x3_lines, x3_change), ro 5 x3_works)) hn h_m_shelf h_m_rowSize h_m_tapeSize h_m_lines h_m_line h_m_changes h_m_coins h_x3_goodsCount h_m_good h_x3_workCount h_m_work h_x3_years h_m_from h_m_far h_m_way h_m_steps h_m_queue h_t_shelf h_t_rowSize h_t_tapeSize h_t_lines h_t_line h_t_changes h_t_coins h_t_goods h_t_good h_t_works h_t_work h_t_years h_t_from h_t_far h_t_way h_t_steps h_t_queue hS.symm hW (fun w hw => (z9 w hw).symm) (fun g hg c hc => (z6 g hg c hc).symm)).at eqB
  rcases AP_eq a b with ⟨⟨hp, ha, s1, s2⟩, hb, s'⟩ | ⟨e, o, o'⟩
  · have s1 : SEq x3_workCount.toNatClampNeg ((e1, ro 7 e2, e4), ro 5 e3) _ := s1
    have s' : SEq x3_workCount.toNatClampNeg ((f1, f2, f3), f4) _ := s'
    exact ⟨ha.trans hb.symm, hA.of (SEq.trans s1 s'.symm) ((runA_wf hW _).congr s1.symm).2, s2⟩
  · cases o
    cases o'
    exact ⟨e, hA, hk⟩
end
section
/-! washed, feed, image, back, hangs -/
theorem putWashedS {x0_lineCount : Int32} {x0_goodsCount : Int32} {x0_workCount : Int32} {x0_years : Int32} {x0_lines : (Nat → Int32)} {x0_goods : (Nat → Int32)} {x0_works : (Nat → Int32)} {x0_change : (Nat → Int32)} {x0_coin : (Nat → Int32)} {x0_knownFree : (Nat → Int32)} {x0_isKnown : Int32} {p1 p2 : Int32} (hp : 0 ≤ p1 ∧ p1 < x0_lineCount) (h20 : x0_lineCount ≤ 20) : Sf (fX1_putWashed (x0_lineCount, x0_goodsCount, x0_workCount, x0_years, x0_lines, x0_goods, x0_works, x0_change, x0_coin, x0_knownFree, x0_isKnown) p1 p2) (fun r => r.1 = va_up x0_lines (7 * p1.toNatClampNeg + 6) p2 ∧ r.2 = 0) := by
  unfold fX1_putWashed
  dsimp only [u11]
  refine Sf.ite (fun h => absurd h (Int32.not_lt.mpr hp.1)) (fun _ => ?_)
  refine Sf.ite (fun h => absurd h (Int32.not_le.mpr hp.2)) (fun _ => ?_)
  obtain ⟨hi, he⟩ := ix7 (z := p1) (c := 6) ⟨hp.1, Int32.lt_of_lt_of_le hp.2 h20⟩ (by decide)
  refine Sf.wrb 140 rfl hi (fun f1 e1 => ?_)
  rw [he] at e1
  exact Sf.ok ⟨e1, rfl⟩
def wsh (p : Int32) : Int32 := if p = 0 then 0 else 1
def WsR (f f' : Nat → Nat → Int32) (k : Nat) (y : Int32) : Prop := ∀ l c, c < 7 → f' l c = if l = k ∧ c = 6 then y else f l c
theorem washedC {x0_refused : (Nat → Int32)} {x0_isKept : Int32} {x0_gone : Int32} {x0_spent : Int32} {x1_lineCount : Int32} {x1_goodsCount : Int32} {x1_workCount : Int32} {x1_years : Int32} {x1_lines : (Nat → Int32)} {x1_goods : (Nat → Int32)} {x1_works : (Nat → Int32)} {x1_change : (Nat → Int32)} {x1_coin : (Nat → Int32)} {x1_knownFree : (Nat → Int32)} {x1_isKnown : Int32} {p1 p2 : Int32} (h_x1_lineCount : (0 ≤ x1_lineCount ∧ x1_lineCount ≤ 20)) (h_x1_goodsCount : (0 ≤ x1_goodsCount ∧ x1_goodsCount ≤ 8)) (h_x1_workCount : (0 ≤ x1_workCount ∧ x1_workCount ≤ 7)) (h_x1_years : (1 ≤ x1_years ∧ x1_years ≤ 30)) (h_x1_lines : (LnOk x1_lines)) (h_x1_goods : (GdOk x1_goods)) (h_x1_works : (WkOk x1_works)) (h_x1_change : (AI 0 99 x1_change)) (h_x1_coin : (AI 0 9 x1_coin)) : Sf (fX6_washed (x0_refused, x0_isKept, x0_gone, x0_spent) (x1_lineCount, x1_goodsCount, x1_workCount, x1_years, x1_lines, x1_goods, x1_works, x1_change, x1_coin, x1_knownFree, x1_isKnown) p1 p2) (fun r => AP (0 ≤ p1 ∧ p1 < x1_lineCount) r.1 ((0 ≤ p1 ∧ p1 < x1_lineCount) ∧ r.1 = (if ro 7 x1_lines p1.toNatClampNeg 6 = wsh p2 then 0 else 1) ∧ WsR (ro 7 x1_lines) (ro 7 r.2.2.1) p1.toNatClampNeg (wsh p2) ∧ ((r.2.2.1 = x1_lines ∧ r.2.2.2 = x1_isKnown) ∨ r.2.2.2 = 0)) (r.2.2.1 = x1_lines ∧ r.2.2.2 = x1_isKnown)) := by
  unfold fX6_washed
  dsimp only [u4, u11]
  refine Sf.bind hasLineS (fun v1 h1 => Sf.ite (fun hz => ?_) (fun hz => ?_))
  · refine Sf.bind refC ?_
    rintro ⟨v, g⟩ e
    refine Sf.ok (Or.inr ⟨fun h => ?_, e, rfl, rfl⟩)
    rcases h1 with h1 | h1
    · rw [h1.1] at hz; exact absurd hz (by decide)
    · have h1 := h1.2
      grind
  have hq : 0 ≤ p1 ∧ p1 ≤ x1_lineCount - 1 := by
    rcases h1 with h1 | h1
    · exact h1.2
    · exact absurd h1.1 hz
  have hp : 0 ≤ p1 ∧ p1 < x1_lineCount := by clear h1; grind
  have j : ∀ y : Int32, wsh p2 = y → Sf (fX6_washed_j27 p1 x0_refused x1_lineCount x1_goodsCount x1_workCount x1_years x1_lines x1_goods x1_works x1_change x1_coin x1_knownFree x1_isKnown y) (fun r => AP (0 ≤ p1 ∧ p1 < x1_lineCount) r.1 ((0 ≤ p1 ∧ p1 < x1_lineCount) ∧ r.1 = (if ro 7 x1_lines p1.toNatClampNeg 6 = wsh p2 then 0 else 1) ∧ WsR (ro 7 x1_lines) (ro 7 r.2.2.1) p1.toNatClampNeg (wsh p2) ∧ ((r.2.2.1 = x1_lines ∧ r.2.2.2 = x1_isKnown) ∨ r.2.2.2 = 0)) (r.2.2.1 = x1_lines ∧ r.2.2.2 = x1_isKnown)) := by
    intro y hy
    unfold fX6_washed_j27
    refine Sf.bind (ofLineV (z := p1) (c := 6) ⟨hp.1, Int32.lt_of_lt_of_le hp.2 h_x1_lineCount.2⟩ (by decide)) (fun v4 e4 => ?_)
    have e4 : v4 = x1_lines (7 * p1.toNatClampNeg + 6) := e4
    have e4' : v4 = ro 7 x1_lines p1.toNatClampNeg 6 := by rw [e4, ro_eq (by decide)]
    refine Sf.ite (fun hv => ?_) (fun hv => ?_)
    · refine Sf.ok (Or.inl ⟨hp, hp, ?_, fun l c hc => ?_, Or.inl ⟨rfl, rfl⟩⟩)
      · show (0 : Int32) = _
        rw [← e4', hy, if_pos hv]
      · show ro 7 x1_lines l c = _
        by_cases h : l = p1.toNatClampNeg ∧ c = 6
        · rw [if_pos h, h.1, h.2, ← e4', hy, hv]
        · rw [if_neg h]
    · refine Sf.bind (putWashedS hp h_x1_lineCount.2) ?_
      rintro ⟨g6, g7⟩ ⟨e6, e7⟩
      have e6 : g6 = _ := e6
      refine Sf.ok (Or.inl ⟨hp, hp, ?_, fun l c hc => ?_, Or.inr e7⟩)
      · show (1 : Int32) = _
        rw [← e4', hy, if_neg hv]
      · show ro 7 g6 l c = _
        rw [ro_eq hc, e6]
        by_cases h : l = p1.toNatClampNeg ∧ c = 6
        · rw [if_pos h, h.1, h.2, va_eq, hy]
        · rw [if_neg h, va_ne _ _ (by omega), ro_eq hc]
  refine Sf.ite (fun h => j 0 (if_pos h)) (fun h => j 1 (if_neg h))
theorem washedR {x0_shelf : (Nat → Int32)} {x0_rowSort : (Nat → Int32)} {x0_rowSize : (Nat → Int32)} {x0_rows : (Nat → Nat → Int64)} {x0_moved : (Nat → Int64)} {x0_shown : (Nat → Int32)} {x0_tape : (Nat → Int32)} {x0_tapeSize : Int32} {x0_refused : (Nat → Int32)} {x0_lines : Int32} {x0_line : (Nat → Nat → Int32)} {x0_changes : (Nat → Int32)} {x0_coins : (Nat → Int32)} {x0_goods : Int32} {x0_good : (Nat → Nat → Int32)} {x0_works : Int32} {x0_work : (Nat → Nat → Int32)} {x0_years : Int32} {x0_gone : Int32} {x0_spent : Int32} {x0_at : Int32} {x0_token : Int32} {x0_from : Int32} {x0_figures : Int64} {x0_fault : Int32} {x0_numbers : (Nat → Int32)} {x0_statements : Int32} {x0_left : (Nat → Int32)} {x0_far : (Nat → Int32)} {x0_tons : Int32} {x0_way : (Nat → Int32)} {x0_steps : Int32} {x0_met : Int64} {x0_queue : (Nat → Int32)} {x0_totals : (Nat → Int32)} {p1 p2 : Int32} (h_x0_shelf : (AI 0 2 x0_shelf)) (h_x0_rowSize : (AI 0 40 x0_rowSize)) (h_x0_tapeSize : (0 ≤ x0_tapeSize ∧ x0_tapeSize ≤ 250)) (h_x0_lines : (0 ≤ x0_lines ∧ x0_lines ≤ 20)) (h_x0_line : (LnM x0_line)) (h_x0_changes : (AI 0 99 x0_changes)) (h_x0_coins : (AI 0 9 x0_coins)) (h_x0_goods : (0 ≤ x0_goods ∧ x0_goods ≤ 8)) (h_x0_good : (GdM x0_good)) (h_x0_works : (0 ≤ x0_works ∧ x0_works ≤ 7)) (h_x0_work : (WkM x0_work)) (h_x0_years : (1 ≤ x0_years ∧ x0_years ≤ 30)) (h_x0_from : (0 ≤ x0_from ∧ x0_from ≤ 250)) (h_x0_far : (AI 0 1000000000 x0_far)) (h_x0_way : (AI 0 22 x0_way)) (h_x0_steps : (0 ≤ x0_steps ∧ x0_steps ≤ 37)) (h_x0_queue : (AI 0 35 x0_queue)) : Sf (fX7_washed (x0_shelf, x0_rowSort, x0_rowSize, x0_rows, x0_moved, x0_shown, x0_tape, x0_tapeSize, x0_refused, x0_lines, x0_line, x0_changes, x0_coins, x0_goods, x0_good, x0_works, x0_work, x0_years, x0_gone, x0_spent, x0_at, x0_token, x0_from, x0_figures, x0_fault, x0_numbers, x0_statements, x0_left, x0_far, x0_tons, x0_way, x0_steps, x0_met, x0_queue, x0_totals) p1 p2) (fun r => AP (0 ≤ p1 ∧ p1 < x0_lines) r.1 (r.1 = (if x0_line p1.toNatClampNeg 6 = wsh p2 then 0 else 1) ∧ WsR x0_line r.2.2 p1.toNatClampNeg (wsh p2)) (r.2.2 = x0_line)) := by
  unfold fX7_washed
  dsimp only [u35]
  refine Sf.bind (sX7_isLine h_x0_shelf h_x0_rowSize h_x0_tapeSize h_x0_lines h_x0_line h_x0_changes h_x0_coins h_x0_goods h_x0_good h_x0_works h_x0_work h_x0_years h_x0_from h_x0_far h_x0_way h_x0_steps h_x0_queue) (fun v1 h1 => Sf.ite (fun hz => ?_) (fun hz => ?_))
  · refine Sf.bind (sX7_refuse h_x0_shelf h_x0_rowSize h_x0_tapeSize h_x0_lines h_x0_line h_x0_changes h_x0_coins h_x0_goods h_x0_good h_x0_works h_x0_work h_x0_years h_x0_from h_x0_far h_x0_way h_x0_steps h_x0_queue (by decide)) ?_
    rintro ⟨v, g⟩ e
    refine Sf.ok (Or.inr ⟨fun h => ?_, e, rfl⟩)
    rcases h1 with h1 | h1
    · rw [h1.1] at hz; exact absurd hz (by decide)
    · exact h1.2 h
  have hp : 0 ≤ p1 ∧ p1 < x0_lines := by
    rcases h1 with h1 | h1
    · exact h1.2
    · exact absurd h1.1 hz
  have hi : 0 ≤ p1 ∧ p1 < 20 := ⟨hp.1, Int32.lt_of_lt_of_le hp.2 h_x0_lines.2⟩
  refine Sf.ckb 20 rfl hi (fun q3 e3 _ => ?_)
  refine Sf.rdl 6 rfl rfl (fun v4 e4 => ?_)
  refine Sf.ckb 20 rfl hi (fun q5 e5 _ => ?_)
  rw [e3] at e4
  have j : ∀ y : Int32, wsh p2 = y → Sf (fX7_washed_j42 p1 x0_refused x0_line v4 q5 y) (fun r => AP (0 ≤ p1 ∧ p1 < x0_lines) r.1 (r.1 = (if x0_line p1.toNatClampNeg 6 = wsh p2 then 0 else 1) ∧ WsR x0_line r.2.2 p1.toNatClampNeg (wsh p2)) (r.2.2 = x0_line)) := by
    intro y hy
    unfold fX7_washed_j42
    refine Sf.wrb 7 rfl (by decide) (fun f7 e7 => ?_)
    have e7 : f7 = va_up (x0_line q5) 6 y := e7
    refine Sf.ckb 20 rfl hi (fun q8 e8 _ => ?_)
    rw [e8, e5]
    rw [e5] at e7
    refine Sf.rdl 6 rfl rfl (fun v9 e9 => ?_)
    rw [va_eq, e7, va_eq] at e9
    have W : WsR x0_line (va_up x0_line p1.toNatClampNeg f7) p1.toNatClampNeg (wsh p2) := by
      intro l c hc
      by_cases h : l = p1.toNatClampNeg
      · rw [h, va_eq, e7]
        by_cases h6 : c = 6
        · rw [if_pos ⟨rfl, h6⟩, h6, va_eq, hy]
        · rw [if_neg (fun hh => h6 hh.2), va_ne _ _ h6]
      · rw [if_neg (fun hh => h hh.1), va_ne _ _ h]
    refine Sf.ite (fun hv => ?_) (fun hv => ?_)
    · refine Sf.ok (Or.inl ⟨hp, ?_, W⟩)
      show (0 : Int32) = _
      rw [← e4, hy, ← e9, if_pos hv]
    · refine Sf.ok (Or.inl ⟨hp, ?_, W⟩)
      show (1 : Int32) = _
      rw [← e4, hy, ← e9, if_neg hv]
  refine Sf.ite (fun h => j 0 (if_pos h)) (fun h => j 1 (if_neg h))
theorem dWashed {x0_refused : (Nat → Int32)} {x0_isKept : Int32} {x0_gone : Int32} {x0_spent : Int32} {x1_lineCount : Int32} {x1_goodsCount : Int32} {x1_workCount : Int32} {x1_years : Int32} {x1_lines : (Nat → Int32)} {x1_goods : (Nat → Int32)} {x1_works : (Nat → Int32)} {x1_change : (Nat → Int32)} {x1_coin : (Nat → Int32)} {x1_knownFree : (Nat → Int32)} {x1_isKnown : Int32} {m_shelf : (Nat → Int32)} {m_rowSort : (Nat → Int32)} {m_rowSize : (Nat → Int32)} {m_rows : (Nat → Nat → Int64)} {m_moved : (Nat → Int64)} {m_shown : (Nat → Int32)} {m_tape : (Nat → Int32)} {m_tapeSize : Int32} {m_refused : (Nat → Int32)} {m_lines : Int32} {m_line : (Nat → Nat → Int32)} {m_changes : (Nat → Int32)} {m_coins : (Nat → Int32)} {m_goods : Int32} {m_good : (Nat → Nat → Int32)} {m_works : Int32} {m_work : (Nat → Nat → Int32)} {m_years : Int32} {m_gone : Int32} {m_spent : Int32} {m_at : Int32} {m_token : Int32} {m_from : Int32} {m_figures : Int64} {m_fault : Int32} {m_numbers : (Nat → Int32)} {m_statements : Int32} {m_left : (Nat → Int32)} {m_far : (Nat → Int32)} {m_tons : Int32} {m_way : (Nat → Int32)} {m_steps : Int32} {m_met : Int64} {m_queue : (Nat → Int32)} {m_totals : (Nat → Int32)} {p1 p2 er e3 fr : Int32} {e0 e2 f0 : Nat → Int32} {f2 : Nat → Nat → Int32} (h_x1_lineCount : (0 ≤ x1_lineCount ∧ x1_lineCount ≤ 20)) (h_x1_goodsCount : (0 ≤ x1_goodsCount ∧ x1_goodsCount ≤ 8)) (h_x1_workCount : (0 ≤ x1_workCount ∧ x1_workCount ≤ 7)) (h_x1_years : (1 ≤ x1_years ∧ x1_years ≤ 30)) (h_x1_lines : (LnOk x1_lines)) (h_x1_goods : (GdOk x1_goods)) (h_x1_works : (WkOk x1_works)) (h_x1_change : (AI 0 99 x1_change)) (h_x1_coin : (AI 0 9 x1_coin)) (h_m_shelf : (AI 0 2 m_shelf)) (h_m_rowSize : (AI 0 40 m_rowSize)) (h_m_tapeSize : (0 ≤ m_tapeSize ∧ m_tapeSize ≤ 250)) (h_m_lines : (0 ≤ m_lines ∧ m_lines ≤ 20)) (h_m_line : (LnM m_line)) (h_m_changes : (AI 0 99 m_changes)) (h_m_coins : (AI 0 9 m_coins)) (h_m_goods : (0 ≤ m_goods ∧ m_goods ≤ 8)) (h_m_good : (GdM m_good)) (h_m_works : (0 ≤ m_works ∧ m_works ≤ 7)) (h_m_work : (WkM m_work)) (h_m_years : (1 ≤ m_years ∧ m_years ≤ 30)) (h_m_from : (0 ≤ m_from ∧ m_from ≤ 250)) (h_m_far : (AI 0 1000000000 m_far)) (h_m_way : (AI 0 22 m_way)) (h_m_steps : (0 ≤ m_steps ∧ m_steps ≤ 37)) (h_m_queue : (AI 0 35 m_queue)) (hA : (LaD x1_lineCount x1_goodsCount x1_workCount x1_years x1_lines x1_goods x1_works x1_change x1_coin m_lines m_line m_changes m_coins m_goods m_good m_works m_work m_years)) (hk : Kn (FrS x1_lineCount (ro 7 x1_lines) x1_change x1_coin (ro 3 x1_goods) x1_goodsCount (ro 5 x1_works) x1_workCount) x1_knownFree x1_isKnown) (eqA : fX6_washed (x0_refused, x0_isKept, x0_gone, x0_spent) (x1_lineCount, x1_goodsCount, x1_workCount, x1_years, x1_lines, x1_goods, x1_works, x1_change, x1_coin, x1_knownFree, x1_isKnown) p1 p2 = some (er, e0, e2, e3)) (eqB : fX7_washed (m_shelf, m_rowSort, m_rowSize, m_rows, m_moved, m_shown, m_tape, m_tapeSize, m_refused, m_lines, m_line, m_changes, m_coins, m_goods, m_good, m_works, m_work, m_years, m_gone, m_spent, m_at, m_token, m_from, m_figures, m_fault, m_numbers, m_statements, m_left, m_far, m_tons, m_way, m_steps, m_met, m_queue, m_totals) p1 p2 = some (fr, f0, f2)) : er = fr ∧ (LaD x1_lineCount x1_goodsCount x1_workCount x1_years e2 x1_goods x1_works x1_change x1_coin m_lines f2 m_changes m_coins m_goods m_good m_works m_work m_years) ∧ Kn (FrS x1_lineCount (ro 7 e2) x1_change x1_coin (ro 3 x1_goods) x1_goodsCount (ro 5 x1_works) x1_workCount) x1_knownFree e3 := by
  have a := (washedC h_x1_lineCount h_x1_goodsCount h_x1_workCount h_x1_years h_x1_lines h_x1_goods h_x1_works h_x1_change h_x1_coin).at eqA
  have b := (washedR h_m_shelf h_m_rowSize h_m_tapeSize h_m_lines h_m_line h_m_changes h_m_coins h_m_goods h_m_good h_m_works h_m_work h_m_years h_m_from h_m_far h_m_way h_m_steps h_m_queue).at eqB
  obtain ⟨⟨z1, z2, z3, z4⟩, z5, z6, z7, z8, z9, z10⟩ := hA
  subst z1
  rcases AP_eq a b with ⟨⟨a0, a1, a2, a3⟩, b1, b2⟩ | ⟨e, ⟨a1, a2⟩, b1⟩
  · have a1 : er = _ := a1
    have b1 : fr = _ := b1
    have a2 : WsR (ro 7 x1_lines) (ro 7 e2) p1.toNatClampNeg (wsh p2) := a2
    have b2 : WsR m_line f2 p1.toNatClampNeg (wsh p2) := b2
    have hpn : p1.toNatClampNeg < x1_lineCount.toNatClampNeg := by
      have x := i32_cl a0.1
      have y := i32_cl h_x1_lineCount.1
      have z := Int32.lt_iff_toInt_lt.mp a0.2
      omega
    refine ⟨by rw [a1, b1, z5 _ hpn 6 (by decide)], ⟨⟨rfl, z2, z3, z4⟩, fun l hl c hc => ?_, z6, z7, z8, z9, z10⟩, ?_⟩
    · rw [a2 l c hc, b2 l c hc, z5 l hl c hc]
    · rcases a3 with ⟨h1, h2⟩ | h2
      · have h1 : e2 = x1_lines := h1
        have h2 : e3 = x1_isKnown := h2
        rw [h1, h2]
        exact hk
      · exact Or.inl h2
  · have a1 : e2 = x1_lines := a1
    have a2 : e3 = x1_isKnown := a2
    have b1 : f2 = m_line := b1
    subst a1 a2 b1
    exact ⟨e, ⟨⟨rfl, z2, z3, z4⟩, z5, z6, z7, z8, z9, z10⟩, hk⟩
/-! the bytes of the tapes -/
def fdA (v : Int32) : Nat → (Nat → Int32) × Int32 → (Nat → Int32) × Int32
  | 0, s => s
  | k + 1, s => fdA v k (va_up s.1 s.2.toNatClampNeg ((v >>> ((8 * Int32.ofNat k) &&& 31)) &&& 255), s.2 + 1)
theorem fd_step {z4 z6 : Int32} (h1 : -1 ≤ z4 ∧ z4 ≤ 3) (h2 : 0 ≤ z6) (h3 : z6.toInt + z4.toInt + 1 ≤ 250) (hc : ¬ z4 < 0) : (0 ≤ z6 ∧ z6 < 250) ∧ (z4 + 1).toNatClampNeg = z4.toNatClampNeg + 1 ∧ (z4 + (-1) + 1).toNatClampNeg = z4.toNatClampNeg ∧ (-1 ≤ z4 + (-1) ∧ z4 + (-1) ≤ 3) ∧ 0 ≤ z6 + 1 ∧ (z6 + 1).toInt + (z4 + (-1)).toInt + 1 ≤ 250 ∧ Int32.ofNat z4.toNatClampNeg = z4 := by
  have hc := Int32.not_lt.mp hc
  have a := Int32.le_iff_toInt_le.mp hc
  have b := Int32.le_iff_toInt_le.mp h1.2
  have c := Int32.le_iff_toInt_le.mp h2
  have z0 : (0 : Int32).toInt = 0 := by decide
  have z1 : (1 : Int32).toInt = 1 := by decide
  have zm : (-1 : Int32).toInt = -1 := by decide
  have z3 : (3 : Int32).toInt = 3 := by decide
  have zz : (250 : Int32).toInt = 250 := by decide
  have e1 : (z4 + 1).toInt = z4.toInt + 1 := by rw [i32_add (by omega) (by omega), z1]
  have e2 : (z4 + (-1)).toInt = z4.toInt - 1 := by rw [i32_add (by omega) (by omega), zm]; omega
  have e3 : (z4 + (-1) + 1).toInt = z4.toInt := by rw [i32_add (by omega) (by omega), e2, z1]; omega
  have e4 : (z6 + 1).toInt = z6.toInt + 1 := by rw [i32_add (by omega) (by omega), z1]
  have p1 : 0 ≤ z4 + 1 := Int32.le_iff_toInt_le.mpr (by omega)
  have p2 : 0 ≤ z4 + (-1) + 1 := Int32.le_iff_toInt_le.mpr (by omega)
  have q := i32_cl hc
  have q1 := i32_cl p1
  have q2 := i32_cl p2
  refine ⟨⟨h2, Int32.lt_iff_toInt_lt.mpr (by omega)⟩, by omega, by omega, ⟨Int32.le_iff_toInt_le.mpr (by omega), Int32.le_iff_toInt_le.mpr (by omega)⟩, Int32.le_iff_toInt_le.mpr (by omega), by omega, Int32.ofNat_toNatClampNeg z4 hc⟩
def FdI (p1 : Int32) (R : (Nat → Int32) × Int32) (e : Int32 × (Nat → Int32) × Int32) : Prop := (-1 ≤ e.1 ∧ e.1 ≤ 3) ∧ 0 ≤ e.2.2 ∧ e.2.2.toInt + e.1.toInt + 1 ≤ 250 ∧ fdA p1 (e.1 + 1).toNatClampNeg (e.2.1, e.2.2) = R
theorem fdNext {p1 y4 y6 : Int32} {y5 : Nat → Int32} {R : (Nat → Int32) × Int32} (h : FdI p1 R (y4, y5, y6)) (hc : ¬ y4 < 0) : FdI p1 R (y4 + (-1), va_up y5 y6.toNatClampNeg ((p1 >>> ((8 * y4) &&& 31)) &&& 255), y6 + 1) := by
  obtain ⟨i1, i2, i3, i4⟩ := h
  have i1 : -1 ≤ y4 ∧ y4 ≤ 3 := i1
  have i2 : 0 ≤ y6 := i2
  have i3 : y6.toInt + y4.toInt + 1 ≤ 250 := i3
  have i4 : fdA p1 (y4 + 1).toNatClampNeg (y5, y6) = R := i4
  obtain ⟨s1, s2, s3, s4, s5, s6, s7⟩ := fd_step i1 i2 i3 hc
  have e2 : fdA p1 (y4.toNatClampNeg + 1) (y5, y6) = fdA p1 y4.toNatClampNeg (va_up y5 y6.toNatClampNeg ((p1 >>> ((8 * Int32.ofNat y4.toNatClampNeg) &&& 31)) &&& 255), y6 + 1) := rfl
  have hq : fdA p1 (y4 + (-1) + 1).toNatClampNeg (va_up y5 y6.toNatClampNeg ((p1 >>> ((8 * y4) &&& 31)) &&& 255), y6 + 1) = R := by
    rw [← i4, s3, s2, e2, s7]
  exact ⟨s4, s5, s6, hq⟩
theorem fdEnd {p1 y4 y6 : Int32} {y5 : Nat → Int32} {R : (Nat → Int32) × Int32} (h : FdI p1 R (y4, y5, y6)) (hc : y4 < 0) : (y5, y6) = R := by
  obtain ⟨i1, i2, i3, i4⟩ := h
  have i1 : -1 ≤ y4 ∧ y4 ≤ 3 := i1
  have i4 : fdA p1 (y4 + 1).toNatClampNeg (y5, y6) = R := i4
  have e : y4 = -1 := by clear i2 i3 i4; grind
  rw [← i4, e]
  rfl
theorem fdStepC {p1 a b c d y4 y6 : Int32} {y5 : Nat → Int32} {R : (Nat → Int32) × Int32} (h : FdI p1 R (y4, y5, y6)) : Sf (fX6_feed_s42 p1 a b c d y4 y5 y6) (LQ (FdI p1 R) (fun e => muDe e.1) (muDe y4) (fun r => r = R)) := by
  unfold fX6_feed_s42
  refine Sf.ite (fun hc => Sf.inr (fdEnd h hc)) (fun hc => ?_)
  have s1 := (fd_step h.1 h.2.1 h.2.2.1 hc).1
  have s1 : 0 ≤ y6 ∧ y6 < 250 := s1
  unfold fX3_put
  dsimp only [u6]
  rw [if_neg (Int32.not_le.mpr s1.2)]
  refine Sf.bind (P := fun r : (Nat → Int32) × Int32 => r = (va_up y5 y6.toNatClampNeg ((p1 >>> ((8 * y4) &&& 31)) &&& 255), y6 + 1)) (Sf.wrb 250 rfl s1 (fun f e => Sf.ok (by rw [e]))) ?_
  rintro ⟨g10, g11⟩ e
  cases e
  exact Sf.inl (fdNext h hc) (muDe_lta hc)
theorem fdStepR {p1 y4 y6 : Int32} {y5 : Nat → Int32} {R : (Nat → Int32) × Int32} (h : FdI p1 R (y4, y5, y6)) : Sf (fX7_feed_s42 p1 y4 y5 y6) (LQ (FdI p1 R) (fun e => muDe e.1) (muDe y4) (fun r => r = R)) := by
  unfold fX7_feed_s42
  refine Sf.ite (fun hc => Sf.inr (fdEnd h hc)) (fun hc => ?_)
  have s1 := (fd_step h.1 h.2.1 h.2.2.1 hc).1
  have s1 : 0 ≤ y6 ∧ y6 < 250 := s1
  refine Sf.someb (fun t10 e10 => ?_)
  refine Sf.wrb 250 rfl s1 (fun f11 e11 => ?_)
  rw [e11, e10]
  exact Sf.inl (fdNext h hc) (muDe_lta hc)
theorem fdLoopC {n : Nat} {p1 a b c d z4 z6 : Int32} {z5 : Nat → Int32} (hn : 1000000000000 ≤ n) (h1 : -1 ≤ z4 ∧ z4 ≤ 3) (h2 : 0 ≤ z6) (h3 : z6.toInt + z4.toInt + 1 ≤ 250) : Sf (lp (u3 (fX6_feed_s42 p1 a b c d)) n (z4, z5, z6)) (fun r => r = fdA p1 (z4 + 1).toNatClampNeg (z5, z6)) :=
  Sf.loop (FdI p1 (fdA p1 (z4 + 1).toNatClampNeg (z5, z6))) (fun (e : Int32 × (Nat → Int32) × Int32) => muDe e.1) (fun s h => by rw [u3_def]; exact fdStepC h) n _ ⟨h1, h2, h3, rfl⟩ (muDe_n hn)
theorem fdLoopR {n : Nat} {p1 z4 z6 : Int32} {z5 : Nat → Int32} (hn : 1000000000000 ≤ n) (h1 : -1 ≤ z4 ∧ z4 ≤ 3) (h2 : 0 ≤ z6) (h3 : z6.toInt + z4.toInt + 1 ≤ 250) : Sf (lp (u3 (fX7_feed_s42 p1)) n (z4, z5, z6)) (fun r => r = fdA p1 (z4 + 1).toNatClampNeg (z5, z6)) :=
  Sf.loop (FdI p1 (fdA p1 (z4 + 1).toNatClampNeg (z5, z6))) (fun (e : Int32 × (Nat → Int32) × Int32) => muDe e.1) (fun s h => by rw [u3_def]; exact fdStepR h) n _ ⟨h1, h2, h3, rfl⟩ (muDe_n hn)
theorem fd_in {p2 s : Int32} (hs : 0 ≤ s ∧ s ≤ 250) (hp : 1 ≤ p2 ∧ p2 ≤ 4) (h : s + p2 ≤ 250) : (-1 ≤ p2 - 1 ∧ p2 - 1 ≤ 3) ∧ s.toInt + (p2 - 1).toInt + 1 ≤ 250 := by
  have a := i32_b hs
  have b := i32_b hp
  have z0 : (0 : Int32).toInt = 0 := by decide
  have z1 : (1 : Int32).toInt = 1 := by decide
  have z4 : (4 : Int32).toInt = 4 := by decide
  have zz : (250 : Int32).toInt = 250 := by decide
  have c := Int32.le_iff_toInt_le.mp h
  rw [i32_add (by omega) (by omega)] at c
  have e : (p2 - 1).toInt = p2.toInt - 1 := by
    have : p2 - 1 = p2 + (-1) := by grind
    rw [this, i32_add (by rw [show (-1 : Int32).toInt = -1 from by decide]; omega) (by rw [show (-1 : Int32).toInt = -1 from by decide]; omega), show (-1 : Int32).toInt = -1 from by decide]
    omega
  refine ⟨by grind, by omega⟩
theorem feedC {n : Nat} {x0_refused : (Nat → Int32)} {x0_isKept : Int32} {x0_gone : Int32} {x0_spent : Int32} {x1_bytes : (Nat → Int32)} {x1_size : Int32} {x1_start : Int32} {x1_end : Int32} {x1_token : Int32} {x1_value : Int32} {p1 p2 : Int32} (hn : 1000000000000 ≤ n) (hs : 0 ≤ x1_size ∧ x1_size ≤ 250) : Sf (fX6_feed n (x0_refused, x0_isKept, x0_gone, x0_spent) (x1_bytes, x1_size, x1_start, x1_end, x1_token, x1_value) p1 p2) (fun r => ((1 ≤ p2 ∧ p2 ≤ 4) ∧ x1_size + p2 ≤ 250 ∧ r.2.2.1 = (fdA p1 (p2 - 1 + 1).toNatClampNeg (x1_bytes, x1_size)).1) ∨ (¬ ((1 ≤ p2 ∧ p2 ≤ 4) ∧ x1_size + p2 ≤ 250) ∧ r.2.2.1 = x1_bytes)) := by
  unfold fX6_feed
  dsimp only [u4, u6]
  refine Sf.bind sX6_within (fun v1 h1 => Sf.ite (fun hz => ?_) (fun hz => ?_))
  · refine Sf.bind refC ?_
    rintro ⟨v, g⟩ e
    exact Sf.ok (Or.inr ⟨fun h => gd0 h1 hz h.1, rfl⟩)
  refine Sf.ite (fun hl => ?_) (fun hl => ?_)
  · obtain ⟨q1, q2⟩ := fd_in hs (gd1 h1 hz) hl
    refine Sf.bind (fdLoopC hn q1 hs.1 q2) ?_
    rintro ⟨w8, w9⟩ e
    refine Sf.ok (Or.inl ⟨gd1 h1 hz, hl, ?_⟩)
    show w8 = _
    rw [← e]
  · refine Sf.bind refC ?_
    rintro ⟨v, g⟩ e
    exact Sf.ok (Or.inr ⟨fun h => hl h.2, rfl⟩)
theorem feedR {n : Nat} {x0_shelf : (Nat → Int32)} {x0_rowSort : (Nat → Int32)} {x0_rowSize : (Nat → Int32)} {x0_rows : (Nat → Nat → Int64)} {x0_moved : (Nat → Int64)} {x0_shown : (Nat → Int32)} {x0_tape : (Nat → Int32)} {x0_tapeSize : Int32} {x0_refused : (Nat → Int32)} {x0_lines : Int32} {x0_line : (Nat → Nat → Int32)} {x0_changes : (Nat → Int32)} {x0_coins : (Nat → Int32)} {x0_goods : Int32} {x0_good : (Nat → Nat → Int32)} {x0_works : Int32} {x0_work : (Nat → Nat → Int32)} {x0_years : Int32} {x0_gone : Int32} {x0_spent : Int32} {x0_at : Int32} {x0_token : Int32} {x0_from : Int32} {x0_figures : Int64} {x0_fault : Int32} {x0_numbers : (Nat → Int32)} {x0_statements : Int32} {x0_left : (Nat → Int32)} {x0_far : (Nat → Int32)} {x0_tons : Int32} {x0_way : (Nat → Int32)} {x0_steps : Int32} {x0_met : Int64} {x0_queue : (Nat → Int32)} {x0_totals : (Nat → Int32)} {p1 p2 : Int32} (hn : 1000000000000 ≤ n) (h_x0_shelf : (AI 0 2 x0_shelf)) (h_x0_rowSize : (AI 0 40 x0_rowSize)) (h_x0_tapeSize : (0 ≤ x0_tapeSize ∧ x0_tapeSize ≤ 250)) (h_x0_lines : (0 ≤ x0_lines ∧ x0_lines ≤ 20)) (h_x0_line : (LnM x0_line)) (h_x0_changes : (AI 0 99 x0_changes)) (h_x0_coins : (AI 0 9 x0_coins)) (h_x0_goods : (0 ≤ x0_goods ∧ x0_goods ≤ 8)) (h_x0_good : (GdM x0_good)) (h_x0_works : (0 ≤ x0_works ∧ x0_works ≤ 7)) (h_x0_work : (WkM x0_work)) (h_x0_years : (1 ≤ x0_years ∧ x0_years ≤ 30)) (h_x0_from : (0 ≤ x0_from ∧ x0_from ≤ 250)) (h_x0_far : (AI 0 1000000000 x0_far)) (h_x0_way : (AI 0 22 x0_way)) (h_x0_steps : (0 ≤ x0_steps ∧ x0_steps ≤ 37)) (h_x0_queue : (AI 0 35 x0_queue)) : Sf (fX7_feed n (x0_shelf, x0_rowSort, x0_rowSize, x0_rows, x0_moved, x0_shown, x0_tape, x0_tapeSize, x0_refused, x0_lines, x0_line, x0_changes, x0_coins, x0_goods, x0_good, x0_works, x0_work, x0_years, x0_gone, x0_spent, x0_at, x0_token, x0_from, x0_figures, x0_fault, x0_numbers, x0_statements, x0_left, x0_far, x0_tons, x0_way, x0_steps, x0_met, x0_queue, x0_totals) p1 p2) (fun r => ((1 ≤ p2 ∧ p2 ≤ 4) ∧ x0_tapeSize + p2 ≤ 250 ∧ r.2.1 = (fdA p1 (p2 - 1 + 1).toNatClampNeg (x0_tape, x0_tapeSize)).1) ∨ (¬ ((1 ≤ p2 ∧ p2 ≤ 4) ∧ x0_tapeSize + p2 ≤ 250) ∧ r.2.1 = x0_tape)) := by
  unfold fX7_feed
  dsimp only [u35]
  refine Sf.bind (s_inq p2 1 4 (by decide) (by decide)) (fun v1 h1 => Sf.ite (fun hz => ?_) (fun hz => ?_))
  · refine Sf.bind (sX7_refuse h_x0_shelf h_x0_rowSize h_x0_tapeSize h_x0_lines h_x0_line h_x0_changes h_x0_coins h_x0_goods h_x0_good h_x0_works h_x0_work h_x0_years h_x0_from h_x0_far h_x0_way h_x0_steps h_x0_queue (by decide)) ?_
    rintro ⟨v, g⟩ e
    exact Sf.ok (Or.inr ⟨fun h => gd0 h1 hz h.1, rfl⟩)
  have hp := gd1 h1 hz
  refine Sf.ite (fun hl => ?_) (fun hl => ?_)
  · have hl : x0_tapeSize + p2 ≤ 250 := by clear h1; grind
    obtain ⟨q1, q2⟩ := fd_in h_x0_tapeSize hp hl
    refine Sf.bind (fdLoopR hn q1 h_x0_tapeSize.1 q2) ?_
    rintro ⟨w8, w9⟩ e
    refine Sf.ok (Or.inl ⟨hp, hl, ?_⟩)
    show w8 = _
    rw [← e]
  · refine Sf.bind (sX7_refuse h_x0_shelf h_x0_rowSize h_x0_tapeSize h_x0_lines h_x0_line h_x0_changes h_x0_coins h_x0_goods h_x0_good h_x0_works h_x0_work h_x0_years h_x0_from h_x0_far h_x0_way h_x0_steps h_x0_queue (by decide)) ?_
    rintro ⟨v, g⟩ e
    refine Sf.ok (Or.inr ⟨fun h => hl ?_, rfl⟩)
    have h2 := h.2
    clear h1
    grind
theorem dFeed {n : Nat} {x0_refused : (Nat → Int32)} {x0_isKept : Int32} {x0_gone : Int32} {x0_spent : Int32} {x1_bytes : (Nat → Int32)} {x1_size : Int32} {x1_start : Int32} {x1_end : Int32} {x1_token : Int32} {x1_value : Int32} {m_shelf : (Nat → Int32)} {m_rowSort : (Nat → Int32)} {m_rowSize : (Nat → Int32)} {m_rows : (Nat → Nat → Int64)} {m_moved : (Nat → Int64)} {m_shown : (Nat → Int32)} {m_tape : (Nat → Int32)} {m_tapeSize : Int32} {m_refused : (Nat → Int32)} {m_lines : Int32} {m_line : (Nat → Nat → Int32)} {m_changes : (Nat → Int32)} {m_coins : (Nat → Int32)} {m_goods : Int32} {m_good : (Nat → Nat → Int32)} {m_works : Int32} {m_work : (Nat → Nat → Int32)} {m_years : Int32} {m_gone : Int32} {m_spent : Int32} {m_at : Int32} {m_token : Int32} {m_from : Int32} {m_figures : Int64} {m_fault : Int32} {m_numbers : (Nat → Int32)} {m_statements : Int32} {m_left : (Nat → Int32)} {m_far : (Nat → Int32)} {m_tons : Int32} {m_way : (Nat → Int32)} {m_steps : Int32} {m_met : Int64} {m_queue : (Nat → Int32)} {m_totals : (Nat → Int32)} {p1 p2 er e2 fr f1 : Int32} {e0 e1 f0 f2 : Nat → Int32} (hn : 1000000000000 ≤ n) (hs : 0 ≤ x1_size ∧ x1_size ≤ 250) (h_m_shelf : (AI 0 2 m_shelf)) (h_m_rowSize : (AI 0 40 m_rowSize)) (h_m_tapeSize : (0 ≤ m_tapeSize ∧ m_tapeSize ≤ 250)) (h_m_lines : (0 ≤ m_lines ∧ m_lines ≤ 20)) (h_m_line : (LnM m_line)) (h_m_changes : (AI 0 99 m_changes)) (h_m_coins : (AI 0 9 m_coins)) (h_m_goods : (0 ≤ m_goods ∧ m_goods ≤ 8)) (h_m_good : (GdM m_good)) (h_m_works : (0 ≤ m_works ∧ m_works ≤ 7)) (h_m_work : (WkM m_work)) (h_m_years : (1 ≤ m_years ∧ m_years ≤ 30)) (h_m_from : (0 ≤ m_from ∧ m_from ≤ 250)) (h_m_far : (AI 0 1000000000 m_far)) (h_m_way : (AI 0 22 m_way)) (h_m_steps : (0 ≤ m_steps ∧ m_steps ≤ 37)) (h_m_queue : (AI 0 35 m_queue)) (hz : x1_size = m_tapeSize) (hb : x1_bytes = m_tape) (eqA : fX6_feed n (x0_refused, x0_isKept, x0_gone, x0_spent) (x1_bytes, x1_size, x1_start, x1_end, x1_token, x1_value) p1 p2 = some (er, e0, e1, e2)) (eqB : fX7_feed n (m_shelf, m_rowSort, m_rowSize, m_rows, m_moved, m_shown, m_tape, m_tapeSize, m_refused, m_lines, m_line, m_changes, m_coins, m_goods, m_good, m_works, m_work, m_years, m_gone, m_spent, m_at, m_token, m_from, m_figures, m_fault, m_numbers, m_statements, m_left, m_far, m_tons, m_way, m_steps, m_met, m_queue, m_totals) p1 p2 = some (fr, f0, f1, f2)) : e1 = f0 := by
  have a := (feedC hn hs).at eqA
  have b := (feedR hn h_m_shelf h_m_rowSize h_m_tapeSize h_m_lines h_m_line h_m_changes h_m_coins h_m_goods h_m_good h_m_works h_m_work h_m_years h_m_from h_m_far h_m_way h_m_steps h_m_queue).at eqB
  subst hz hb
  rcases a with ⟨a1, a2, a3⟩ | ⟨a1, a2⟩ <;> rcases b with ⟨b1, b2, b3⟩ | ⟨b1, b2⟩
  · exact a3.trans b3.symm
  · exact absurd ⟨a1, a2⟩ b1
  · exact absurd ⟨b1, b2⟩ a1
  · exact a2.trans b2.symm
end
section
/-! image, back, hangs, and calls that only learn -/
def CpC (lc gc wc yr : Int32) (lines goods works chg coin : Nat → Int32) (r : Int32 × Int32 × Int32 × Int32 × (Nat → Int32) × (Nat → Int32) × (Nat → Int32) × (Nat → Int32) × (Nat → Int32) × Int32) : Prop := r.1 = lc ∧ r.2.1 = gc ∧ r.2.2.1 = wc ∧ r.2.2.2.1 = yr ∧ (∀ l, l < lc.toNatClampNeg → ∀ c, c < 7 → ro 7 r.2.2.2.2.1 l c = ro 7 lines l c) ∧ (∀ g, g < gc.toNatClampNeg → ∀ c, c < 3 → ro 3 r.2.2.2.2.2.1 g c = ro 3 goods g c) ∧ (∀ k, k < wc.toNatClampNeg → ∀ c, c < 5 → ro 5 r.2.2.2.2.2.2.1 k c = ro 5 works k c) ∧ (∀ p, p < 12 → r.2.2.2.2.2.2.2.1 p = chg p) ∧ (∀ w, w < 3 → r.2.2.2.2.2.2.2.2.1 w = coin w) ∧ r.2.2.2.2.2.2.2.2.2 = 0
def CpR (L : Int32) (line : Nat → Nat → Int32) (ch co : Nat → Int32) (G : Int32) (good : Nat → Nat → Int32) (W : Int32) (work : Nat → Nat → Int32) (Y gn sp : Int32) (r : Int32 × (Nat → Nat → Int32) × (Nat → Int32) × (Nat → Int32) × Int32 × (Nat → Nat → Int32) × Int32 × (Nat → Nat → Int32) × Int32 × Int32 × Int32) : Prop := r.1 = L ∧ (∀ l, l < 20 → ∀ c, c < 7 → r.2.1 l c = line l c) ∧ (∀ p, p < 12 → r.2.2.1 p = ch p) ∧ (∀ w, w < 3 → r.2.2.2.1 w = co w) ∧ r.2.2.2.2.1 = G ∧ (∀ g, g < 8 → ∀ c, c < 3 → r.2.2.2.2.2.1 g c = good g c) ∧ r.2.2.2.2.2.2.1 = W ∧ (∀ k, k < 7 → ∀ c, c < 5 → r.2.2.2.2.2.2.2.1 k c = work k c) ∧ r.2.2.2.2.2.2.2.2.1 = Y ∧ r.2.2.2.2.2.2.2.2.2.1 = gn ∧ r.2.2.2.2.2.2.2.2.2.2 = sp
theorem LaD.copy {lc gc wc yr : Int32} {lines goods works chg coin : Nat → Int32} {L : Int32} {line : Nat → Nat → Int32} {ch co : Nat → Int32} {G : Int32} {good : Nat → Nat → Int32} {W : Int32} {work : Nat → Nat → Int32} {Y gn sp : Int32} (h : LaD lc gc wc yr lines goods works chg coin L line ch co G good W work Y) (hl : 0 ≤ lc ∧ lc ≤ 20) (hg : 0 ≤ gc ∧ gc ≤ 8) (hw : 0 ≤ wc ∧ wc ≤ 7) {e1 e2 e3 e4 e10 f1 f5 f7 f9 f10 f11 : Int32} {e5 e6 e7 e8 e9 f3 f4 : Nat → Int32} {f2 f6 f8 : Nat → Nat → Int32} (a : CpC lc gc wc yr lines goods works chg coin (e1, e2, e3, e4, e5, e6, e7, e8, e9, e10)) (b : CpR L line ch co G good W work Y gn sp (f1, f2, f3, f4, f5, f6, f7, f8, f9, f10, f11)) : LaD e1 e2 e3 e4 e5 e6 e7 e8 e9 f1 f2 f3 f4 f5 f6 f7 f8 f9 := by
  obtain ⟨a1, a2, a3, a4, a5, a6, a7, a8, a9, a10⟩ := a
  obtain ⟨b1, b2, b3, b4, b5, b6, b7, b8, b9, _, _⟩ := b
  obtain ⟨⟨z1, z2, z3, z4⟩, z5, z6, z7, z8, z9, z10⟩ := h
  have a1 : e1 = lc := a1
  have a2 : e2 = gc := a2
  have a3 : e3 = wc := a3
  have a4 : e4 = yr := a4
  have b1 : f1 = L := b1
  have b5 : f5 = G := b5
  have b7 : f7 = W := b7
  have b9 : f9 = Y := b9
  have nl := nlt (M := 20) (N := 20) rfl hl
  have ng := nlt (M := 8) (N := 8) rfl hg
  have nw := nlt (M := 7) (N := 7) rfl hw
  subst a1 a2 a3 a4 b1 b5 b7 b9
  exact ⟨⟨z1, z2, z3, z4⟩, fun l hl c hc => ((a5 l hl c hc).trans (z5 l hl c hc)).trans (b2 l (Nat.lt_of_lt_of_le hl nl) c hc).symm, fun g hg c hc => ((a6 g hg c hc).trans (z6 g hg c hc)).trans (b6 g (Nat.lt_of_lt_of_le hg ng) c hc).symm, fun k hk c hc => ((a7 k hk c hc).trans (z7 k hk c hc)).trans (b8 k (Nat.lt_of_lt_of_le hk nw) c hc).symm, fun p hp => ((a8 p hp).trans (z8 p hp)).trans (b3 p hp).symm, fun w hw => ((a9 w hw).trans (z9 w hw)).trans (b4 w hw).symm, fun k hk => (z10 k hk).congr (fun c hc => (a7 k hk c (by omega)).symm)⟩
theorem imageC {x0_refused : (Nat → Int32)} {x0_isKept : Int32} {x0_gone : Int32} {x0_spent : Int32} {x1_lineCount : Int32} {x1_goodsCount : Int32} {x1_workCount : Int32} {x1_years : Int32} {x1_lines : (Nat → Int32)} {x1_goods : (Nat → Int32)} {x1_works : (Nat → Int32)} {x1_change : (Nat → Int32)} {x1_coin : (Nat → Int32)} {x1_knownFree : (Nat → Int32)} {x1_isKnown : Int32} {x2_lineCount : Int32} {x2_goodsCount : Int32} {x2_workCount : Int32} {x2_years : Int32} {x2_lines : (Nat → Int32)} {x2_goods : (Nat → Int32)} {x2_works : (Nat → Int32)} {x2_change : (Nat → Int32)} {x2_coin : (Nat → Int32)} {x2_knownFree : (Nat → Int32)} {x2_isKnown : Int32} (h_x2_lineCount : (0 ≤ x2_lineCount ∧ x2_lineCount ≤ 20)) (h_x2_goodsCount : (0 ≤ x2_goodsCount ∧ x2_goodsCount ≤ 8)) (h_x2_workCount : (0 ≤ x2_workCount ∧ x2_workCount ≤ 7)) (h_x2_years : (1 ≤ x2_years ∧ x2_years ≤ 30)) (h_x2_lines : (LnOk x2_lines)) (h_x2_goods : (GdOk x2_goods)) (h_x2_works : (WkOk x2_works)) (h_x2_change : (AI 0 99 x2_change)) (h_x2_coin : (AI 0 9 x2_coin)) : Sf (fX6_image (x0_refused, x0_isKept, x0_gone, x0_spent) (x1_lineCount, x1_goodsCount, x1_workCount, x1_years, x1_lines, x1_goods, x1_works, x1_change, x1_coin, x1_knownFree, x1_isKnown) (x2_lineCount, x2_goodsCount, x2_workCount, x2_years, x2_lines, x2_goods, x2_works, x2_change, x2_coin, x2_knownFree, x2_isKnown)) (fun r => CpC x2_lineCount x2_goodsCount x2_workCount x2_years x2_lines x2_goods x2_works x2_change x2_coin r.2.2) := by
  unfold fX6_image
  dsimp only [u4, u11]
  refine Sf.bind (takeC h_x2_lineCount h_x2_goodsCount h_x2_workCount h_x2_years h_x2_lines h_x2_goods h_x2_works h_x2_change h_x2_coin) ?_
  rintro ⟨g2, g3, g4, g5, g6, g7, g8, g9, g10, g11⟩ h
  exact Sf.ok h
theorem imageR {n : Nat} {x0_shelf : (Nat → Int32)} {x0_rowSort : (Nat → Int32)} {x0_rowSize : (Nat → Int32)} {x0_rows : (Nat → Nat → Int64)} {x0_moved : (Nat → Int64)} {x0_shown : (Nat → Int32)} {x0_tape : (Nat → Int32)} {x0_tapeSize : Int32} {x0_refused : (Nat → Int32)} {x0_lines : Int32} {x0_line : (Nat → Nat → Int32)} {x0_changes : (Nat → Int32)} {x0_coins : (Nat → Int32)} {x0_goods : Int32} {x0_good : (Nat → Nat → Int32)} {x0_works : Int32} {x0_work : (Nat → Nat → Int32)} {x0_years : Int32} {x0_gone : Int32} {x0_spent : Int32} {x0_at : Int32} {x0_token : Int32} {x0_from : Int32} {x0_figures : Int64} {x0_fault : Int32} {x0_numbers : (Nat → Int32)} {x0_statements : Int32} {x0_left : (Nat → Int32)} {x0_far : (Nat → Int32)} {x0_tons : Int32} {x0_way : (Nat → Int32)} {x0_steps : Int32} {x0_met : Int64} {x0_queue : (Nat → Int32)} {x0_totals : (Nat → Int32)} {x1_shelf : (Nat → Int32)} {x1_rowSort : (Nat → Int32)} {x1_rowSize : (Nat → Int32)} {x1_rows : (Nat → Nat → Int64)} {x1_moved : (Nat → Int64)} {x1_shown : (Nat → Int32)} {x1_tape : (Nat → Int32)} {x1_tapeSize : Int32} {x1_refused : (Nat → Int32)} {x1_lines : Int32} {x1_line : (Nat → Nat → Int32)} {x1_changes : (Nat → Int32)} {x1_coins : (Nat → Int32)} {x1_goods : Int32} {x1_good : (Nat → Nat → Int32)} {x1_works : Int32} {x1_work : (Nat → Nat → Int32)} {x1_years : Int32} {x1_gone : Int32} {x1_spent : Int32} {x1_at : Int32} {x1_token : Int32} {x1_from : Int32} {x1_figures : Int64} {x1_fault : Int32} {x1_numbers : (Nat → Int32)} {x1_statements : Int32} {x1_left : (Nat → Int32)} {x1_far : (Nat → Int32)} {x1_tons : Int32} {x1_way : (Nat → Int32)} {x1_steps : Int32} {x1_met : Int64} {x1_queue : (Nat → Int32)} {x1_totals : (Nat → Int32)} (hn : 1000000000000 ≤ n) : Sf (fX7_image n (x0_shelf, x0_rowSort, x0_rowSize, x0_rows, x0_moved, x0_shown, x0_tape, x0_tapeSize, x0_refused, x0_lines, x0_line, x0_changes, x0_coins, x0_goods, x0_good, x0_works, x0_work, x0_years, x0_gone, x0_spent, x0_at, x0_token, x0_from, x0_figures, x0_fault, x0_numbers, x0_statements, x0_left, x0_far, x0_tons, x0_way, x0_steps, x0_met, x0_queue, x0_totals) (x1_shelf, x1_rowSort, x1_rowSize, x1_rows, x1_moved, x1_shown, x1_tape, x1_tapeSize, x1_refused, x1_lines, x1_line, x1_changes, x1_coins, x1_goods, x1_good, x1_works, x1_work, x1_years, x1_gone, x1_spent, x1_at, x1_token, x1_from, x1_figures, x1_fault, x1_numbers, x1_statements, x1_left, x1_far, x1_tons, x1_way, x1_steps, x1_met, x1_queue, x1_totals)) (fun r => CpR x0_lines x0_line x0_changes x0_coins x0_goods x0_good x0_works x0_work x0_years x0_gone x0_spent r.2) := by
  unfold fX7_image
  dsimp only [u35]
  refine Sf.bind (takeFromR hn) ?_
  rintro ⟨g2, g3, g4, g5, g6, g7, g8, g9, g10, g11, g12⟩ h
  exact Sf.ok h
theorem dImage {n : Nat} {x0_refused : (Nat → Int32)} {x0_isKept : Int32} {x0_gone : Int32} {x0_spent : Int32} {x1_lineCount : Int32} {x1_goodsCount : Int32} {x1_workCount : Int32} {x1_years : Int32} {x1_lines : (Nat → Int32)} {x1_goods : (Nat → Int32)} {x1_works : (Nat → Int32)} {x1_change : (Nat → Int32)} {x1_coin : (Nat → Int32)} {x1_knownFree : (Nat → Int32)} {x1_isKnown : Int32} {x2_lineCount : Int32} {x2_goodsCount : Int32} {x2_workCount : Int32} {x2_years : Int32} {x2_lines : (Nat → Int32)} {x2_goods : (Nat → Int32)} {x2_works : (Nat → Int32)} {x2_change : (Nat → Int32)} {x2_coin : (Nat → Int32)} {x2_knownFree : (Nat → Int32)} {x2_isKnown : Int32} {m_shelf : (Nat → Int32)} {m_rowSort : (Nat → Int32)} {m_rowSize : (Nat → Int32)} {m_rows : (Nat → Nat → Int64)} {m_moved : (Nat → Int64)} {m_shown : (Nat → Int32)} {m_tape : (Nat → Int32)} {m_tapeSize : Int32} {m_refused : (Nat → Int32)} {m_lines : Int32} {m_line : (Nat → Nat → Int32)} {m_changes : (Nat → Int32)} {m_coins : (Nat → Int32)} {m_goods : Int32} {m_good : (Nat → Nat → Int32)} {m_works : Int32} {m_work : (Nat → Nat → Int32)} {m_years : Int32} {m_gone : Int32} {m_spent : Int32} {m_at : Int32} {m_token : Int32} {m_from : Int32} {m_figures : Int64} {m_fault : Int32} {m_numbers : (Nat → Int32)} {m_statements : Int32} {m_left : (Nat → Int32)} {m_far : (Nat → Int32)} {m_tons : Int32} {m_way : (Nat → Int32)} {m_steps : Int32} {m_met : Int64} {m_queue : (Nat → Int32)} {m_totals : (Nat → Int32)} {k_shelf : (Nat → Int32)} {k_rowSort : (Nat → Int32)} {k_rowSize : (Nat → Int32)} {k_rows : (Nat → Nat → Int64)} {k_moved : (Nat → Int64)} {k_shown : (Nat → Int32)} {k_tape : (Nat → Int32)} {k_tapeSize : Int32} {k_refused : (Nat → Int32)} {k_lines : Int32} {k_line : (Nat → Nat → Int32)} {k_changes : (Nat → Int32)} {k_coins : (Nat → Int32)} {k_goods : Int32} {k_good : (Nat → Nat → Int32)} {k_works : Int32} {k_work : (Nat → Nat → Int32)} {k_years : Int32} {k_gone : Int32} {k_spent : Int32} {k_at : Int32} {k_token : Int32} {k_from : Int32} {k_figures : Int64} {k_fault : Int32} {k_numbers : (Nat → Int32)} {k_statements : Int32} {k_left : (Nat → Int32)} {k_far : (Nat → Int32)} {k_tons : Int32} {k_way : (Nat → Int32)} {k_steps : Int32} {k_met : Int64} {k_queue : (Nat → Int32)} {k_totals : (Nat → Int32)} {er e0 e1 e2 e3 e4 e10 fr f1 f5 f7 f9 f10 f11 : Int32} {e5 e6 e7 e8 e9 f3 f4 kf : Nat → Int32} {f2 f6 f8 : Nat → Nat → Int32} (hn : 1000000000000 ≤ n) (h_x2_lineCount : (0 ≤ x2_lineCount ∧ x2_lineCount ≤ 20)) (h_x2_goodsCount : (0 ≤ x2_goodsCount ∧ x2_goodsCount ≤ 8)) (h_x2_workCount : (0 ≤ x2_workCount ∧ x2_workCount ≤ 7)) (h_x2_years : (1 ≤ x2_years ∧ x2_years ≤ 30)) (h_x2_lines : (LnOk x2_lines)) (h_x2_goods : (GdOk x2_goods)) (h_x2_works : (WkOk x2_works)) (h_x2_change : (AI 0 99 x2_change)) (h_x2_coin : (AI 0 9 x2_coin)) (hA : (LaD x2_lineCount x2_goodsCount x2_workCount x2_years x2_lines x2_goods x2_works x2_change x2_coin m_lines m_line m_changes m_coins m_goods m_good m_works m_work m_years)) (eqA : fX6_image (x0_refused, x0_isKept, x0_gone, x0_spent) (x1_lineCount, x1_goodsCount, x1_workCount, x1_years, x1_lines, x1_goods, x1_works, x1_change, x1_coin, x1_knownFree, x1_isKnown) (x2_lineCount, x2_goodsCount, x2_workCount, x2_years, x2_lines, x2_goods, x2_works, x2_change, x2_coin, x2_knownFree, x2_isKnown) = some (er, e0, (e1, e2, e3, e4, e5, e6, e7, e8, e9, e10))) (eqB : fX7_image n (m_shelf, m_rowSort, m_rowSize, m_rows, m_moved, m_shown, m_tape, m_tapeSize, m_refused, m_lines, m_line, m_changes, m_coins, m_goods, m_good, m_works, m_work, m_years, m_gone, m_spent, m_at, m_token, m_from, m_figures, m_fault, m_numbers, m_statements, m_left, m_far, m_tons, m_way, m_steps, m_met, m_queue, m_totals) (k_shelf, k_rowSort, k_rowSize, k_rows, k_moved, k_shown, k_tape, k_tapeSize, k_refused, k_lines, k_line, k_changes, k_coins, k_goods, k_good, k_works, k_work, k_years, k_gone, k_spent, k_at, k_token, k_from, k_figures, k_fault, k_numbers, k_statements, k_left, k_far, k_tons, k_way, k_steps, k_met, k_queue, k_totals) = some (fr, (f1, f2, f3, f4, f5, f6, f7, f8, f9, f10, f11))) : LaD e1 e2 e3 e4 e5 e6 e7 e8 e9 f1 f2 f3 f4 f5 f6 f7 f8 f9 ∧ Kn (FrS e1 (ro 7 e5) e8 e9 (ro 3 e6) e2 (ro 5 e7) e3) kf e10 := by
  have a := (imageC h_x2_lineCount h_x2_goodsCount h_x2_workCount h_x2_years h_x2_lines h_x2_goods h_x2_works h_x2_change h_x2_coin).at eqA
  have b := (imageR hn).at eqB
  have h10 : e10 = 0 := a.2.2.2.2.2.2.2.2.2
  exact ⟨hA.copy h_x2_lineCount h_x2_goodsCount h_x2_workCount a b, Or.inl h10⟩
theorem backC {n : Nat} {x0_refused : (Nat → Int32)} {x0_isKept : Int32} {x0_gone : Int32} {x0_spent : Int32} {x1_lineCount : Int32} {x1_goodsCount : Int32} {x1_workCount : Int32} {x1_years : Int32} {x1_lines : (Nat → Int32)} {x1_goods : (Nat → Int32)} {x1_works : (Nat → Int32)} {x1_change : (Nat → Int32)} {x1_coin : (Nat → Int32)} {x1_knownFree : (Nat → Int32)} {x1_isKnown : Int32} {x2_elements : (Nat → Nat → Int64)} {x2_held : (Nat → Int32)} {x2_sizes : (Nat → Int32)} {x3_lineCount : Int32} {x3_goodsCount : Int32} {x3_workCount : Int32} {x3_years : Int32} {x3_lines : (Nat → Int32)} {x3_goods : (Nat → Int32)} {x3_works : (Nat → Int32)} {x3_change : (Nat → Int32)} {x3_coin : (Nat → Int32)} {x3_knownFree : (Nat → Int32)} {x3_isKnown : Int32} (hn : 1000000000000 ≤ n) (h_x1_lineCount : (0 ≤ x1_lineCount ∧ x1_lineCount ≤ 20)) (h_x1_goodsCount : (0 ≤ x1_goodsCount ∧ x1_goodsCount ≤ 8)) (h_x1_workCount : (0 ≤ x1_workCount ∧ x1_workCount ≤ 7)) (h_x1_years : (1 ≤ x1_years ∧ x1_years ≤ 30)) (h_x1_lines : (LnOk x1_lines)) (h_x1_goods : (GdOk x1_goods)) (h_x1_works : (WkOk x1_works)) (h_x1_change : (AI 0 99 x1_change)) (h_x1_coin : (AI 0 9 x1_coin)) (h_x2_held : (AI (-1) 16 x2_held)) (h_x2_sizes : (AI 0 40 x2_sizes)) (hk0 : ¬ x0_isKept = 0) : Sf (fX6_back n (x0_refused, x0_isKept, x0_gone, x0_spent) (x1_lineCount, x1_goodsCount, x1_workCount, x1_years, x1_lines, x1_goods, x1_works, x1_change, x1_coin, x1_knownFree, x1_isKnown) (x2_elements, x2_held, x2_sizes) (x3_lineCount, x3_goodsCount, x3_workCount, x3_years, x3_lines, x3_goods, x3_works, x3_change, x3_coin, x3_knownFree, x3_isKnown)) (fun r => CpC x1_lineCount x1_goodsCount x1_workCount x1_years x1_lines x1_goods x1_works x1_change x1_coin r.2.2.2) := by
  unfold fX6_back
  dsimp only [u4, u11, u3]
  rw [if_neg hk0]
  refine Sf.bind (Sf.and (takeC h_x1_lineCount h_x1_goodsCount h_x1_workCount h_x1_years h_x1_lines h_x1_goods h_x1_works h_x1_change h_x1_coin) (takeC h_x1_lineCount h_x1_goodsCount h_x1_workCount h_x1_years h_x1_lines h_x1_goods h_x1_works h_x1_change h_x1_coin)) ?_
  rintro ⟨g2, g3, g4, g5, g6, g7, g8, g9, g10, g11⟩ ⟨h, _⟩
  try dsimp only [u10]
  have e4 : g4 = x1_workCount := h.2.2.1
  refine Sf.bind (P := fun _ => True) ?_ (fun g13 _ => Sf.ok h)
  exact Sf.mono (sX2_dropWorksFrom hn h_x2_held h_x2_sizes) (fun _ _ => trivial)
theorem backR {n : Nat} {x0_shelf : (Nat → Int32)} {x0_rowSort : (Nat → Int32)} {x0_rowSize : (Nat → Int32)} {x0_rows : (Nat → Nat → Int64)} {x0_moved : (Nat → Int64)} {x0_shown : (Nat → Int32)} {x0_tape : (Nat → Int32)} {x0_tapeSize : Int32} {x0_refused : (Nat → Int32)} {x0_lines : Int32} {x0_line : (Nat → Nat → Int32)} {x0_changes : (Nat → Int32)} {x0_coins : (Nat → Int32)} {x0_goods : Int32} {x0_good : (Nat → Nat → Int32)} {x0_works : Int32} {x0_work : (Nat → Nat → Int32)} {x0_years : Int32} {x0_gone : Int32} {x0_spent : Int32} {x0_at : Int32} {x0_token : Int32} {x0_from : Int32} {x0_figures : Int64} {x0_fault : Int32} {x0_numbers : (Nat → Int32)} {x0_statements : Int32} {x0_left : (Nat → Int32)} {x0_far : (Nat → Int32)} {x0_tons : Int32} {x0_way : (Nat → Int32)} {x0_steps : Int32} {x0_met : Int64} {x0_queue : (Nat → Int32)} {x0_totals : (Nat → Int32)} {x1_shelf : (Nat → Int32)} {x1_rowSort : (Nat → Int32)} {x1_rowSize : (Nat → Int32)} {x1_rows : (Nat → Nat → Int64)} {x1_moved : (Nat → Int64)} {x1_shown : (Nat → Int32)} {x1_tape : (Nat → Int32)} {x1_tapeSize : Int32} {x1_refused : (Nat → Int32)} {x1_lines : Int32} {x1_line : (Nat → Nat → Int32)} {x1_changes : (Nat → Int32)} {x1_coins : (Nat → Int32)} {x1_goods : Int32} {x1_good : (Nat → Nat → Int32)} {x1_works : Int32} {x1_work : (Nat → Nat → Int32)} {x1_years : Int32} {x1_gone : Int32} {x1_spent : Int32} {x1_at : Int32} {x1_token : Int32} {x1_from : Int32} {x1_figures : Int64} {x1_fault : Int32} {x1_numbers : (Nat → Int32)} {x1_statements : Int32} {x1_left : (Nat → Int32)} {x1_far : (Nat → Int32)} {x1_tons : Int32} {x1_way : (Nat → Int32)} {x1_steps : Int32} {x1_met : Int64} {x1_queue : (Nat → Int32)} {x1_totals : (Nat → Int32)} (hn : 1000000000000 ≤ n) {out : Int32 × ((Nat → Int32) × (Nat → Int32) × Int32 × (Nat → Nat → Int32) × (Nat → Int32) × (Nat → Int32) × Int32 × (Nat → Nat → Int32) × Int32 × (Nat → Nat → Int32) × Int32 × Int32 × Int32)} (h : fX7_back n (x0_shelf, x0_rowSort, x0_rowSize, x0_rows, x0_moved, x0_shown, x0_tape, x0_tapeSize, x0_refused, x0_lines, x0_line, x0_changes, x0_coins, x0_goods, x0_good, x0_works, x0_work, x0_years, x0_gone, x0_spent, x0_at, x0_token, x0_from, x0_figures, x0_fault, x0_numbers, x0_statements, x0_left, x0_far, x0_tons, x0_way, x0_steps, x0_met, x0_queue, x0_totals) (x1_shelf, x1_rowSort, x1_rowSize, x1_rows, x1_moved, x1_shown, x1_tape, x1_tapeSize, x1_refused, x1_lines, x1_line, x1_changes, x1_coins, x1_goods, x1_good, x1_works, x1_work, x1_years, x1_gone, x1_spent, x1_at, x1_token, x1_from, x1_figures, x1_fault, x1_numbers, x1_statements, x1_left, x1_far, x1_tons, x1_way, x1_steps, x1_met, x1_queue, x1_totals) = some out) : CpR x1_lines x1_line x1_changes x1_coins x1_goods x1_good x1_works x1_work x1_years x1_gone x1_spent out.2.2.2 := by
  unfold fX7_back at h
  dsimp only [u35] at h
  obtain ⟨G, e, h⟩ := bs h
  have q := (takeFromR hn).at e
  obtain ⟨g2, g3, g4, g5, g6, g7, g8, g9, g10, g11, g12⟩ := G
  dsimp only [u11] at h
  obtain ⟨w, _, h⟩ := bs h
  have h := Option.some.inj h
  rw [← h]
  exact q
theorem dBack {n : Nat} {x0_refused : (Nat → Int32)} {x0_isKept : Int32} {x0_gone : Int32} {x0_spent : Int32} {x1_lineCount : Int32} {x1_goodsCount : Int32} {x1_workCount : Int32} {x1_years : Int32} {x1_lines : (Nat → Int32)} {x1_goods : (Nat → Int32)} {x1_works : (Nat → Int32)} {x1_change : (Nat → Int32)} {x1_coin : (Nat → Int32)} {x1_knownFree : (Nat → Int32)} {x1_isKnown : Int32} {x2_elements : (Nat → Nat → Int64)} {x2_held : (Nat → Int32)} {x2_sizes : (Nat → Int32)} {x3_lineCount : Int32} {x3_goodsCount : Int32} {x3_workCount : Int32} {x3_years : Int32} {x3_lines : (Nat → Int32)} {x3_goods : (Nat → Int32)} {x3_works : (Nat → Int32)} {x3_change : (Nat → Int32)} {x3_coin : (Nat → Int32)} {x3_knownFree : (Nat → Int32)} {x3_isKnown : Int32} {m_shelf : (Nat → Int32)} {m_rowSort : (Nat → Int32)} {m_rowSize : (Nat → Int32)} {m_rows : (Nat → Nat → Int64)} {m_moved : (Nat → Int64)} {m_shown : (Nat → Int32)} {m_tape : (Nat → Int32)} {m_tapeSize : Int32} {m_refused : (Nat → Int32)} {m_lines : Int32} {m_line : (Nat → Nat → Int32)} {m_changes : (Nat → Int32)} {m_coins : (Nat → Int32)} {m_goods : Int32} {m_good : (Nat → Nat → Int32)} {m_works : Int32} {m_work : (Nat → Nat → Int32)} {m_years : Int32} {m_gone : Int32} {m_spent : Int32} {m_at : Int32} {m_token : Int32} {m_from : Int32} {m_figures : Int64} {m_fault : Int32} {m_numbers : (Nat → Int32)} {m_statements : Int32} {m_left : (Nat → Int32)} {m_far : (Nat → Int32)} {m_tons : Int32} {m_way : (Nat → Int32)} {m_steps : Int32} {m_met : Int64} {m_queue : (Nat → Int32)} {m_totals : (Nat → Int32)} {k_shelf : (Nat → Int32)} {k_rowSort : (Nat → Int32)} {k_rowSize : (Nat → Int32)} {k_rows : (Nat → Nat → Int64)} {k_moved : (Nat → Int64)} {k_shown : (Nat → Int32)} {k_tape : (Nat → Int32)} {k_tapeSize : Int32} {k_refused : (Nat → Int32)} {k_lines : Int32} {k_line : (Nat → Nat → Int32)} {k_changes : (Nat → Int32)} {k_coins : (Nat → Int32)} {k_goods : Int32} {k_good : (Nat → Nat → Int32)} {k_works : Int32} {k_work : (Nat → Nat → Int32)} {k_years : Int32} {k_gone : Int32} {k_spent : Int32} {k_at : Int32} {k_token : Int32} {k_from : Int32} {k_figures : Int64} {k_fault : Int32} {k_numbers : (Nat → Int32)} {k_statements : Int32} {k_left : (Nat → Int32)} {k_far : (Nat → Int32)} {k_tons : Int32} {k_way : (Nat → Int32)} {k_steps : Int32} {k_met : Int64} {k_queue : (Nat → Int32)} {k_totals : (Nat → Int32)} {er e1 e2 e3 e4 e10 fr f1 f5 f7 f9 f10 f11 : Int32} {e0 eh e5 e6 e7 e8 e9 f3 f4 g0 g1 kf : Nat → Int32} {f2 f6 f8 : Nat → Nat → Int32} (hn : 1000000000000 ≤ n) (h_x1_lineCount : (0 ≤ x1_lineCount ∧ x1_lineCount ≤ 20)) (h_x1_goodsCount : (0 ≤ x1_goodsCount ∧ x1_goodsCount ≤ 8)) (h_x1_workCount : (0 ≤ x1_workCount ∧ x1_workCount ≤ 7)) (h_x1_years : (1 ≤ x1_years ∧ x1_years ≤ 30)) (h_x1_lines : (LnOk x1_lines)) (h_x1_goods : (GdOk x1_goods)) (h_x1_works : (WkOk x1_works)) (h_x1_change : (AI 0 99 x1_change)) (h_x1_coin : (AI 0 9 x1_coin)) (h_x2_held : (AI (-1) 16 x2_held)) (h_x2_sizes : (AI 0 40 x2_sizes)) (hk0 : ¬ x0_isKept = 0) (hA : (LaD x1_lineCount x1_goodsCount x1_workCount x1_years x1_lines x1_goods x1_works x1_change x1_coin k_lines k_line k_changes k_coins k_goods k_good k_works k_work k_years)) (eqA : fX6_back n (x0_refused, x0_isKept, x0_gone, x0_spent) (x1_lineCount, x1_goodsCount, x1_workCount, x1_years, x1_lines, x1_goods, x1_works, x1_change, x1_coin, x1_knownFree, x1_isKnown) (x2_elements, x2_held, x2_sizes) (x3_lineCount, x3_goodsCount, x3_workCount, x3_years, x3_lines, x3_goods, x3_works, x3_change, x3_coin, x3_knownFree, x3_isKnown) = some (er, e0, eh, (e1, e2, e3, e4, e5, e6, e7, e8, e9, e10))) (eqB : fX7_back n (m_shelf, m_rowSort, m_rowSize, m_rows, m_moved, m_shown, m_tape, m_tapeSize, m_refused, m_lines, m_line, m_changes, m_coins, m_goods, m_good, m_works, m_work, m_years, m_gone, m_spent, m_at, m_token, m_from, m_figures, m_fault, m_numbers, m_statements, m_left, m_far, m_tons, m_way, m_steps, m_met, m_queue, m_totals) (k_shelf, k_rowSort, k_rowSize, k_rows, k_moved, k_shown, k_tape, k_tapeSize, k_refused, k_lines, k_line, k_changes, k_coins, k_goods, k_good, k_works, k_work, k_years, k_gone, k_spent, k_at, k_token, k_from, k_figures, k_fault, k_numbers, k_statements, k_left, k_far, k_tons, k_way, k_steps, k_met, k_queue, k_totals) = some (fr, (g0, g1, f1, f2, f3, f4, f5, f6, f7, f8, f9, f10, f11))) : LaD e1 e2 e3 e4 e5 e6 e7 e8 e9 f1 f2 f3 f4 f5 f6 f7 f8 f9 ∧ Kn (FrS e1 (ro 7 e5) e8 e9 (ro 3 e6) e2 (ro 5 e7) e3) kf e10 := by
  have a := (backC hn h_x1_lineCount h_x1_goodsCount h_x1_workCount h_x1_years h_x1_lines h_x1_goods h_x1_works h_x1_change h_x1_coin h_x2_held h_x2_sizes hk0).at eqA
  have b := backR hn eqB
  have h10 : e10 = 0 := a.2.2.2.2.2.2.2.2.2
  exact ⟨hA.copy h_x1_lineCount h_x1_goodsCount h_x1_workCount a b, Or.inl h10⟩
/-- back with nothing kept: the land stays -/
theorem dBack0 {n : Nat} {x0_refused : (Nat → Int32)} {x0_isKept : Int32} {x0_gone : Int32} {x0_spent : Int32} {x1_lineCount : Int32} {x1_goodsCount : Int32} {x1_workCount : Int32} {x1_years : Int32} {x1_lines : (Nat → Int32)} {x1_goods : (Nat → Int32)} {x1_works : (Nat → Int32)} {x1_change : (Nat → Int32)} {x1_coin : (Nat → Int32)} {x1_knownFree : (Nat → Int32)} {x1_isKnown : Int32} {x2_elements : (Nat → Nat → Int64)} {x2_held : (Nat → Int32)} {x2_sizes : (Nat → Int32)} {x3_lineCount : Int32} {x3_goodsCount : Int32} {x3_workCount : Int32} {x3_years : Int32} {x3_lines : (Nat → Int32)} {x3_goods : (Nat → Int32)} {x3_works : (Nat → Int32)} {x3_change : (Nat → Int32)} {x3_coin : (Nat → Int32)} {x3_knownFree : (Nat → Int32)} {x3_isKnown : Int32} {er e1 e2 e3 e4 e10 : Int32} {e0 eh e5 e6 e7 e8 e9 : Nat → Int32} (hk0 : x0_isKept = 0) (eqA : fX6_back n (x0_refused, x0_isKept, x0_gone, x0_spent) (x1_lineCount, x1_goodsCount, x1_workCount, x1_years, x1_lines, x1_goods, x1_works, x1_change, x1_coin, x1_knownFree, x1_isKnown) (x2_elements, x2_held, x2_sizes) (x3_lineCount, x3_goodsCount, x3_workCount, x3_years, x3_lines, x3_goods, x3_works, x3_change, x3_coin, x3_knownFree, x3_isKnown) = some (er, e0, eh, (e1, e2, e3, e4, e5, e6, e7, e8, e9, e10))) : eh = x2_held ∧ (e1, e2, e3, e4, e5, e6, e7, e8, e9, e10) = (x3_lineCount, x3_goodsCount, x3_workCount, x3_years, x3_lines, x3_goods, x3_works, x3_change, x3_coin, x3_isKnown) := by
  unfold fX6_back at eqA
  dsimp only [u4, u11, u3] at eqA
  have h := ip hk0 eqA
  obtain ⟨o, e, h⟩ := bs h
  dsimp only [u2] at h
  have h := Option.some.inj h
  exact ⟨(congrArg (fun z => z.2.2.1) h).symm, (congrArg (fun z => z.2.2.2) h).symm⟩
theorem hangsR {n : Nat} {x0_shelf : (Nat → Int32)} {x0_rowSort : (Nat → Int32)} {x0_rowSize : (Nat → Int32)} {x0_rows : (Nat → Nat → Int64)} {x0_moved : (Nat → Int64)} {x0_shown : (Nat → Int32)} {x0_tape : (Nat → Int32)} {x0_tapeSize : Int32} {x0_refused : (Nat → Int32)} {x0_lines : Int32} {x0_line : (Nat → Nat → Int32)} {x0_changes : (Nat → Int32)} {x0_coins : (Nat → Int32)} {x0_goods : Int32} {x0_good : (Nat → Nat → Int32)} {x0_works : Int32} {x0_work : (Nat → Nat → Int32)} {x0_years : Int32} {x0_gone : Int32} {x0_spent : Int32} {x0_at : Int32} {x0_token : Int32} {x0_from : Int32} {x0_figures : Int64} {x0_fault : Int32} {x0_numbers : (Nat → Int32)} {x0_statements : Int32} {x0_left : (Nat → Int32)} {x0_far : (Nat → Int32)} {x0_tons : Int32} {x0_way : (Nat → Int32)} {x0_steps : Int32} {x0_met : Int64} {x0_queue : (Nat → Int32)} {x0_totals : (Nat → Int32)} (hn : 1000000000000 ≤ n) (h_x0_shelf : (AI 0 2 x0_shelf)) (h_x0_rowSize : (AI 0 40 x0_rowSize)) (h_x0_tapeSize : (0 ≤ x0_tapeSize ∧ x0_tapeSize ≤ 250)) (h_x0_lines : (0 ≤ x0_lines ∧ x0_lines ≤ 20)) (h_x0_line : (LnM x0_line)) (h_x0_changes : (AI 0 99 x0_changes)) (h_x0_coins : (AI 0 9 x0_coins)) (h_x0_goods : (0 ≤ x0_goods ∧ x0_goods ≤ 8)) (h_x0_good : (GdM x0_good)) (h_x0_works : (0 ≤ x0_works ∧ x0_works ≤ 7)) (h_x0_work : (WkM x0_work)) (h_x0_years : (1 ≤ x0_years ∧ x0_years ≤ 30)) (h_x0_from : (0 ≤ x0_from ∧ x0_from ≤ 250)) (h_x0_far : (AI 0 1000000000 x0_far)) (h_x0_way : (AI 0 22 x0_way)) (h_x0_steps : (0 ≤ x0_steps ∧ x0_steps ≤ 37)) (h_x0_queue : (AI 0 35 x0_queue)) : Sf (fX7_hangs n (x0_shelf, x0_rowSort, x0_rowSize, x0_rows, x0_moved, x0_shown, x0_tape, x0_tapeSize, x0_refused, x0_lines, x0_line, x0_changes, x0_coins, x0_goods, x0_good, x0_works, x0_work, x0_years, x0_gone, x0_spent, x0_at, x0_token, x0_from, x0_figures, x0_fault, x0_numbers, x0_statements, x0_left, x0_far, x0_tons, x0_way, x0_steps, x0_met, x0_queue, x0_totals)) (fun r => r.2.2.1 = x0_line) := by
  unfold fX7_hangs
  dsimp only [u35]
  refine Sf.bind (P := fun r : Int32 × (Nat → Nat → Int32) × (Nat → Int32) × (Nat → Int32) × Int32 => r.2.1 = x0_line ∧ AI 0 1000000000 r.2.2.2.1) ?_ ?_
  · refine Sf.loop7 (fun (z2 z3 z4 : Int32) (z5 : Nat → Nat → Int32) (z6 z7 : Nat → Int32) (z8 : Int32) => (0 ≤ z4 ∧ z4 ≤ x0_lines) ∧ z5 = x0_line ∧ AI 0 1000000000 z7) (fun z2 z3 z4 z5 z6 z7 z8 => muUp z4) (fun z2 z3 z4 z5 z6 z7 z8 h => ?_) (show (0 ≤ (0 : Int32) ∧ (0 : Int32) ≤ x0_lines) ∧ x0_line = x0_line ∧ AI 0 1000000000 x0_far from ⟨⟨by decide, h_x0_lines.1⟩, rfl, h_x0_far⟩) (muUp_n hn)
    obtain ⟨i0, i1, i2⟩ := h
    rw [i1]
    unfold fX7_hangs_s6
    refine Sf.ite (fun hc => Sf.inr (show x0_line = x0_line ∧ AI 0 1000000000 z7 from ⟨rfl, i2⟩)) (fun hc => ?_)
    obtain ⟨p0, p1, p3⟩ := up1 i0.1 (Int32.le_trans h_x0_lines.2 (by decide)) hc
    have hz1 : z4 + 1 ≤ x0_lines := by clear i1 i2; grind
    have hi : 0 ≤ z4 ∧ z4 < 20 := ⟨i0.1, Int32.lt_of_lt_of_le p3 h_x0_lines.2⟩
    refine Sf.ckb 20 rfl hi (fun q18 e18 _ => ?_)
    refine Sf.rdl 6 rfl rfl (fun v19 e19 => ?_)
    refine Sf.ite (fun hv => ?_) (fun hv => Sf.inl (show (0 ≤ z4 + 1 ∧ z4 + 1 ≤ x0_lines) ∧ x0_line = x0_line ∧ AI 0 1000000000 z7 from ⟨⟨p0, hz1⟩, rfl, i2⟩) (muUp_lt hc))
    refine Sf.ckb 20 rfl hi (fun q20 e20 _ => ?_)
    refine Sf.wrb 7 rfl (by decide) (fun f21 e21 => ?_)
    have e21 : f21 = va_up (x0_line q20) 6 1 := e21
    have hl2 : LnM (va_up x0_line q20 f21) := by
      rw [e21]
      exact GI.up h_x0_line (RI.up (h_x0_line q20) (by decide))
    refine Sf.bind (sX7_free hn h_x0_shelf h_x0_rowSize h_x0_tapeSize h_x0_lines hl2 h_x0_changes h_x0_coins h_x0_goods h_x0_good h_x0_works h_x0_work h_x0_years h_x0_from i2 h_x0_way h_x0_steps h_x0_queue) ?_
    rintro ⟨v22, g23, g24, g25⟩ h24
    have h24 : AI 0 1000000000 g24 := h24
    try dsimp only [u4]
    refine Sf.ckb 20 rfl hi (fun q27 e27 _ => ?_)
    refine Sf.wrb 7 rfl (by decide) (fun f28 e28 => ?_)
    have eqq : q27 = q20 := by rw [e27, e20]
    rw [eqq, va_eq] at e28
    have e28 : f28 = va_up f21 6 0 := e28
    have same : va_up (va_up x0_line q20 f21) q27 f28 = x0_line := by
      rw [eqq, va_up_up, e28, e21, va_up_up]
      funext l
      by_cases h : l = q20
      · rw [h, va_eq]
        funext c
        by_cases h6 : c = 6
        · rw [h6, va_eq, ← hv, e19, e18, e20]
        · rw [va_ne _ _ h6]
      · rw [va_ne _ _ h]
    unfold fX7_hangs_j63
    rw [same]
    refine Sf.ite (fun _ => ?_) (fun _ => Sf.ite (fun _ => ?_) (fun _ => ?_))
    · exact Sf.inl (show (0 ≤ z4 + 1 ∧ z4 + 1 ≤ x0_lines) ∧ x0_line = x0_line ∧ AI 0 1000000000 g24 from ⟨⟨p0, hz1⟩, rfl, h24⟩) (muUp_lt hc)
    · exact Sf.inl (show (0 ≤ z4 + 1 ∧ z4 + 1 ≤ x0_lines) ∧ x0_line = x0_line ∧ AI 0 1000000000 g24 from ⟨⟨p0, hz1⟩, rfl, h24⟩) (muUp_lt hc)
    · exact Sf.inl (show (0 ≤ z4 + 1 ∧ z4 + 1 ≤ x0_lines) ∧ x0_line = x0_line ∧ AI 0 1000000000 g24 from ⟨⟨p0, hz1⟩, rfl, h24⟩) (muUp_lt hc)
  · rintro ⟨w10, w11, w12, w13, w14⟩ ⟨h1, h2⟩
    have h1 : w11 = x0_line := h1
    have h2 : AI 0 1000000000 w13 := h2
    try dsimp only [u5]
    rw [h1]
    refine Sf.ite (fun _ => ?_) (fun _ => Sf.ok rfl)
    refine Sf.bind (sX7_refuse h_x0_shelf h_x0_rowSize h_x0_tapeSize h_x0_lines h_x0_line h_x0_changes h_x0_coins h_x0_goods h_x0_good h_x0_works h_x0_work h_x0_years h_x0_from h2 h_x0_way h_x0_steps h_x0_queue (by decide)) ?_
    rintro ⟨v, g⟩ _
    exact Sf.ok rfl
/-! calls that only learn -/
theorem kFree {n : Nat} {x0_refused : (Nat → Int32)} {x0_isKept : Int32} {x0_gone : Int32} {x0_spent : Int32} {x1_gained : Nat → Int32} {x2_lineCount : Int32} {x2_goodsCount : Int32} {x2_workCount : Int32} {x2_years : Int32} {x2_lines : (Nat → Int32)} {x2_goods : (Nat → Int32)} {x2_works : (Nat → Int32)} {x2_change : (Nat → Int32)} {x2_coin : (Nat → Int32)} {x2_knownFree : (Nat → Int32)} {x2_isKnown : Int32} {x3_lineCount : Int32} {x3_goodsCount : Int32} {x3_workCount : Int32} {x3_years : Int32} {x3_lines : (Nat → Int32)} {x3_goods : (Nat → Int32)} {x3_works : (Nat → Int32)} {x3_change : (Nat → Int32)} {x3_coin : (Nat → Int32)} {x3_knownFree : (Nat → Int32)} {x3_isKnown : Int32} {x4_left : (Nat → Int32)} {x4_earned : (Nat → Int32)} {x4_turnCost : Int32} {x4_turnWayless : Int32} {x5_edgeA : (Nat → Int32)} {x5_edgeB : (Nat → Int32)} {x5_edgeCost : (Nat → Int32)} {x5_edgeLine : (Nat → Int32)} {x5_change : (Nat → Int32)} {x5_away : (Nat → Int32)} {x5_steps : (Nat → Int32)} {x5_nodes : (Nat → Int32)} {x5_stepCount : Int32} {x5_open : (Nat → Int32)} {x5_openCount : Int32} {x5_seen : Int64} {x5_edgeCount : Int32} {x5_aim : Int32} (hn : 1000000000000 ≤ n) (h_x2_lineCount : (0 ≤ x2_lineCount ∧ x2_lineCount ≤ 20)) (h_x2_goodsCount : (0 ≤ x2_goodsCount ∧ x2_goodsCount ≤ 8)) (h_x2_workCount : (0 ≤ x2_workCount ∧ x2_workCount ≤ 7)) (h_x2_years : (1 ≤ x2_years ∧ x2_years ≤ 30)) (h_x2_lines : (LnOk x2_lines)) (h_x2_goods : (GdOk x2_goods)) (h_x2_works : (WkOk x2_works)) (h_x2_change : (AI 0 99 x2_change)) (h_x2_coin : (AI 0 9 x2_coin)) (h_x3_lineCount : (0 ≤ x3_lineCount ∧ x3_lineCount ≤ 20)) (h_x3_goodsCount : (0 ≤ x3_goodsCount ∧ x3_goodsCount ≤ 8)) (h_x3_workCount : (0 ≤ x3_workCount ∧ x3_workCount ≤ 7)) (h_x3_years : (1 ≤ x3_years ∧ x3_years ≤ 30)) (h_x3_lines : (LnOk x3_lines)) (h_x3_goods : (GdOk x3_goods)) (h_x3_works : (WkOk x3_works)) (h_x3_change : (AI 0 99 x3_change)) (h_x3_coin : (AI 0 9 x3_coin)) (h_x5_edgeA : (AI 0 35 x5_edgeA)) (h_x5_edgeB : (AI 0 35 x5_edgeB)) (h_x5_edgeLine : (AI 0 19 x5_edgeLine)) (h_x5_steps : (AI 0 22 x5_steps)) (h_x5_nodes : (AI 0 35 x5_nodes)) (h_x5_stepCount : (0 ≤ x5_stepCount ∧ x5_stepCount ≤ 36)) (h_x5_open : (AI 0 35 x5_open)) (h_x5_openCount : (0 ≤ x5_openCount ∧ x5_openCount ≤ 36)) (h_x5_edgeCount : (0 ≤ x5_edgeCount ∧ x5_edgeCount ≤ 60)) (hf : ∀ k, k < x3_workCount.toNatClampNeg → Wf1 (ro 5 x3_works) x3_lineCount k) (hk : Kn (FrS x3_lineCount (ro 7 x3_lines) x3_change x3_coin (ro 3 x3_goods) x3_goodsCount (ro 5 x3_works) x3_workCount) x3_knownFree x3_isKnown) : Sf (fX6_free n (x0_refused, x0_isKept, x0_gone, x0_spent) x1_gained (x2_lineCount, x2_goodsCount, x2_workCount, x2_years, x2_lines, x2_goods, x2_works, x2_change, x2_coin, x2_knownFree, x2_isKnown) (x3_lineCount, x3_goodsCount, x3_workCount, x3_years, x3_lines, x3_goods, x3_works, x3_change, x3_coin, x3_knownFree, x3_isKnown) (x4_left, x4_earned, x4_turnCost, x4_turnWayless) (x5_edgeA, x5_edgeB, x5_edgeCost, x5_edgeLine, x5_change, x5_away, x5_steps, x5_nodes, x5_stepCount, x5_open, x5_openCount, x5_seen, x5_edgeCount, x5_aim)) (fun r => r.1 = FrA (x3_lineCount, ro 7 x3_lines, x3_change) x3_coin (ro 3 x3_goods) x3_goodsCount ∧ FwQ (FrS x3_lineCount (ro 7 x3_lines) x3_change x3_coin (ro 3 x3_goods) x3_goodsCount (ro 5 x3_works) x3_workCount) x3_lineCount x3_lines x3_change r.2.2.1) := by
  unfold fX6_free
  dsimp only [u4, u14, u11]
  refine Sf.bind (freeWithC hn h_x5_edgeA h_x5_edgeB h_x5_edgeLine h_x5_steps h_x5_nodes h_x5_stepCount h_x5_open h_x5_openCount h_x5_edgeCount h_x2_lineCount h_x2_goodsCount h_x2_workCount h_x2_years h_x2_lines h_x2_goods h_x2_works h_x2_change h_x2_coin h_x3_lineCount h_x3_goodsCount h_x3_workCount h_x3_years h_x3_lines h_x3_goods h_x3_works h_x3_change h_x3_coin hf hk) ?_
  rintro ⟨v1, ⟨g3, g4, g5, g6, g7, g8, g9, g10⟩, ⟨g12, g13, g14, g15, g16, g17, g18, g19, g20, g21⟩, ⟨g23, g24, g25, g26, g27⟩⟩ ⟨⟨s, hs, e1⟩, q⟩
  refine Sf.ok ⟨?_, q⟩
  have e1 : v1 = FrA (doS (ro 5 x3_works) s x3_workCount.toNatClampNeg (x3_lineCount, ro 7 x3_lines, x3_change)) x3_coin (ro 3 x3_goods) x3_goodsCount := e1
  rw [doS_none _ (fun k hk' => by rw [hs k hk', tq_zero]; rfl)] at e1
  exact e1
theorem kTotal {n : Nat} {x0_refused : (Nat → Int32)} {x0_isKept : Int32} {x0_gone : Int32} {x0_spent : Int32} {x1_gained : Nat → Int32} {x2_lineCount : Int32} {x2_goodsCount : Int32} {x2_workCount : Int32} {x2_years : Int32} {x2_lines : (Nat → Int32)} {x2_goods : (Nat → Int32)} {x2_works : (Nat → Int32)} {x2_change : (Nat → Int32)} {x2_coin : (Nat → Int32)} {x2_knownFree : (Nat → Int32)} {x2_isKnown : Int32} {x3_lineCount : Int32} {x3_goodsCount : Int32} {x3_workCount : Int32} {x3_years : Int32} {x3_lines : (Nat → Int32)} {x3_goods : (Nat → Int32)} {x3_works : (Nat → Int32)} {x3_change : (Nat → Int32)} {x3_coin : (Nat → Int32)} {x3_knownFree : (Nat → Int32)} {x3_isKnown : Int32} {x4_left : (Nat → Int32)} {x4_earned : (Nat → Int32)} {x4_turnCost : Int32} {x4_turnWayless : Int32} {x5_edgeA : (Nat → Int32)} {x5_edgeB : (Nat → Int32)} {x5_edgeCost : (Nat → Int32)} {x5_edgeLine : (Nat → Int32)} {x5_change : (Nat → Int32)} {x5_away : (Nat → Int32)} {x5_steps : (Nat → Int32)} {x5_nodes : (Nat → Int32)} {x5_stepCount : Int32} {x5_open : (Nat → Int32)} {x5_openCount : Int32} {x5_seen : Int64} {x5_edgeCount : Int32} {x5_aim : Int32} {p1 : Int32} (hn : 1000000000000 ≤ n) (h_x2_lineCount : (0 ≤ x2_lineCount ∧ x2_lineCount ≤ 20)) (h_x2_goodsCount : (0 ≤ x2_goodsCount ∧ x2_goodsCount ≤ 8)) (h_x2_workCount : (0 ≤ x2_workCount ∧ x2_workCount ≤ 7)) (h_x2_years : (1 ≤ x2_years ∧ x2_years ≤ 30)) (h_x2_lines : (LnOk x2_lines)) (h_x2_goods : (GdOk x2_goods)) (h_x2_works : (WkOk x2_works)) (h_x2_change : (AI 0 99 x2_change)) (h_x2_coin : (AI 0 9 x2_coin)) (h_x3_lineCount : (0 ≤ x3_lineCount ∧ x3_lineCount ≤ 20)) (h_x3_goodsCount : (0 ≤ x3_goodsCount ∧ x3_goodsCount ≤ 8)) (h_x3_workCount : (0 ≤ x3_workCount ∧ x3_workCount ≤ 7)) (h_x3_years : (1 ≤ x3_years ∧ x3_years ≤ 30)) (h_x3_lines : (LnOk x3_lines)) (h_x3_goods : (GdOk x3_goods)) (h_x3_works : (WkOk x3_works)) (h_x3_change : (AI 0 99 x3_change)) (h_x3_coin : (AI 0 9 x3_coin)) (h_x5_edgeA : (AI 0 35 x5_edgeA)) (h_x5_edgeB : (AI 0 35 x5_edgeB)) (h_x5_edgeLine : (AI 0 19 x5_edgeLine)) (h_x5_steps : (AI 0 22 x5_steps)) (h_x5_nodes : (AI 0 35 x5_nodes)) (h_x5_stepCount : (0 ≤ x5_stepCount ∧ x5_stepCount ≤ 36)) (h_x5_open : (AI 0 35 x5_open)) (h_x5_openCount : (0 ≤ x5_openCount ∧ x5_openCount ≤ 36)) (h_x5_edgeCount : (0 ≤ x5_edgeCount ∧ x5_edgeCount ≤ 60)) (hf : ∀ k, k < x3_workCount.toNatClampNeg → Wf1 (ro 5 x3_works) x3_lineCount k) (hk : Kn (FrS x3_lineCount (ro 7 x3_lines) x3_change x3_coin (ro 3 x3_goods) x3_goodsCount (ro 5 x3_works) x3_workCount) x3_knownFree x3_isKnown) : Sf (fX6_total n (x0_refused, x0_isKept, x0_gone, x0_spent) x1_gained (x2_lineCount, x2_goodsCount, x2_workCount, x2_years, x2_lines, x2_goods, x2_works, x2_change, x2_coin, x2_knownFree, x2_isKnown) (x3_lineCount, x3_goodsCount, x3_workCount, x3_years, x3_lines, x3_goods, x3_works, x3_change, x3_coin, x3_knownFree, x3_isKnown) (x4_left, x4_earned, x4_turnCost, x4_turnWayless) (x5_edgeA, x5_edgeB, x5_edgeCost, x5_edgeLine, x5_change, x5_away, x5_steps, x5_nodes, x5_stepCount, x5_open, x5_openCount, x5_seen, x5_edgeCount, x5_aim) p1) (fun r => AP (0 ≤ p1 ∧ p1 ≤ ((1 : Int32) <<< (x3_workCount &&& 31)) - 1) r.1 (r.1 = TotA (x3_lineCount, ro 7 x3_lines, x3_change) x3_coin (ro 3 x3_goods) x3_goodsCount (ro 5 x3_works) x3_workCount x3_years p1) True ∧ FwQ (FrS x3_lineCount (ro 7 x3_lines) x3_change x3_coin (ro 3 x3_goods) x3_goodsCount (ro 5 x3_works) x3_workCount) x3_lineCount x3_lines x3_change r.2.2.2.1) := by
  unfold fX6_total
  dsimp only [u4, u14, u11]
  refine Sf.bind sX6_within (fun v1 h1 => Sf.ite (fun hz => ?_) (fun hz => ?_))
  · refine Sf.bind refC ?_
    rintro ⟨v, g⟩ e
    exact Sf.ok ⟨Or.inr ⟨gd0 h1 hz, e, trivial⟩, rfl, rfl, rfl, hk⟩
  refine Sf.bind (totalOfC hn h_x5_edgeA h_x5_edgeB h_x5_edgeLine h_x5_steps h_x5_nodes h_x5_stepCount h_x5_open h_x5_openCount h_x5_edgeCount h_x2_lineCount h_x2_goodsCount h_x2_workCount h_x2_years h_x2_lines h_x2_goods h_x2_works h_x2_change h_x2_coin h_x3_lineCount h_x3_goodsCount h_x3_workCount h_x3_years h_x3_lines h_x3_goods h_x3_works h_x3_change h_x3_coin hf hk) ?_
  rintro ⟨v3, ⟨g3, g4, g5, g6, g7, g8, g9, g10⟩, ⟨g12, g13, g14, g15, g16, g17, g18, g19, g20, g21⟩, ⟨g23, g24, g25, g26, g27⟩⟩ ⟨e, q⟩
  exact Sf.ok ⟨Or.inl ⟨gd1 h1 hz, e⟩, q⟩
theorem kBest {n : Nat} {x0_refused : (Nat → Int32)} {x0_isKept : Int32} {x0_gone : Int32} {x0_spent : Int32} {x1_gained : Nat → Int32} {x2_lineCount : Int32} {x2_goodsCount : Int32} {x2_workCount : Int32} {x2_years : Int32} {x2_lines : (Nat → Int32)} {x2_goods : (Nat → Int32)} {x2_works : (Nat → Int32)} {x2_change : (Nat → Int32)} {x2_coin : (Nat → Int32)} {x2_knownFree : (Nat → Int32)} {x2_isKnown : Int32} {x3_lineCount : Int32} {x3_goodsCount : Int32} {x3_workCount : Int32} {x3_years : Int32} {x3_lines : (Nat → Int32)} {x3_goods : (Nat → Int32)} {x3_works : (Nat → Int32)} {x3_change : (Nat → Int32)} {x3_coin : (Nat → Int32)} {x3_knownFree : (Nat → Int32)} {x3_isKnown : Int32} {x4_left : (Nat → Int32)} {x4_earned : (Nat → Int32)} {x4_turnCost : Int32} {x4_turnWayless : Int32} {x5_edgeA : (Nat → Int32)} {x5_edgeB : (Nat → Int32)} {x5_edgeCost : (Nat → Int32)} {x5_edgeLine : (Nat → Int32)} {x5_change : (Nat → Int32)} {x5_away : (Nat → Int32)} {x5_steps : (Nat → Int32)} {x5_nodes : (Nat → Int32)} {x5_stepCount : Int32} {x5_open : (Nat → Int32)} {x5_openCount : Int32} {x5_seen : Int64} {x5_edgeCount : Int32} {x5_aim : Int32} (hn : 1000000000000 ≤ n) (h_x2_lineCount : (0 ≤ x2_lineCount ∧ x2_lineCount ≤ 20)) (h_x2_goodsCount : (0 ≤ x2_goodsCount ∧ x2_goodsCount ≤ 8)) (h_x2_workCount : (0 ≤ x2_workCount ∧ x2_workCount ≤ 7)) (h_x2_years : (1 ≤ x2_years ∧ x2_years ≤ 30)) (h_x2_lines : (LnOk x2_lines)) (h_x2_goods : (GdOk x2_goods)) (h_x2_works : (WkOk x2_works)) (h_x2_change : (AI 0 99 x2_change)) (h_x2_coin : (AI 0 9 x2_coin)) (h_x3_lineCount : (0 ≤ x3_lineCount ∧ x3_lineCount ≤ 20)) (h_x3_goodsCount : (0 ≤ x3_goodsCount ∧ x3_goodsCount ≤ 8)) (h_x3_workCount : (0 ≤ x3_workCount ∧ x3_workCount ≤ 7)) (h_x3_years : (1 ≤ x3_years ∧ x3_years ≤ 30)) (h_x3_lines : (LnOk x3_lines)) (h_x3_goods : (GdOk x3_goods)) (h_x3_works : (WkOk x3_works)) (h_x3_change : (AI 0 99 x3_change)) (h_x3_coin : (AI 0 9 x3_coin)) (h_x5_edgeA : (AI 0 35 x5_edgeA)) (h_x5_edgeB : (AI 0 35 x5_edgeB)) (h_x5_edgeLine : (AI 0 19 x5_edgeLine)) (h_x5_steps : (AI 0 22 x5_steps)) (h_x5_nodes : (AI 0 35 x5_nodes)) (h_x5_stepCount : (0 ≤ x5_stepCount ∧ x5_stepCount ≤ 36)) (h_x5_open : (AI 0 35 x5_open)) (h_x5_openCount : (0 ≤ x5_openCount ∧ x5_openCount ≤ 36)) (h_x5_edgeCount : (0 ≤ x5_edgeCount ∧ x5_edgeCount ≤ 60)) (hf : ∀ k, k < x3_workCount.toNatClampNeg → Wf1 (ro 5 x3_works) x3_lineCount k) (hk : Kn (FrS x3_lineCount (ro 7 x3_lines) x3_change x3_coin (ro 3 x3_goods) x3_goodsCount (ro 5 x3_works) x3_workCount) x3_knownFree x3_isKnown) : Sf (fX6_best n (x0_refused, x0_isKept, x0_gone, x0_spent) x1_gained (x2_lineCount, x2_goodsCount, x2_workCount, x2_years, x2_lines, x2_goods, x2_works, x2_change, x2_coin, x2_knownFree, x2_isKnown) (x3_lineCount, x3_goodsCount, x3_workCount, x3_years, x3_lines, x3_goods, x3_works, x3_change, x3_coin, x3_knownFree, x3_isKnown) (x4_left, x4_earned, x4_turnCost, x4_turnWayless) (x5_edgeA, x5_edgeB, x5_edgeCost, x5_edgeLine, x5_change, x5_away, x5_steps, x5_nodes, x5_stepCount, x5_open, x5_openCount, x5_seen, x5_edgeCount, x5_aim)) (fun r => FwQ (FrS x3_lineCount (ro 7 x3_lines) x3_change x3_coin (ro 3 x3_goods) x3_goodsCount (ro 5 x3_works) x3_workCount) x3_lineCount x3_lines x3_change r.2.2.1) := by
  unfold fX6_best
  dsimp only [u4, u14, u11]
  refine Sf.bind (bestOfK hn h_x5_edgeA h_x5_edgeB h_x5_edgeLine h_x5_steps h_x5_nodes h_x5_stepCount h_x5_open h_x5_openCount h_x5_edgeCount h_x2_lineCount h_x2_goodsCount h_x2_workCount h_x2_years h_x2_lines h_x2_goods h_x2_works h_x2_change h_x2_coin h_x3_lineCount h_x3_goodsCount h_x3_workCount h_x3_years h_x3_lines h_x3_goods h_x3_works h_x3_change h_x3_coin hf hk) ?_
  rintro ⟨v1, ⟨g3, g4, g5, g6, g7, g8, g9, g10⟩, ⟨g12, g13, g14, g15, g16, g17, g18, g19, g20, g21⟩, ⟨g23, g24, g25, g26, g27⟩⟩ q
  exact Sf.ok q
theorem kNever {n : Nat} {x0_refused : (Nat → Int32)} {x0_isKept : Int32} {x0_gone : Int32} {x0_spent : Int32} {x1_gained : Nat → Int32} {x2_lineCount : Int32} {x2_goodsCount : Int32} {x2_workCount : Int32} {x2_years : Int32} {x2_lines : (Nat → Int32)} {x2_goods : (Nat → Int32)} {x2_works : (Nat → Int32)} {x2_change : (Nat → Int32)} {x2_coin : (Nat → Int32)} {x2_knownFree : (Nat → Int32)} {x2_isKnown : Int32} {x3_lineCount : Int32} {x3_goodsCount : Int32} {x3_workCount : Int32} {x3_years : Int32} {x3_lines : (Nat → Int32)} {x3_goods : (Nat → Int32)} {x3_works : (Nat → Int32)} {x3_change : (Nat → Int32)} {x3_coin : (Nat → Int32)} {x3_knownFree : (Nat → Int32)} {x3_isKnown : Int32} {x4_left : (Nat → Int32)} {x4_earned : (Nat → Int32)} {x4_turnCost : Int32} {x4_turnWayless : Int32} {x5_edgeA : (Nat → Int32)} {x5_edgeB : (Nat → Int32)} {x5_edgeCost : (Nat → Int32)} {x5_edgeLine : (Nat → Int32)} {x5_change : (Nat → Int32)} {x5_away : (Nat → Int32)} {x5_steps : (Nat → Int32)} {x5_nodes : (Nat → Int32)} {x5_stepCount : Int32} {x5_open : (Nat → Int32)} {x5_openCount : Int32} {x5_seen : Int64} {x5_edgeCount : Int32} {x5_aim : Int32} (hn : 1000000000000 ≤ n) (h_x2_lineCount : (0 ≤ x2_lineCount ∧ x2_lineCount ≤ 20)) (h_x2_goodsCount : (0 ≤ x2_goodsCount ∧ x2_goodsCount ≤ 8)) (h_x2_workCount : (0 ≤ x2_workCount ∧ x2_workCount ≤ 7)) (h_x2_years : (1 ≤ x2_years ∧ x2_years ≤ 30)) (h_x2_lines : (LnOk x2_lines)) (h_x2_goods : (GdOk x2_goods)) (h_x2_works : (WkOk x2_works)) (h_x2_change : (AI 0 99 x2_change)) (h_x2_coin : (AI 0 9 x2_coin)) (h_x3_lineCount : (0 ≤ x3_lineCount ∧ x3_lineCount ≤ 20)) (h_x3_goodsCount : (0 ≤ x3_goodsCount ∧ x3_goodsCount ≤ 8)) (h_x3_workCount : (0 ≤ x3_workCount ∧ x3_workCount ≤ 7)) (h_x3_years : (1 ≤ x3_years ∧ x3_years ≤ 30)) (h_x3_lines : (LnOk x3_lines)) (h_x3_goods : (GdOk x3_goods)) (h_x3_works : (WkOk x3_works)) (h_x3_change : (AI 0 99 x3_change)) (h_x3_coin : (AI 0 9 x3_coin)) (h_x5_edgeA : (AI 0 35 x5_edgeA)) (h_x5_edgeB : (AI 0 35 x5_edgeB)) (h_x5_edgeLine : (AI 0 19 x5_edgeLine)) (h_x5_steps : (AI 0 22 x5_steps)) (h_x5_nodes : (AI 0 35 x5_nodes)) (h_x5_stepCount : (0 ≤ x5_stepCount ∧ x5_stepCount ≤ 36)) (h_x5_open : (AI 0 35 x5_open)) (h_x5_openCount : (0 ≤ x5_openCount ∧ x5_openCount ≤ 36)) (h_x5_edgeCount : (0 ≤ x5_edgeCount ∧ x5_edgeCount ≤ 60)) (hf : ∀ k, k < x3_workCount.toNatClampNeg → Wf1 (ro 5 x3_works) x3_lineCount k) (hk : Kn (FrS x3_lineCount (ro 7 x3_lines) x3_change x3_coin (ro 3 x3_goods) x3_goodsCount (ro 5 x3_works) x3_workCount) x3_knownFree x3_isKnown) : Sf (fX6_never n (x0_refused, x0_isKept, x0_gone, x0_spent) x1_gained (x2_lineCount, x2_goodsCount, x2_workCount, x2_years, x2_lines, x2_goods, x2_works, x2_change, x2_coin, x2_knownFree, x2_isKnown) (x3_lineCount, x3_goodsCount, x3_workCount, x3_years, x3_lines, x3_goods, x3_works, x3_change, x3_coin, x3_knownFree, x3_isKnown) (x4_left, x4_earned, x4_turnCost, x4_turnWayless) (x5_edgeA, x5_edgeB, x5_edgeCost, x5_edgeLine, x5_change, x5_away, x5_steps, x5_nodes, x5_stepCount, x5_open, x5_openCount, x5_seen, x5_edgeCount, x5_aim)) (fun r => FwQ (FrS x3_lineCount (ro 7 x3_lines) x3_change x3_coin (ro 3 x3_goods) x3_goodsCount (ro 5 x3_works) x3_workCount) x3_lineCount x3_lines x3_change r.2.2.1) := by
  unfold fX6_never
  dsimp only [u4, u14, u11]
  refine Sf.bind (neverOfK hn h_x5_edgeA h_x5_edgeB h_x5_edgeLine h_x5_steps h_x5_nodes h_x5_stepCount h_x5_open h_x5_openCount h_x5_edgeCount h_x2_lineCount h_x2_goodsCount h_x2_workCount h_x2_years h_x2_lines h_x2_goods h_x2_works h_x2_change h_x2_coin h_x3_lineCount h_x3_goodsCount h_x3_workCount h_x3_years h_x3_lines h_x3_goods h_x3_works h_x3_change h_x3_coin hf hk) ?_
  rintro ⟨v1, ⟨g3, g4, g5, g6, g7, g8, g9, g10⟩, ⟨g12, g13, g14, g15, g16, g17, g18, g19, g20, g21⟩, ⟨g23, g24, g25, g26, g27⟩⟩ q
  exact Sf.ok q
theorem kFirst {n : Nat} {x0_refused : (Nat → Int32)} {x0_isKept : Int32} {x0_gone : Int32} {x0_spent : Int32} {x1_gained : Nat → Int32} {x2_lineCount : Int32} {x2_goodsCount : Int32} {x2_workCount : Int32} {x2_years : Int32} {x2_lines : (Nat → Int32)} {x2_goods : (Nat → Int32)} {x2_works : (Nat → Int32)} {x2_change : (Nat → Int32)} {x2_coin : (Nat → Int32)} {x2_knownFree : (Nat → Int32)} {x2_isKnown : Int32} {x3_lineCount : Int32} {x3_goodsCount : Int32} {x3_workCount : Int32} {x3_years : Int32} {x3_lines : (Nat → Int32)} {x3_goods : (Nat → Int32)} {x3_works : (Nat → Int32)} {x3_change : (Nat → Int32)} {x3_coin : (Nat → Int32)} {x3_knownFree : (Nat → Int32)} {x3_isKnown : Int32} {x4_left : (Nat → Int32)} {x4_earned : (Nat → Int32)} {x4_turnCost : Int32} {x4_turnWayless : Int32} {x5_edgeA : (Nat → Int32)} {x5_edgeB : (Nat → Int32)} {x5_edgeCost : (Nat → Int32)} {x5_edgeLine : (Nat → Int32)} {x5_change : (Nat → Int32)} {x5_away : (Nat → Int32)} {x5_steps : (Nat → Int32)} {x5_nodes : (Nat → Int32)} {x5_stepCount : Int32} {x5_open : (Nat → Int32)} {x5_openCount : Int32} {x5_seen : Int64} {x5_edgeCount : Int32} {x5_aim : Int32} (hn : 1000000000000 ≤ n) (h_x2_lineCount : (0 ≤ x2_lineCount ∧ x2_lineCount ≤ 20)) (h_x2_goodsCount : (0 ≤ x2_goodsCount ∧ x2_goodsCount ≤ 8)) (h_x2_workCount : (0 ≤ x2_workCount ∧ x2_workCount ≤ 7)) (h_x2_years : (1 ≤ x2_years ∧ x2_years ≤ 30)) (h_x2_lines : (LnOk x2_lines)) (h_x2_goods : (GdOk x2_goods)) (h_x2_works : (WkOk x2_works)) (h_x2_change : (AI 0 99 x2_change)) (h_x2_coin : (AI 0 9 x2_coin)) (h_x3_lineCount : (0 ≤ x3_lineCount ∧ x3_lineCount ≤ 20)) (h_x3_goodsCount : (0 ≤ x3_goodsCount ∧ x3_goodsCount ≤ 8)) (h_x3_workCount : (0 ≤ x3_workCount ∧ x3_workCount ≤ 7)) (h_x3_years : (1 ≤ x3_years ∧ x3_years ≤ 30)) (h_x3_lines : (LnOk x3_lines)) (h_x3_goods : (GdOk x3_goods)) (h_x3_works : (WkOk x3_works)) (h_x3_change : (AI 0 99 x3_change)) (h_x3_coin : (AI 0 9 x3_coin)) (h_x5_edgeA : (AI 0 35 x5_edgeA)) (h_x5_edgeB : (AI 0 35 x5_edgeB)) (h_x5_edgeLine : (AI 0 19 x5_edgeLine)) (h_x5_steps : (AI 0 22 x5_steps)) (h_x5_nodes : (AI 0 35 x5_nodes)) (h_x5_stepCount : (0 ≤ x5_stepCount ∧ x5_stepCount ≤ 36)) (h_x5_open : (AI 0 35 x5_open)) (h_x5_openCount : (0 ≤ x5_openCount ∧ x5_openCount ≤ 36)) (h_x5_edgeCount : (0 ≤ x5_edgeCount ∧ x5_edgeCount ≤ 60)) (hf : ∀ k, k < x3_workCount.toNatClampNeg → Wf1 (ro 5 x3_works) x3_lineCount k) (hk : Kn (FrS x3_lineCount (ro 7 x3_lines) x3_change x3_coin (ro 3 x3_goods) x3_goodsCount (ro 5 x3_works) x3_workCount) x3_knownFree x3_isKnown) : Sf (fX6_first n (x0_refused, x0_isKept, x0_gone, x0_spent) x1_gained (x2_lineCount, x2_goodsCount, x2_workCount, x2_years, x2_lines, x2_goods, x2_works, x2_change, x2_coin, x2_knownFree, x2_isKnown) (x3_lineCount, x3_goodsCount, x3_workCount, x3_years, x3_lines, x3_goods, x3_works, x3_change, x3_coin, x3_knownFree, x3_isKnown) (x4_left, x4_earned, x4_turnCost, x4_turnWayless) (x5_edgeA, x5_edgeB, x5_edgeCost, x5_edgeLine, x5_change, x5_away, x5_steps, x5_nodes, x5_stepCount, x5_open, x5_openCount, x5_seen, x5_edgeCount, x5_aim)) (fun r => r.1 = FirA (x3_lineCount, ro 7 x3_lines, x3_change) x3_coin (ro 3 x3_goods) x3_goodsCount (ro 5 x3_works) x3_workCount x3_years ∧ FwQ (FrS x3_lineCount (ro 7 x3_lines) x3_change x3_coin (ro 3 x3_goods) x3_goodsCount (ro 5 x3_works) x3_workCount) x3_lineCount x3_lines x3_change r.2.2.1) := by
  unfold fX6_first
  dsimp only [u4, u14, u11]
  refine Sf.bind (firstOfC hn h_x5_edgeA h_x5_edgeB h_x5_edgeLine h_x5_steps h_x5_nodes h_x5_stepCount h_x5_open h_x5_openCount h_x5_edgeCount h_x2_lineCount h_x2_goodsCount h_x2_workCount h_x2_years h_x2_lines h_x2_goods h_x2_works h_x2_change h_x2_coin h_x3_lineCount h_x3_goodsCount h_x3_workCount h_x3_years h_x3_lines h_x3_goods h_x3_works h_x3_change h_x3_coin hf hk) ?_
  rintro ⟨v1, ⟨g3, g4, g5, g6, g7, g8, g9, g10⟩, ⟨g12, g13, g14, g15, g16, g17, g18, g19, g20, g21⟩, ⟨g23, g24, g25, g26, g27⟩⟩ q
  exact Sf.ok q
theorem kWorth {n : Nat} {x0_refused : (Nat → Int32)} {x0_isKept : Int32} {x0_gone : Int32} {x0_spent : Int32} {x1_gained : Nat → Int32} {x2_lineCount : Int32} {x2_goodsCount : Int32} {x2_workCount : Int32} {x2_years : Int32} {x2_lines : (Nat → Int32)} {x2_goods : (Nat → Int32)} {x2_works : (Nat → Int32)} {x2_change : (Nat → Int32)} {x2_coin : (Nat → Int32)} {x2_knownFree : (Nat → Int32)} {x2_isKnown : Int32} {x3_lineCount : Int32} {x3_goodsCount : Int32} {x3_workCount : Int32} {x3_years : Int32} {x3_lines : (Nat → Int32)} {x3_goods : (Nat → Int32)} {x3_works : (Nat → Int32)} {x3_change : (Nat → Int32)} {x3_coin : (Nat → Int32)} {x3_knownFree : (Nat → Int32)} {x3_isKnown : Int32} {x4_left : (Nat → Int32)} {x4_earned : (Nat → Int32)} {x4_turnCost : Int32} {x4_turnWayless : Int32} {x5_edgeA : (Nat → Int32)} {x5_edgeB : (Nat → Int32)} {x5_edgeCost : (Nat → Int32)} {x5_edgeLine : (Nat → Int32)} {x5_change : (Nat → Int32)} {x5_away : (Nat → Int32)} {x5_steps : (Nat → Int32)} {x5_nodes : (Nat → Int32)} {x5_stepCount : Int32} {x5_open : (Nat → Int32)} {x5_openCount : Int32} {x5_seen : Int64} {x5_edgeCount : Int32} {x5_aim : Int32} {p1 : Int32} (hn : 1000000000000 ≤ n) (h_x2_lineCount : (0 ≤ x2_lineCount ∧ x2_lineCount ≤ 20)) (h_x2_goodsCount : (0 ≤ x2_goodsCount ∧ x2_goodsCount ≤ 8)) (h_x2_workCount : (0 ≤ x2_workCount ∧ x2_workCount ≤ 7)) (h_x2_years : (1 ≤ x2_years ∧ x2_years ≤ 30)) (h_x2_lines : (LnOk x2_lines)) (h_x2_goods : (GdOk x2_goods)) (h_x2_works : (WkOk x2_works)) (h_x2_change : (AI 0 99 x2_change)) (h_x2_coin : (AI 0 9 x2_coin)) (h_x3_lineCount : (0 ≤ x3_lineCount ∧ x3_lineCount ≤ 20)) (h_x3_goodsCount : (0 ≤ x3_goodsCount ∧ x3_goodsCount ≤ 8)) (h_x3_workCount : (0 ≤ x3_workCount ∧ x3_workCount ≤ 7)) (h_x3_years : (1 ≤ x3_years ∧ x3_years ≤ 30)) (h_x3_lines : (LnOk x3_lines)) (h_x3_goods : (GdOk x3_goods)) (h_x3_works : (WkOk x3_works)) (h_x3_change : (AI 0 99 x3_change)) (h_x3_coin : (AI 0 9 x3_coin)) (h_x5_edgeA : (AI 0 35 x5_edgeA)) (h_x5_edgeB : (AI 0 35 x5_edgeB)) (h_x5_edgeLine : (AI 0 19 x5_edgeLine)) (h_x5_steps : (AI 0 22 x5_steps)) (h_x5_nodes : (AI 0 35 x5_nodes)) (h_x5_stepCount : (0 ≤ x5_stepCount ∧ x5_stepCount ≤ 36)) (h_x5_open : (AI 0 35 x5_open)) (h_x5_openCount : (0 ≤ x5_openCount ∧ x5_openCount ≤ 36)) (h_x5_edgeCount : (0 ≤ x5_edgeCount ∧ x5_edgeCount ≤ 60)) (hf : ∀ k, k < x3_workCount.toNatClampNeg → Wf1 (ro 5 x3_works) x3_lineCount k) (hk : Kn (FrS x3_lineCount (ro 7 x3_lines) x3_change x3_coin (ro 3 x3_goods) x3_goodsCount (ro 5 x3_works) x3_workCount) x3_knownFree x3_isKnown) : Sf (fX6_worth n (x0_refused, x0_isKept, x0_gone, x0_spent) x1_gained (x2_lineCount, x2_goodsCount, x2_workCount, x2_years, x2_lines, x2_goods, x2_works, x2_change, x2_coin, x2_knownFree, x2_isKnown) (x3_lineCount, x3_goodsCount, x3_workCount, x3_years, x3_lines, x3_goods, x3_works, x3_change, x3_coin, x3_knownFree, x3_isKnown) (x4_left, x4_earned, x4_turnCost, x4_turnWayless) (x5_edgeA, x5_edgeB, x5_edgeCost, x5_edgeLine, x5_change, x5_away, x5_steps, x5_nodes, x5_stepCount, x5_open, x5_openCount, x5_seen, x5_edgeCount, x5_aim) p1) (fun r => (((0 ≤ p1 ∧ p1.toNatClampNeg < x3_workCount.toNatClampNeg) ∧ ro 5 x3_works p1.toNatClampNeg 4 = 0 ∧ r.1 = WoA (x3_lineCount, ro 7 x3_lines, x3_change) x3_coin (ro 3 x3_goods) x3_goodsCount (ro 5 x3_works) x3_years p1.toNatClampNeg) ∨ (¬ (0 ≤ p1 ∧ p1.toNatClampNeg < x3_workCount.toNatClampNeg) ∧ r.1 = -1000002) ∨ ((0 ≤ p1 ∧ p1.toNatClampNeg < x3_workCount.toNatClampNeg) ∧ ¬ ro 5 x3_works p1.toNatClampNeg 4 = 0 ∧ r.1 = -1000005)) ∧ FwQ (FrS x3_lineCount (ro 7 x3_lines) x3_change x3_coin (ro 3 x3_goods) x3_goodsCount (ro 5 x3_works) x3_workCount) x3_lineCount x3_lines x3_change r.2.2.2.1) := by
  unfold fX6_worth
  dsimp only [u4, u14, u11]
  refine Sf.bind (noChC h_x3_lineCount h_x3_goodsCount h_x3_workCount h_x3_years h_x3_lines h_x3_goods h_x3_works h_x3_change h_x3_coin) (fun v1 h1 => ?_)
  rcases h1 with ⟨e, h, d⟩ | ⟨e, h⟩ | ⟨e, h, d⟩
  · rw [if_pos e]
    refine Sf.bind (worthInC hn h_x5_edgeA h_x5_edgeB h_x5_edgeLine h_x5_steps h_x5_nodes h_x5_stepCount h_x5_open h_x5_openCount h_x5_edgeCount h_x2_lineCount h_x2_goodsCount h_x2_workCount h_x2_years h_x2_lines h_x2_goods h_x2_works h_x2_change h_x2_coin h_x3_lineCount h_x3_goodsCount h_x3_workCount h_x3_years h_x3_lines h_x3_goods h_x3_works h_x3_change h_x3_coin hf hk (okK_lt h_x3_workCount h).1 d) ?_
    rintro ⟨v3, ⟨g3, g4, g5, g6, g7, g8, g9, g10⟩, ⟨g12, g13, g14, g15, g16, g17, g18, g19, g20, g21⟩, ⟨g23, g24, g25, g26, g27⟩⟩ ⟨e, q⟩
    exact Sf.ok ⟨Or.inl ⟨h, d, e⟩, q⟩
  · rw [if_neg (by rw [e]; decide)]
    refine Sf.bind refC ?_
    rintro ⟨v, g⟩ ev
    have ev : v = v1 := ev
    exact Sf.ok ⟨Or.inr (Or.inl ⟨h, (show (-1000000 : Int32) + v = -1000002 by rw [ev, e]; decide)⟩), rfl, rfl, rfl, hk⟩
  · rw [if_neg (by rw [e]; decide)]
    refine Sf.bind refC ?_
    rintro ⟨v, g⟩ ev
    have ev : v = v1 := ev
    exact Sf.ok ⟨Or.inr (Or.inr ⟨h, d, (show (-1000000 : Int32) + v = -1000005 by rw [ev, e]; decide)⟩), rfl, rfl, rfl, hk⟩
theorem kEdge {n : Nat} {x0_refused : (Nat → Int32)} {x0_isKept : Int32} {x0_gone : Int32} {x0_spent : Int32} {x1_gained : Nat → Int32} {x2_lineCount : Int32} {x2_goodsCount : Int32} {x2_workCount : Int32} {x2_years : Int32} {x2_lines : (Nat → Int32)} {x2_goods : (Nat → Int32)} {x2_works : (Nat → Int32)} {x2_change : (Nat → Int32)} {x2_coin : (Nat → Int32)} {x2_knownFree : (Nat → Int32)} {x2_isKnown : Int32} {x3_lineCount : Int32} {x3_goodsCount : Int32} {x3_workCount : Int32} {x3_years : Int32} {x3_lines : (Nat → Int32)} {x3_goods : (Nat → Int32)} {x3_works : (Nat → Int32)} {x3_change : (Nat → Int32)} {x3_coin : (Nat → Int32)} {x3_knownFree : (Nat → Int32)} {x3_isKnown : Int32} {x4_left : (Nat → Int32)} {x4_earned : (Nat → Int32)} {x4_turnCost : Int32} {x4_turnWayless : Int32} {x5_edgeA : (Nat → Int32)} {x5_edgeB : (Nat → Int32)} {x5_edgeCost : (Nat → Int32)} {x5_edgeLine : (Nat → Int32)} {x5_change : (Nat → Int32)} {x5_away : (Nat → Int32)} {x5_steps : (Nat → Int32)} {x5_nodes : (Nat → Int32)} {x5_stepCount : Int32} {x5_open : (Nat → Int32)} {x5_openCount : Int32} {x5_seen : Int64} {x5_edgeCount : Int32} {x5_aim : Int32} {p1 : Int32} (hn : 1000000000000 ≤ n) (h_x2_lineCount : (0 ≤ x2_lineCount ∧ x2_lineCount ≤ 20)) (h_x2_goodsCount : (0 ≤ x2_goodsCount ∧ x2_goodsCount ≤ 8)) (h_x2_workCount : (0 ≤ x2_workCount ∧ x2_workCount ≤ 7)) (h_x2_years : (1 ≤ x2_years ∧ x2_years ≤ 30)) (h_x2_lines : (LnOk x2_lines)) (h_x2_goods : (GdOk x2_goods)) (h_x2_works : (WkOk x2_works)) (h_x2_change : (AI 0 99 x2_change)) (h_x2_coin : (AI 0 9 x2_coin)) (h_x3_lineCount : (0 ≤ x3_lineCount ∧ x3_lineCount ≤ 20)) (h_x3_goodsCount : (0 ≤ x3_goodsCount ∧ x3_goodsCount ≤ 8)) (h_x3_workCount : (0 ≤ x3_workCount ∧ x3_workCount ≤ 7)) (h_x3_years : (1 ≤ x3_years ∧ x3_years ≤ 30)) (h_x3_lines : (LnOk x3_lines)) (h_x3_goods : (GdOk x3_goods)) (h_x3_works : (WkOk x3_works)) (h_x3_change : (AI 0 99 x3_change)) (h_x3_coin : (AI 0 9 x3_coin)) (h_x5_edgeA : (AI 0 35 x5_edgeA)) (h_x5_edgeB : (AI 0 35 x5_edgeB)) (h_x5_edgeLine : (AI 0 19 x5_edgeLine)) (h_x5_steps : (AI 0 22 x5_steps)) (h_x5_nodes : (AI 0 35 x5_nodes)) (h_x5_stepCount : (0 ≤ x5_stepCount ∧ x5_stepCount ≤ 36)) (h_x5_open : (AI 0 35 x5_open)) (h_x5_openCount : (0 ≤ x5_openCount ∧ x5_openCount ≤ 36)) (h_x5_edgeCount : (0 ≤ x5_edgeCount ∧ x5_edgeCount ≤ 60)) (hf : ∀ k, k < x3_workCount.toNatClampNeg → Wf1 (ro 5 x3_works) x3_lineCount k) (hk : Kn (FrS x3_lineCount (ro 7 x3_lines) x3_change x3_coin (ro 3 x3_goods) x3_goodsCount (ro 5 x3_works) x3_workCount) x3_knownFree x3_isKnown) : Sf (fX6_edge n (x0_refused, x0_isKept, x0_gone, x0_spent) x1_gained (x2_lineCount, x2_goodsCount, x2_workCount, x2_years, x2_lines, x2_goods, x2_works, x2_change, x2_coin, x2_knownFree, x2_isKnown) (x3_lineCount, x3_goodsCount, x3_workCount, x3_years, x3_lines, x3_goods, x3_works, x3_change, x3_coin, x3_knownFree, x3_isKnown) (x4_left, x4_earned, x4_turnCost, x4_turnWayless) (x5_edgeA, x5_edgeB, x5_edgeCost, x5_edgeLine, x5_change, x5_away, x5_steps, x5_nodes, x5_stepCount, x5_open, x5_openCount, x5_seen, x5_edgeCount, x5_aim) p1) (fun r => FwQ (FrS x3_lineCount (ro 7 x3_lines) x3_change x3_coin (ro 3 x3_goods) x3_goodsCount (ro 5 x3_works) x3_workCount) x3_lineCount x3_lines x3_change r.2.2.2.1) := by
  unfold fX6_edge
  dsimp only [u4, u14, u11]
  refine Sf.bind (noChC h_x3_lineCount h_x3_goodsCount h_x3_workCount h_x3_years h_x3_lines h_x3_goods h_x3_works h_x3_change h_x3_coin) (fun v1 h1 => ?_)
  refine Sf.ite (fun hz => ?_) (fun hz => ?_)
  · have hd : (0 ≤ p1 ∧ p1.toNatClampNeg < x3_workCount.toNatClampNeg) ∧ ro 5 x3_works p1.toNatClampNeg 4 = 0 := by
      rcases h1 with ⟨e, h, d⟩ | ⟨e, h⟩ | ⟨e, h, d⟩
      · exact ⟨h, d⟩
      · rw [e] at hz; exact absurd hz (by decide)
      · rw [e] at hz; exact absurd hz (by decide)
    obtain ⟨hpl, hp6⟩ := okK_lt h_x3_workCount hd.1
    refine Sf.bindS (P := fun r => FwQ (FrS x3_lineCount (ro 7 x3_lines) x3_change x3_coin (ro 3 x3_goods) x3_goodsCount (ro 5 x3_works) x3_workCount) x3_lineCount x3_lines x3_change (r.2.2.2.2.2.2.2.2.2.2.2.1, r.2.2.2.2.2.2.2.2.2.2.2.2.1, r.2.2.2.2.2.2.2.2.2.2.2.2.2.1, r.2.2.2.2.2.2.2.2.2.2.2.2.2.2.1, r.2.2.2.2.2.2.2.2.2.2.2.2.2.2.2.1)) (P' := fun r => FwQ (FrS x3_lineCount (ro 7 x3_lines) x3_change x3_coin (ro 3 x3_goods) x3_goodsCount (ro 5 x3_works) x3_workCount) x3_lineCount x3_lines x3_change (r.2.2.2.2.2.2.2.2.2.2.1, r.2.2.2.2.2.2.2.2.2.2.2.1, r.2.2.2.2.2.2.2.2.2.2.2.2.1, r.2.2.2.2.2.2.2.2.2.2.2.2.2.1, r.2.2.2.2.2.2.2.2.2.2.2.2.2.2.1)) ?_ ?_ ?_
    · refine Sf.loop24 (fun z4 z5 z6 z7 z8 z9 z10 z11 z12 z13 z14 z15 z16 z17 z18 z19 z20 z21 z22 z23 z24 z25 z26 z27 => 0 ≤ z4 ∧ StB z20 z21 z23 z26 z5 z6 z7 z8 z9 z10 z11 z12 z13 ∧ FwQ (FrS x3_lineCount (ro 7 x3_lines) x3_change x3_coin (ro 3 x3_goods) x3_goodsCount (ro 5 x3_works) x3_workCount) x3_lineCount x3_lines x3_change (z15, z16, z17, z18, z19)) (fun z4 z5 z6 z7 z8 z9 z10 z11 z12 z13 z14 z15 z16 z17 z18 z19 z20 z21 z22 z23 z24 z25 z26 z27 => muUp z4) (fun z4 z5 z6 z7 z8 z9 z10 z11 z12 z13 z14 z15 z16 z17 z18 z19 z20 z21 z22 z23 z24 z25 z26 z27 h => ?_) ?_ (muUp_n hn)
      · obtain ⟨i0, ⟨⟨j1, j2, j3, j4⟩, m1, m2, m3, m4, m5, m6, m7, m8, m9⟩, q1, q2, q3, q4⟩ := h
        have q1 : z15 = x3_lineCount := q1
        have q2 : z16 = x3_lines := q2
        have q3 : z17 = x3_change := q3
        have q4 : Kn _ z18 z19 := q4
        unfold fX6_edge_s18
        refine Sf.ite (fun hc => Sf.inr ⟨q1, q2, q3, q4⟩) (fun hc => ?_)
        rw [q1, q2, q3]
        have p0 : 0 ≤ z4 + 1 := by clear q4 hk hf h1 hd; grind
        refine Sf.bind (Sf.and (sX0_worthIn hn j1 j2 j3 h_x5_steps h_x5_nodes h_x5_stepCount h_x5_open h_x5_openCount j4 m1 m2 m3 m4 m5 m6 m7 m8 m9 h_x3_lineCount h_x3_goodsCount h_x3_workCount h_x3_years h_x3_lines h_x3_goods h_x3_works h_x3_change h_x3_coin hp6) (worthInC hn j1 j2 j3 h_x5_steps h_x5_nodes h_x5_stepCount h_x5_open h_x5_openCount j4 m1 m2 m3 m4 m5 m6 m7 m8 m9 h_x3_lineCount h_x3_goodsCount h_x3_workCount h_x3_years h_x3_lines h_x3_goods h_x3_works h_x3_change h_x3_coin hf q4 hpl hd.2)) ?_
        rintro ⟨v76, ⟨g78, g79, g80, g81, g82, g83, g84, g85⟩, ⟨g87, g88, g89, g90, g91, g92, g93, g94, g95, g96⟩, ⟨g98, g99, g100, g101, g102⟩⟩ ⟨⟨b1, b2, b3, b4, b5, b6, b7, b8, b9, b10, b11, b12, b13, b14, b15, b16⟩, e55, r1, r2, r3, r4⟩
        try dsimp only [u8, u10, u5]
        refine Sf.ite (fun hle => ?_) (fun hle => ?_)
        · exact Sf.inl ⟨p0, ⟨⟨b1, b2, b3, b4⟩, b5, b6, b7, b8, b9, b10, b11, b12, b13⟩, r1, r2, r3, r4⟩ (muUp_lt' (B := 31) (by clear q4 hk hf h1 hd r4 e55; grind))
        · exact Sf.inr ⟨r1, r2, r3, r4⟩
      · exact ⟨(show (0 : Int32) ≤ 1 by decide), ⟨⟨h_x5_edgeA, h_x5_edgeB, h_x5_edgeLine, h_x5_edgeCount⟩, h_x2_lineCount, h_x2_goodsCount, h_x2_workCount, h_x2_years, h_x2_lines, h_x2_goods, h_x2_works, h_x2_change, h_x2_coin⟩, rfl, rfl, rfl, hk⟩
    · rintro ⟨w29, w30, w31, w32, w33, w34, w35, w36, w37, w38, w39, w40, w41, w42, w43, w44, w45, w46, w47, w48, w49, w50, w51, w52⟩ h
      exact Sf.ok h
    · rintro ⟨w30, w31, w32, w33, w34, w35, w36, w37, w38, w39, w40, w41, w42, w43, w44, w45, w46, w47, w48, w49, w50, w51, w52⟩ h
      exact Sf.ok h
  · refine Sf.bind refC ?_
    rintro ⟨v, g⟩ e
    exact Sf.ok ⟨rfl, rfl, rfl, hk⟩
theorem kGap {n : Nat} {x0_refused : (Nat → Int32)} {x0_isKept : Int32} {x0_gone : Int32} {x0_spent : Int32} {x1_gained : Nat → Int32} {x2_lineCount : Int32} {x2_goodsCount : Int32} {x2_workCount : Int32} {x2_years : Int32} {x2_lines : (Nat → Int32)} {x2_goods : (Nat → Int32)} {x2_works : (Nat → Int32)} {x2_change : (Nat → Int32)} {x2_coin : (Nat → Int32)} {x2_knownFree : (Nat → Int32)} {x2_isKnown : Int32} {x3_lineCount : Int32} {x3_goodsCount : Int32} {x3_workCount : Int32} {x3_years : Int32} {x3_lines : (Nat → Int32)} {x3_goods : (Nat → Int32)} {x3_works : (Nat → Int32)} {x3_change : (Nat → Int32)} {x3_coin : (Nat → Int32)} {x3_knownFree : (Nat → Int32)} {x3_isKnown : Int32} {x4_lineCount : Int32} {x4_goodsCount : Int32} {x4_workCount : Int32} {x4_years : Int32} {x4_lines : (Nat → Int32)} {x4_goods : (Nat → Int32)} {x4_works : (Nat → Int32)} {x4_change : (Nat → Int32)} {x4_coin : (Nat → Int32)} {x4_knownFree : (Nat → Int32)} {x4_isKnown : Int32} {x5_left : (Nat → Int32)} {x5_earned : (Nat → Int32)} {x5_turnCost : Int32} {x5_turnWayless : Int32} {x6_edgeA : (Nat → Int32)} {x6_edgeB : (Nat → Int32)} {x6_edgeCost : (Nat → Int32)} {x6_edgeLine : (Nat → Int32)} {x6_change : (Nat → Int32)} {x6_away : (Nat → Int32)} {x6_steps : (Nat → Int32)} {x6_nodes : (Nat → Int32)} {x6_stepCount : Int32} {x6_open : (Nat → Int32)} {x6_openCount : Int32} {x6_seen : Int64} {x6_edgeCount : Int32} {x6_aim : Int32} (hn : 1000000000000 ≤ n) (h_x2_lineCount : (0 ≤ x2_lineCount ∧ x2_lineCount ≤ 20)) (h_x2_goodsCount : (0 ≤ x2_goodsCount ∧ x2_goodsCount ≤ 8)) (h_x2_workCount : (0 ≤ x2_workCount ∧ x2_workCount ≤ 7)) (h_x2_years : (1 ≤ x2_years ∧ x2_years ≤ 30)) (h_x2_lines : (LnOk x2_lines)) (h_x2_goods : (GdOk x2_goods)) (h_x2_works : (WkOk x2_works)) (h_x2_change : (AI 0 99 x2_change)) (h_x2_coin : (AI 0 9 x2_coin)) (h_x3_lineCount : (0 ≤ x3_lineCount ∧ x3_lineCount ≤ 20)) (h_x3_goodsCount : (0 ≤ x3_goodsCount ∧ x3_goodsCount ≤ 8)) (h_x3_workCount : (0 ≤ x3_workCount ∧ x3_workCount ≤ 7)) (h_x3_years : (1 ≤ x3_years ∧ x3_years ≤ 30)) (h_x3_lines : (LnOk x3_lines)) (h_x3_goods : (GdOk x3_goods)) (h_x3_works : (WkOk x3_works)) (h_x3_change : (AI 0 99 x3_change)) (h_x3_coin : (AI 0 9 x3_coin)) (h_x4_lineCount : (0 ≤ x4_lineCount ∧ x4_lineCount ≤ 20)) (h_x4_goodsCount : (0 ≤ x4_goodsCount ∧ x4_goodsCount ≤ 8)) (h_x4_workCount : (0 ≤ x4_workCount ∧ x4_workCount ≤ 7)) (h_x4_years : (1 ≤ x4_years ∧ x4_years ≤ 30)) (h_x4_lines : (LnOk x4_lines)) (h_x4_goods : (GdOk x4_goods)) (h_x4_works : (WkOk x4_works)) (h_x4_change : (AI 0 99 x4_change)) (h_x4_coin : (AI 0 9 x4_coin)) (h_x6_edgeA : (AI 0 35 x6_edgeA)) (h_x6_edgeB : (AI 0 35 x6_edgeB)) (h_x6_edgeLine : (AI 0 19 x6_edgeLine)) (h_x6_steps : (AI 0 22 x6_steps)) (h_x6_nodes : (AI 0 35 x6_nodes)) (h_x6_stepCount : (0 ≤ x6_stepCount ∧ x6_stepCount ≤ 36)) (h_x6_open : (AI 0 35 x6_open)) (h_x6_openCount : (0 ≤ x6_openCount ∧ x6_openCount ≤ 36)) (h_x6_edgeCount : (0 ≤ x6_edgeCount ∧ x6_edgeCount ≤ 60)) (hf : ∀ k, k < x4_workCount.toNatClampNeg → Wf1 (ro 5 x4_works) x4_lineCount k) (hk : Kn (FrS x4_lineCount (ro 7 x4_lines) x4_change x4_coin (ro 3 x4_goods) x4_goodsCount (ro 5 x4_works) x4_workCount) x4_knownFree x4_isKnown) : Sf (fX6_gap n (x0_refused, x0_isKept, x0_gone, x0_spent) x1_gained (x2_lineCount, x2_goodsCount, x2_workCount, x2_years, x2_lines, x2_goods, x2_works, x2_change, x2_coin, x2_knownFree, x2_isKnown) (x3_lineCount, x3_goodsCount, x3_workCount, x3_years, x3_lines, x3_goods, x3_works, x3_change, x3_coin, x3_knownFree, x3_isKnown) (x4_lineCount, x4_goodsCount, x4_workCount, x4_years, x4_lines, x4_goods, x4_works, x4_change, x4_coin, x4_knownFree, x4_isKnown) (x5_left, x5_earned, x5_turnCost, x5_turnWayless) (x6_edgeA, x6_edgeB, x6_edgeCost, x6_edgeLine, x6_change, x6_away, x6_steps, x6_nodes, x6_stepCount, x6_open, x6_openCount, x6_seen, x6_edgeCount, x6_aim)) (fun r => FwQ (FrS x4_lineCount (ro 7 x4_lines) x4_change x4_coin (ro 3 x4_goods) x4_goodsCount (ro 5 x4_works) x4_workCount) x4_lineCount x4_lines x4_change r.2.2.2.1) := by
  unfold fX6_gap
  dsimp only [u4, u14, u11]
  refine Sf.bind (sX0_greedyOf hn h_x2_lineCount h_x2_goodsCount h_x2_workCount h_x2_years h_x2_lines h_x2_goods h_x2_works h_x2_change h_x2_coin h_x6_edgeA h_x6_edgeB h_x6_edgeLine h_x6_steps h_x6_nodes h_x6_stepCount h_x6_open h_x6_openCount h_x6_edgeCount h_x3_lineCount h_x3_goodsCount h_x3_workCount h_x3_years h_x3_lines h_x3_goods h_x3_works h_x3_change h_x3_coin h_x4_lineCount h_x4_goodsCount h_x4_workCount h_x4_years h_x4_lines h_x4_goods h_x4_works h_x4_change h_x4_coin) ?_
  rintro ⟨v1, ⟨g3, g4, g5, g6, g7, g8, g9, g10, g11, g12, g13⟩, ⟨g15, g16, g17, g18, g19, g20, g21, g22⟩, ⟨g24, g25, g26, g27, g28, g29, g30, g31, g32, g33⟩⟩ hg
  try dsimp only [u11, u8, u10]
  have hb := hg
  obtain ⟨y1, y2, y3, y4, y5, y6, y7, y8, y9, b1, b2, b3, b4, b5, b6, b7, b8, b9, b10, b11, b12, b13⟩ := hb
  refine Sf.bind (Sf.and (sX0_totalOf hn b1 b2 b3 h_x6_steps h_x6_nodes h_x6_stepCount h_x6_open h_x6_openCount b4 b5 b6 b7 b8 b9 b10 b11 b12 b13 h_x4_lineCount h_x4_goodsCount h_x4_workCount h_x4_years h_x4_lines h_x4_goods h_x4_works h_x4_change h_x4_coin) (totalOfC hn b1 b2 b3 h_x6_steps h_x6_nodes h_x6_stepCount h_x6_open h_x6_openCount b4 b5 b6 b7 b8 b9 b10 b11 b12 b13 h_x4_lineCount h_x4_goodsCount h_x4_workCount h_x4_years h_x4_lines h_x4_goods h_x4_works h_x4_change h_x4_coin hf hk)) ?_
  rintro ⟨v35, ⟨g37, g38, g39, g40, g41, g42, g43, g44⟩, ⟨g46, g47, g48, g49, g50, g51, g52, g53, g54, g55⟩, ⟨g57, g58, g59, g60, g61⟩⟩ ⟨⟨c1, c2, c3, c4, c5, c6, c7, c8, c9, c10, c11, c12, c13, c14, c15, c16⟩, _, r1, r2, r3, r4⟩
  have r1 : g57 = x4_lineCount := r1
  have r2 : g58 = x4_lines := r2
  have r3 : g59 = x4_change := r3
  have r4 : Kn _ g60 g61 := r4
  try dsimp only [u8, u10, u5]
  rw [r1, r2, r3]
  refine Sf.bind (Sf.and (sX0_bestOf hn c1 c2 c3 h_x6_steps h_x6_nodes h_x6_stepCount h_x6_open h_x6_openCount c4 c5 c6 c7 c8 c9 c10 c11 c12 c13 h_x4_lineCount h_x4_goodsCount h_x4_workCount h_x4_years h_x4_lines h_x4_goods h_x4_works h_x4_change h_x4_coin) (bestOfK hn c1 c2 c3 h_x6_steps h_x6_nodes h_x6_stepCount h_x6_open h_x6_openCount c4 c5 c6 c7 c8 c9 c10 c11 c12 c13 h_x4_lineCount h_x4_goodsCount h_x4_workCount h_x4_years h_x4_lines h_x4_goods h_x4_works h_x4_change h_x4_coin hf r4)) ?_
  rintro ⟨v63, ⟨g65, g66, g67, g68, g69, g70, g71, g72⟩, ⟨g74, g75, g76, g77, g78, g79, g80, g81, g82, g83⟩, ⟨g85, g86, g87, g88, g89⟩⟩ ⟨hbst, s1, s2, s3, s4⟩
  obtain ⟨d1, d2, d3, d4, d5, d6, d7, d8, d9, d10, d11, d12, d13, _⟩ := hbst
  have s1 : g85 = x4_lineCount := s1
  have s2 : g86 = x4_lines := s2
  have s3 : g87 = x4_change := s3
  have s4 : Kn _ g88 g89 := s4
  try dsimp only [u8, u10, u5]
  rw [s1, s2, s3]
  refine Sf.bind (totalOfC hn d1 d2 d3 h_x6_steps h_x6_nodes h_x6_stepCount h_x6_open h_x6_openCount d4 d5 d6 d7 d8 d9 d10 d11 d12 d13 h_x4_lineCount h_x4_goodsCount h_x4_workCount h_x4_years h_x4_lines h_x4_goods h_x4_works h_x4_change h_x4_coin hf s4) ?_
  rintro ⟨v91, ⟨g93, g94, g95, g96, g97, g98, g99, g100⟩, ⟨g102, g103, g104, g105, g106, g107, g108, g109, g110, g111⟩, ⟨g113, g114, g115, g116, g117⟩⟩ ⟨_, q⟩
  exact Sf.ok q
end
section
/-! two readers of one tape: tokens -/
def Sf2 {α β : Type} (x : Option α) (y : Option β) (R : α → β → Prop) : Prop := ∃ a b, x = some a ∧ y = some b ∧ R a b
theorem Sf2.ok {α β : Type} {a : α} {b : β} {R : α → β → Prop} (h : R a b) : Sf2 (some a) (some b) R := ⟨a, b, rfl, rfl, h⟩
theorem Sf2.bind {α β γ δ : Type} {x : Option α} {y : Option β} {R : α → β → Prop} {f : α → Option γ} {g : β → Option δ} {S : γ → δ → Prop} (h : Sf2 x y R) (k : ∀ a b, R a b → Sf2 (f a) (g b) S) : Sf2 (x.bind f) (y.bind g) S := by
  obtain ⟨a, b, e1, e2, r⟩ := h
  rw [e1, e2]
  exact k a b r
theorem Sf2.l {α γ δ : Type} {x : Option α} {P : α → Prop} {f : α → Option γ} {y : Option δ} {S : γ → δ → Prop} (h : Sf x P) (k : ∀ a, P a → Sf2 (f a) y S) : Sf2 (x.bind f) y S := by
  obtain ⟨a, e1, r⟩ := h
  rw [e1]
  exact k a r
theorem Sf2.r {α γ δ : Type} {x : Option α} {P : α → Prop} {f : α → Option γ} {y : Option δ} {S : δ → γ → Prop} (h : Sf x P) (k : ∀ a, P a → Sf2 y (f a) S) : Sf2 y (x.bind f) S := by
  obtain ⟨a, e1, r⟩ := h
  rw [e1]
  exact k a r
theorem Sf2.iteL {γ δ : Type} {c : Prop} [inst : Decidable c] {a b : Option γ} {y : Option δ} {S : γ → δ → Prop} (h1 : c → Sf2 a y S) (h2 : ¬ c → Sf2 b y S) : Sf2 (if c then a else b) y S := by
  by_cases h : c
  · rw [if_pos h]; exact h1 h
  · rw [if_neg h]; exact h2 h
theorem Sf2.iteR {γ δ : Type} {c : Prop} [inst : Decidable c] {a b : Option γ} {y : Option δ} {S : δ → γ → Prop} (h1 : c → Sf2 y a S) (h2 : ¬ c → Sf2 y b S) : Sf2 y (if c then a else b) S := by
  by_cases h : c
  · rw [if_pos h]; exact h1 h
  · rw [if_neg h]; exact h2 h
theorem Sf2.ite {γ δ : Type} {c c' : Prop} [inst : Decidable c] [inst2 : Decidable c'] {a b : Option γ} {a' b' : Option δ} {S : γ → δ → Prop} (hc : c ↔ c') (h1 : c → Sf2 a a' S) (h2 : ¬ c → Sf2 b b' S) : Sf2 (if c then a else b) (if c' then a' else b') S := by
  by_cases h : c
  · rw [if_pos h, if_pos (hc.mp h)]; exact h1 h
  · rw [if_neg h, if_neg (fun q => h (hc.mpr q))]; exact h2 h
theorem Sf2.mono {α β : Type} {x : Option α} {y : Option β} {R S : α → β → Prop} (h : Sf2 x y R) (k : ∀ a b, R a b → S a b) : Sf2 x y S := by
  obtain ⟨a, b, e1, e2, r⟩ := h
  exact ⟨a, b, e1, e2, k a b r⟩
theorem Sf2.of {α β : Type} {x : Option α} {y : Option β} {P : α → Prop} {Q : β → Prop} {R : α → β → Prop} (hx : Sf x P) (hy : Sf y Q) (k : ∀ a b, P a → Q b → R a b) : Sf2 x y R := by
  obtain ⟨a, e1, p⟩ := hx
  obtain ⟨b, e2, q⟩ := hy
  exact ⟨a, b, e1, e2, k a b p q⟩
theorem Sf2.andL {α β : Type} {x : Option α} {y : Option β} {R : α → β → Prop} {P : α → Prop} (h : Sf2 x y R) (hx : Sf x P) : Sf2 x y (fun a b => R a b ∧ P a) := by
  obtain ⟨a, b, e1, e2, r⟩ := h
  exact ⟨a, b, e1, e2, r, hx.at e1⟩
/-- how far a run of signs goes -/
def Adv (P : Nat → Prop) (sz a e : Nat) : Prop := a ≤ e ∧ e ≤ sz ∧ (∀ i, a ≤ i → i < e → P i) ∧ (e = sz ∨ ¬ P e)
theorem Adv.uniq {P : Nat → Prop} {sz a e e' : Nat} (h : Adv P sz a e) (h' : Adv P sz a e') : e = e' := by
  obtain ⟨a1, a2, a3, a4⟩ := h
  obtain ⟨b1, b2, b3, b4⟩ := h'
  rcases Nat.lt_trichotomy e e' with h | h | h
  · rcases a4 with e1 | e1
    · omega
    · exact absurd (b3 e a1 h) e1
  · exact h
  · rcases b4 with e1 | e1
    · omega
    · exact absurd (a3 e' b1 h) e1
theorem Adv.next {P : Nat → Prop} {sz a e : Nat} (h : Adv P sz a e) (ha : a < sz) (hp : P a) : Adv P sz (a + 1) e := by
  obtain ⟨a1, a2, a3, a4⟩ := h
  refine ⟨?_, a2, fun i hi => a3 i (by omega), a4⟩
  rcases Nat.lt_or_ge a e with h | h
  · omega
  · have : a = e := by omega
    rcases a4 with e1 | e1
    · omega
    · rw [← this] at e1
      exact absurd hp e1
/-- a loop over single signs -/
theorem advS {n : Nat} {step : Int32 → Option (Int32 ⊕ Int32)} {P : Nat → Prop} {sz z0 : Int32} (hn : 1000000000000 ≤ n) (hs : 0 ≤ sz ∧ sz ≤ 250) (h0 : 0 ≤ z0 ∧ z0 ≤ sz) (h1 : ∀ z, 0 ≤ z → sz ≤ z → step z = some (.inr z)) (h2 : ∀ z, 0 ≤ z → z < sz → (P z.toNatClampNeg ∧ step z = some (.inl (z + 1))) ∨ (¬ P z.toNatClampNeg ∧ step z = some (.inr z))) : Sf (lp step n z0) (fun w => (0 ≤ w ∧ w ≤ sz) ∧ Adv P sz.toNatClampNeg z0.toNatClampNeg w.toNatClampNeg) := by
  have ns := i32_cl hs.1
  have n0 := i32_cl h0.1
  refine Sf.loop (fun z => (0 ≤ z ∧ z ≤ sz) ∧ z0.toNatClampNeg ≤ z.toNatClampNeg ∧ ∀ i, z0.toNatClampNeg ≤ i → i < z.toNatClampNeg → P i) muUp (fun z h => ?_) n z0 ⟨h0, Nat.le_refl _, fun i h1 h2 => absurd h2 (by omega)⟩ (muUp_n hn)
  obtain ⟨i0, i1, i2⟩ := h
  have nz := i32_cl i0.1
  have lz := Int32.le_iff_toInt_le.mp i0.2
  by_cases hc : sz ≤ z
  · rw [h1 z i0.1 hc]
    have e : z = sz := Int32.le_antisymm i0.2 hc
    exact Sf.inr ⟨i0, i1, by omega, i2, Or.inl (by rw [e])⟩
  · obtain ⟨p0, p1, p3⟩ := up1 i0.1 (Int32.le_trans hs.2 (by decide)) hc
    rcases h2 z i0.1 p3 with ⟨hp, e⟩ | ⟨hp, e⟩
    · rw [e]
      refine Sf.inl (show (0 ≤ z + 1 ∧ z + 1 ≤ sz) ∧ z0.toNatClampNeg ≤ (z + 1).toNatClampNeg ∧ ∀ i, z0.toNatClampNeg ≤ i → i < (z + 1).toNatClampNeg → P i from ⟨⟨p0, ?_⟩, by omega, fun i hi hj => ?_⟩) (muUp_lt hc)
      · clear i2 h1 h2 e
        grind
      · rw [p1] at hj
        by_cases hh : i = z.toNatClampNeg
        · rw [hh]; exact hp
        · exact i2 i hi (by omega)
    · rw [e]
      exact Sf.inr ⟨i0, i1, by omega, i2, Or.inr hp⟩
/-- what a sign is -/
def tkc (x : Int32) : Int32 := if x < 97 then (if x < 48 then (if x = 59 then 3 else 4) else if 57 < x then (if x = 59 then 3 else 4) else 2) else if 122 < x then (if x < 48 then (if x = 59 then 3 else 4) else if 57 < x then (if x = 59 then 3 else 4) else 2) else 1
theorem tkc_1 (x : Int32) : tkc x = 1 ↔ ¬ x < 97 ∧ ¬ 122 < x := by
  unfold tkc
  by_cases a : x < 97
  · rw [if_pos a]
    refine ⟨fun h => ?_, fun h => absurd a h.1⟩
    split at h
    · split at h <;> exact absurd h (by decide)
    · split at h
      · split at h <;> exact absurd h (by decide)
      · exact absurd h (by decide)
  · rw [if_neg a]
    by_cases b : 122 < x
    · rw [if_pos b]
      refine ⟨fun h => ?_, fun h => absurd b h.2⟩
      split at h
      · split at h <;> exact absurd h (by decide)
      · split at h
        · split at h <;> exact absurd h (by decide)
        · exact absurd h (by decide)
    · rw [if_neg b]
      exact ⟨fun _ => ⟨a, b⟩, fun _ => rfl⟩
theorem tkc_2 (x : Int32) : tkc x = 2 ↔ ¬ x < 48 ∧ ¬ 57 < x := by
  constructor
  · intro h
    unfold tkc at h
    by_cases a : x < 48
    · exfalso
      rw [if_pos (show x < 97 from Int32.lt_of_lt_of_le a (by decide)), if_pos a] at h
      split at h <;> exact absurd h (by decide)
    · refine ⟨a, fun b => ?_⟩
      rw [if_neg a, if_pos b] at h
      by_cases c : x < 97
      · rw [if_pos c] at h
        split at h <;> exact absurd h (by decide)
      · rw [if_neg c] at h
        by_cases d : 122 < x
        · rw [if_pos d] at h
          split at h <;> exact absurd h (by decide)
        · rw [if_neg d] at h
          exact absurd h (by decide)
  · rintro ⟨a, b⟩
    unfold tkc
    rw [if_pos (show x < 97 from Int32.lt_of_le_of_lt (Int32.not_lt.mp b) (by decide)), if_neg a, if_neg b]
theorem tkc_r (x : Int32) : tkc x = 1 ∨ tkc x = 2 ∨ tkc x = 3 ∨ tkc x = 4 := by
  unfold tkc
  repeat' split
  all_goals first | exact Or.inl rfl | exact Or.inr (Or.inl rfl) | exact Or.inr (Or.inr (Or.inl rfl)) | exact Or.inr (Or.inr (Or.inr rfl))
theorem tokAt {x0_bytes : (Nat → Int32)} {x0_size : Int32} {x0_start : Int32} {x0_end : Int32} {x0_token : Int32} {x0_value : Int32} {p : Int32} (hp : 0 ≤ p) (hs : x0_size ≤ 250) : Sf (fX3_tokenAt (x0_bytes, x0_size, x0_start, x0_end, x0_token, x0_value) p) (fun r => r = if p < x0_size then tkc (x0_bytes p.toNatClampNeg) else 0) := by
  unfold fX3_tokenAt
  dsimp only [u6]
  refine Sf.ite (fun h => ?_) (fun h => Sf.ok (by rw [if_neg h]))
  rw [if_pos h]
  refine Sf.rdb 250 rfl ⟨hp, Int32.lt_of_lt_of_le h hs⟩ (fun v e => ?_)
  rw [← e]
  have j45 : Sf (fX3_tokenAt_j45 v) (fun r => r = if v = 59 then 3 else 4) := by
    unfold fX3_tokenAt_j45
    exact Sf.ite (fun h => Sf.ok (by rw [if_pos h])) (fun h => Sf.ok (by rw [if_neg h]))
  have j31 : Sf (fX3_tokenAt_j31 v) (fun r => r = if v < 48 then (if v = 59 then 3 else 4) else if 57 < v then (if v = 59 then 3 else 4) else 2) := by
    unfold fX3_tokenAt_j31
    refine Sf.ite (fun h => ?_) (fun h => ?_)
    · rw [if_pos h]; exact j45
    · rw [if_neg h]
      refine Sf.ite (fun h => ?_) (fun h => Sf.ok (by rw [if_neg h]))
      rw [if_pos h]; exact j45
  unfold tkc
  refine Sf.ite (fun h => ?_) (fun h => ?_)
  · rw [if_pos h]; exact j31
  · rw [if_neg h]
    refine Sf.ite (fun h => ?_) (fun h => Sf.ok (by rw [if_neg h]))
    rw [if_pos h]; exact j31
theorem isLet (x : Int32) : Sf (fX7_isLetter x) (fun r => r = if tkc x = 1 then 1 else 0) := by
  unfold fX7_isLetter
  refine Sf.ite (fun h => Sf.ok (by rw [if_neg (fun q => ((tkc_1 x).mp q).1 h)])) (fun h => Sf.ite (fun h2 => Sf.ok (by rw [if_neg (fun q => ((tkc_1 x).mp q).2 h2)])) (fun h2 => Sf.ok (by rw [if_pos ((tkc_1 x).mpr ⟨h, h2⟩)])))
theorem isDig (x : Int32) : Sf (fX7_isDigit x) (fun r => r = if tkc x = 2 then 1 else 0) := by
  unfold fX7_isDigit
  refine Sf.ite (fun h => Sf.ok (by rw [if_neg (fun q => ((tkc_2 x).mp q).1 h)])) (fun h => Sf.ite (fun h2 => Sf.ok (by rw [if_neg (fun q => ((tkc_2 x).mp q).2 h2)])) (fun h2 => Sf.ok (by rw [if_pos ((tkc_2 x).mpr ⟨h, h2⟩)])))
/-- the first k figures from s -/
def dI (b : Nat → Int32) (s : Nat) : Nat → Int
  | 0 => 0
  | k + 1 => 10 * dI b s k + (b (s + k)).toInt - 48
theorem dI_b {b : Nat → Int32} {s : Nat} : ∀ k : Nat, (∀ i, s ≤ i → i < s + k → tkc (b i) = 2) → 0 ≤ dI b s k ∧ (k ≤ 1 → dI b s k ≤ 9) ∧ (k ≤ 2 → dI b s k ≤ 99) ∧ (k ≤ 3 → dI b s k ≤ 999)
  | 0, _ => by
    show (0 : Int) ≤ 0 ∧ (0 ≤ 1 → (0 : Int) ≤ 9) ∧ (0 ≤ 2 → (0 : Int) ≤ 99) ∧ (0 ≤ 3 → (0 : Int) ≤ 999)
    omega
  | k + 1, h => by
    have ih := dI_b k (fun i h1 h2 => h i h1 (by omega))
    have d := (tkc_2 _).mp (h (s + k) (by omega) (by omega))
    have d1 := Int32.le_iff_toInt_le.mp (Int32.not_lt.mp d.1)
    have d2 := Int32.le_iff_toInt_le.mp (Int32.not_lt.mp d.2)
    have e1 : (48 : Int32).toInt = 48 := by decide
    have e2 : (57 : Int32).toInt = 57 := by decide
    show 0 ≤ 10 * dI b s k + (b (s + k)).toInt - 48 ∧ (k + 1 ≤ 1 → 10 * dI b s k + (b (s + k)).toInt - 48 ≤ 9) ∧ (k + 1 ≤ 2 → 10 * dI b s k + (b (s + k)).toInt - 48 ≤ 99) ∧ (k + 1 ≤ 3 → 10 * dI b s k + (b (s + k)).toInt - 48 ≤ 999)
    have z : k = 0 → dI b s k = 0 := by rintro rfl; rfl
    refine ⟨by omega, fun h1 => ?_, fun h1 => ?_, fun h1 => ?_⟩
    · have := z (by omega)
      omega
    · have := ih.2.1 (by omega)
      omega
    · have := ih.2.2.1 (by omega)
      omega
theorem valS {n : Nat} {x0_bytes : (Nat → Int32)} {x0_size : Int32} {x0_start : Int32} {x0_end : Int32} {x0_token : Int32} {x0_value : Int32} (hn : 1000000000000 ≤ n) (hs : 0 ≤ x0_start ∧ x0_start ≤ x0_end) (he : x0_end ≤ 250) (hd : ∀ i, x0_start.toNatClampNeg ≤ i → i < x0_end.toNatClampNeg → tkc (x0_bytes i) = 2) : Sf (fX3_valueHere n (x0_bytes, x0_size, x0_start, x0_end, x0_token, x0_value)) (fun r => (x0_end.toNatClampNeg - x0_start.toNatClampNeg ≤ 3 ∧ r.toInt = dI x0_bytes x0_start.toNatClampNeg (x0_end.toNatClampNeg - x0_start.toNatClampNeg)) ∨ (3 < x0_end.toNatClampNeg - x0_start.toNatClampNeg ∧ r = -1)) := by
  have he0 : 0 ≤ x0_end := Int32.le_trans hs.1 hs.2
  have a1 := i32_cl hs.1
  have a2 := i32_cl he0
  have a3 := Int32.le_iff_toInt_le.mp hs.2
  have a4 := Int32.le_iff_toInt_le.mp he
  have e250 : (250 : Int32).toInt = 250 := by decide
  have e3 : (3 : Int32).toInt = 3 := by decide
  have sub : (x0_end - x0_start).toInt = x0_end.toInt - x0_start.toInt := i32_sub (by omega) (by omega)
  unfold fX3_valueHere
  dsimp only [u6]
  refine Sf.ite (fun h => ?_) (fun h => Sf.ok (Or.inr ⟨?_, rfl⟩))
  · have h := Int32.le_iff_toInt_le.mp h
    have hk : x0_end.toNatClampNeg - x0_start.toNatClampNeg ≤ 3 := by omega
    refine Sf.bind (P := fun r => r.toInt = dI x0_bytes x0_start.toNatClampNeg (x0_end.toNatClampNeg - x0_start.toNatClampNeg)) ?_ (fun r hr => Sf.ok (Or.inl ⟨hk, hr⟩))
    refine Sf.loop2 (fun (z2 z3 : Int32) => (x0_start ≤ z3 ∧ z3 ≤ x0_end) ∧ z2.toInt = dI x0_bytes x0_start.toNatClampNeg (z3.toNatClampNeg - x0_start.toNatClampNeg)) (fun z2 z3 => muUp z3) (fun z2 z3 h => ?_) (show (x0_start ≤ x0_start ∧ x0_start ≤ x0_end) ∧ (0 : Int32).toInt = dI x0_bytes x0_start.toNatClampNeg (x0_start.toNatClampNeg - x0_start.toNatClampNeg) from ⟨⟨Int32.le_refl _, hs.2⟩, by rw [Nat.sub_self]; rfl⟩) (muUp_n hn)
    obtain ⟨i0, i1⟩ := h
    have z0 : 0 ≤ z3 := Int32.le_trans hs.1 i0.1
    have b1 := i32_cl z0
    have b2 := Int32.le_iff_toInt_le.mp i0.1
    have b3 := Int32.le_iff_toInt_le.mp i0.2
    unfold fX3_valueHere_s22
    refine Sf.ite (fun hc => ?_) (fun hc => ?_)
    · have e : z3 = x0_end := Int32.le_antisymm i0.2 hc
      rw [e] at i1
      exact Sf.inr i1
    obtain ⟨p0, p1, p3⟩ := up1 z0 (Int32.le_trans he (by decide)) hc
    have lt := Int32.lt_iff_toInt_lt.mp p3
    refine Sf.rdb 250 rfl ⟨z0, Int32.lt_of_lt_of_le p3 he⟩ (fun v6 e6 => ?_)
    have dg := (tkc_2 _).mp (hd z3.toNatClampNeg (by omega) (by omega))
    rw [← e6] at dg
    have d1 := Int32.le_iff_toInt_le.mp (Int32.not_lt.mp dg.1)
    have d2 := Int32.le_iff_toInt_le.mp (Int32.not_lt.mp dg.2)
    have f1 : (48 : Int32).toInt = 48 := by decide
    have f2 : (57 : Int32).toInt = 57 := by decide
    have f3 : (10 : Int32).toInt = 10 := by decide
    have bd := dI_b (b := x0_bytes) (s := x0_start.toNatClampNeg) (z3.toNatClampNeg - x0_start.toNatClampNeg) (fun i h1 h2 => hd i h1 (by omega))
    have bd2 := bd.2.2.1 (by omega)
    have m1 : (10 * z2).toInt = 10 * z2.toInt := by rw [i32_mul (by rw [f3]; omega) (by rw [f3]; omega), f3]
    have m2 : (10 * z2 + v6).toInt = 10 * z2.toInt + v6.toInt := by rw [i32_add (by omega) (by omega), m1]
    have m3 : (10 * z2 + v6 - 48).toInt = 10 * z2.toInt + v6.toInt - 48 := by rw [i32_sub (by omega) (by omega), m2, f1]
    refine Sf.inl (show (x0_start ≤ z3 + 1 ∧ z3 + 1 ≤ x0_end) ∧ (10 * z2 + v6 - 48).toInt = dI x0_bytes x0_start.toNatClampNeg ((z3 + 1).toNatClampNeg - x0_start.toNatClampNeg) from ⟨⟨?_, ?_⟩, ?_⟩) (muUp_lt hc)
    · have q := i32_cl p0
      exact Int32.le_iff_toInt_le.mpr (by omega)
    · have q := i32_cl p0
      exact Int32.le_iff_toInt_le.mpr (by omega)
    · rw [m3, p1, show z3.toNatClampNeg + 1 - x0_start.toNatClampNeg = (z3.toNatClampNeg - x0_start.toNatClampNeg) + 1 by omega]
      show _ = 10 * dI x0_bytes x0_start.toNatClampNeg (z3.toNatClampNeg - x0_start.toNatClampNeg) + (x0_bytes (x0_start.toNatClampNeg + (z3.toNatClampNeg - x0_start.toNatClampNeg))).toInt - 48
      rw [show x0_start.toNatClampNeg + (z3.toNatClampNeg - x0_start.toNatClampNeg) = z3.toNatClampNeg by omega, ← e6, i1]
  · refine Nat.lt_of_not_le (fun hh => h (Int32.le_iff_toInt_le.mpr ?_))
    omega
end
section
/-! next() and look() -/
def TkQ (b : Nat → Int32) (sz en s e t : Int32) (no : Prop) (val : Nat → Nat → Prop) : Prop :=
  ((0 ≤ s ∧ s ≤ sz) ∧ Adv (fun i => b i = 32) sz.toNatClampNeg en.toNatClampNeg s.toNatClampNeg) ∧
  ((s = sz ∧ t = 0 ∧ e = s ∧ no) ∨ (s < sz ∧ t = tkc (b s.toNatClampNeg) ∧
    ((t = 1 ∧ (0 ≤ e ∧ e ≤ sz) ∧ Adv (fun i => tkc (b i) = 1) sz.toNatClampNeg (s.toNatClampNeg + 1) e.toNatClampNeg ∧ no) ∨
     (t = 2 ∧ (0 ≤ e ∧ e ≤ sz) ∧ Adv (fun i => tkc (b i) = 2) sz.toNatClampNeg (s.toNatClampNeg + 1) e.toNatClampNeg ∧ val s.toNatClampNeg e.toNatClampNeg) ∨
     (¬ t = 1 ∧ ¬ t = 2 ∧ e = s + 1 ∧ no))))
theorem nn_inj {a b : Int32} (ha : 0 ≤ a) (hb : 0 ≤ b) (h : a.toNatClampNeg = b.toNatClampNeg) : a = b := by
  refine Int32.toInt_inj.mp ?_
  have x := i32_cl ha
  have y := i32_cl hb
  omega
theorem TkQ_eq {b : Nat → Int32} {sz en s e t s' e' t' : Int32} {no no' : Prop} {val val' : Nat → Nat → Prop} (h : TkQ b sz en s e t no val) (h' : TkQ b sz en s' e' t' no' val') : s = s' ∧ e = e' ∧ t = t' ∧ ((¬ t = 2 ∧ no ∧ no') ∨ (t = 2 ∧ val s.toNatClampNeg e.toNatClampNeg ∧ val' s.toNatClampNeg e.toNatClampNeg ∧ s < sz ∧ (∀ i, s.toNatClampNeg ≤ i → i < e.toNatClampNeg → tkc (b i) = 2))) := by
  obtain ⟨⟨a1, a2⟩, a3⟩ := h
  obtain ⟨⟨b1, b2⟩, b3⟩ := h'
  have es : s = s' := nn_inj a1.1 b1.1 (Adv.uniq a2 b2)
  subst es
  rcases a3 with ⟨x1, x2, x3, x4⟩ | ⟨x1, x2, x3⟩ <;> rcases b3 with ⟨y1, y2, y3, y4⟩ | ⟨y1, y2, y3⟩
  · exact ⟨rfl, by rw [x3, y3], by rw [x2, y2], Or.inl ⟨by rw [x2]; decide, x4, y4⟩⟩
  · rw [x1] at y1; exact (Int32.lt_irrefl y1).elim
  · rw [y1] at x1; exact (Int32.lt_irrefl x1).elim
  · have et : t = t' := by rw [x2, y2]
    subst et
    rcases x3 with ⟨c1, c2, c3, c4⟩ | ⟨c1, c2, c3, c4⟩ | ⟨c1, c2, c3, c4⟩ <;> rcases y3 with ⟨d1, d2, d3, d4⟩ | ⟨d1, d2, d3, d4⟩ | ⟨d1, d2, d3, d4⟩
    · exact ⟨rfl, nn_inj c2.1 d2.1 (Adv.uniq c3 d3), rfl, Or.inl ⟨by rw [c1]; decide, c4, d4⟩⟩
    · rw [c1] at d1; exact absurd d1 (by decide)
    · exact absurd c1 d1
    · rw [c1] at d1; exact absurd d1 (by decide)
    · have ee : e = e' := nn_inj c2.1 d2.1 (Adv.uniq c3 d3)
      subst ee
      refine ⟨rfl, rfl, rfl, Or.inr ⟨c1, c4, d4, x1, fun i h1 h2 => ?_⟩⟩
      by_cases hi : i = s.toNatClampNeg
      · rw [hi, ← x2, c1]
      · exact c3.2.2.1 i (by omega) h2
    · exact absurd c1 d2
    · exact absurd d1 c1
    · exact absurd d1 c2
    · exact ⟨rfl, by rw [c3, d3], rfl, Or.inl ⟨c2, c4, d4⟩⟩
def VC (b : Nat → Int32) (v : Int32) (s e : Nat) : Prop := (e - s ≤ 3 ∧ v.toInt = dI b s (e - s)) ∨ (3 < e - s ∧ v = -1)
def VR (b : Nat → Int32) (f : Int64) (s e : Nat) : Prop := (e - s ≤ 3 ∧ f.toInt = dI b s (e - s)) ∨ (3 < e - s ∧ f = 100000)
theorem nextS {n : Nat} {x0_bytes : (Nat → Int32)} {x0_size : Int32} {x0_start : Int32} {x0_end : Int32} {x0_token : Int32} {x0_value : Int32} (hn : 1000000000000 ≤ n) (hs : 0 ≤ x0_size ∧ x0_size ≤ 250) (he : 0 ≤ x0_end ∧ x0_end ≤ x0_size) : Sf (fX3_next n (x0_bytes, x0_size, x0_start, x0_end, x0_token, x0_value)) (fun r => TkQ x0_bytes x0_size x0_end r.1 r.2.1 r.2.2.1 (r.2.2.2 = -1) (VC x0_bytes r.2.2.2)) := by
  unfold fX3_next
  dsimp only [u6]
  refine Sf.bind (advS (P := fun i => x0_bytes i = 32) hn hs he (fun z h0 h => ?_) (fun z h0 h => ?_)) ?_
  · unfold fX3_next_s5
    rw [if_pos h]
  · unfold fX3_next_s5
    rw [if_neg (Int32.not_le.mpr h)]
    obtain ⟨o, eo, ho⟩ : Sf ((rd 250 x0_bytes z).bind fun v23 => if v23 = 32 then (some (.inl (z + 1))) else (some (.inr z))) (fun r => r = if x0_bytes z.toNatClampNeg = 32 then (.inl (z + 1) : Int32 ⊕ Int32) else .inr z) := by
      refine Sf.rdb 250 rfl ⟨h0, Int32.lt_of_lt_of_le h hs.2⟩ (fun v e => ?_)
      rw [← e]
      exact Sf.ite (fun h => Sf.ok (by rw [if_pos h])) (fun h => Sf.ok (by rw [if_neg h]))
    rw [eo, ho]
    by_cases hh : x0_bytes z.toNatClampNeg = 32
    · exact Or.inl ⟨hh, by rw [if_pos hh]⟩
    · exact Or.inr ⟨hh, by rw [if_neg hh]⟩
  intro w4 ⟨hw, hA⟩
  have adv : ∀ (q v5 y7 : Int32), v5 = q → 0 ≤ y7 ∧ y7 ≤ x0_size → ∀ z, 0 ≤ z → (x0_size ≤ z → (if x0_size ≤ z then (some (.inr z)) else ((fX3_tokenAt (x0_bytes, x0_size, w4, x0_end, v5, x0_value) z).bind (fun v15 => if v15 = v5 then (some (.inl (z + 1))) else (some (.inr z)))) : Option (Int32 ⊕ Int32)) = some (.inr z)) ∧ (z < x0_size → (tkc (x0_bytes z.toNatClampNeg) = q ∧ (if x0_size ≤ z then (some (.inr z)) else ((fX3_tokenAt (x0_bytes, x0_size, w4, x0_end, v5, x0_value) z).bind (fun v15 => if v15 = v5 then (some (.inl (z + 1))) else (some (.inr z)))) : Option (Int32 ⊕ Int32)) = some (.inl (z + 1))) ∨ (¬ tkc (x0_bytes z.toNatClampNeg) = q ∧ (if x0_size ≤ z then (some (.inr z)) else ((fX3_tokenAt (x0_bytes, x0_size, w4, x0_end, v5, x0_value) z).bind (fun v15 => if v15 = v5 then (some (.inl (z + 1))) else (some (.inr z)))) : Option (Int32 ⊕ Int32)) = some (.inr z))) := by
    intro q v5 y7 hq hy z h0
    refine ⟨fun h => if_pos h, fun h => ?_⟩
    rw [if_neg (Int32.not_le.mpr h)]
    obtain ⟨o, eo, ho⟩ := tokAt (x0_bytes := x0_bytes) (x0_size := x0_size) (x0_start := w4) (x0_end := x0_end) (x0_token := v5) (x0_value := x0_value) (p := z) h0 hs.2
    rw [if_pos h] at ho
    rw [eo, ho, hq]
    show (tkc (x0_bytes z.toNatClampNeg) = q ∧ (if tkc (x0_bytes z.toNatClampNeg) = q then (some (.inl (z + 1)) : Option (Int32 ⊕ Int32)) else (some (.inr z))) = some (.inl (z + 1))) ∨ (¬ tkc (x0_bytes z.toNatClampNeg) = q ∧ (if tkc (x0_bytes z.toNatClampNeg) = q then (some (.inl (z + 1)) : Option (Int32 ⊕ Int32)) else (some (.inr z))) = some (.inr z))
    by_cases hh : tkc (x0_bytes z.toNatClampNeg) = q
    · exact Or.inl ⟨hh, if_pos hh⟩
    · exact Or.inr ⟨hh, if_neg hh⟩
  refine Sf.bind (tokAt hw.1 hs.2) (fun v5 e5 => ?_)
  refine Sf.ite (fun h0 => ?_) (fun h0 => ?_)
  · have hsz : ¬ w4 < x0_size := by
      intro h
      rw [if_pos h] at e5
      rcases tkc_r (x0_bytes w4.toNatClampNeg) with q | q | q | q <;> rw [e5, q] at h0 <;> exact absurd h0 (by decide)
    have ew : w4 = x0_size := Int32.le_antisymm hw.2 (Int32.not_lt.mp hsz)
    unfold fX3_next_j54
    rw [if_neg (by rw [h0]; decide), if_neg (by rw [h0]; decide)]
    unfold fX3_next_j96
    rw [if_neg (by rw [h0]; decide)]
    exact Sf.ok ⟨⟨hw, hA⟩, Or.inl ⟨ew, h0, rfl, rfl⟩⟩
  · have hsz : w4 < x0_size := by
      refine Classical.byContradiction fun h => ?_
      rw [if_neg h] at e5
      exact h0 e5
    rw [if_pos hsz] at e5
    obtain ⟨p0, p1, _⟩ := up1 hw.1 (B := x0_size) (Int32.le_trans hs.2 (by decide)) (Int32.not_le.mpr hsz)
    have hy : 0 ≤ w4 + 1 ∧ w4 + 1 ≤ x0_size := ⟨p0, by clear adv hA e5; grind⟩
    unfold fX3_next_j54
    refine Sf.ite (fun h1 => ?_) (fun h1 => ?_)
    · refine Sf.bind (advS (P := fun i => tkc (x0_bytes i) = 1) hn hs hy (fun z hz h => (adv 1 v5 (w4 + 1) h1 hy z hz).1 h) (fun z hz h => (adv 1 v5 (w4 + 1) h1 hy z hz).2 h)) ?_
      intro w14 ⟨hv, hB⟩
      unfold fX3_next_j96
      rw [if_neg (by rw [h1]; decide)]
      rw [p1] at hB
      exact Sf.ok ⟨⟨hw, hA⟩, Or.inr ⟨hsz, e5, Or.inl ⟨h1, hv, hB, rfl⟩⟩⟩
    refine Sf.ite (fun h2 => ?_) (fun h2 => ?_)
    · refine Sf.bind (advS (P := fun i => tkc (x0_bytes i) = 2) hn hs hy (fun z hz h => (adv 2 v5 (w4 + 1) h2 hy z hz).1 h) (fun z hz h => (adv 2 v5 (w4 + 1) h2 hy z hz).2 h)) ?_
      intro w20 ⟨hv, hB⟩
      unfold fX3_next_j96
      rw [if_pos h2]
      rw [p1] at hB
      have le : w4 ≤ w20 := by
        have a := i32_cl hw.1
        have c := i32_cl hv.1
        have d := hB.1
        exact Int32.le_iff_toInt_le.mpr (by omega)
      refine Sf.bind (valS hn ⟨hw.1, le⟩ (Int32.le_trans hv.2 hs.2) (fun i h1 h3 => ?_)) (fun v9 h9 => ?_)
      · by_cases hi : i = w4.toNatClampNeg
        · rw [hi, ← e5, h2]
        · exact hB.2.2.1 i (by omega) h3
      · exact Sf.ok ⟨⟨hw, hA⟩, Or.inr ⟨hsz, e5, Or.inr (Or.inl ⟨h2, hv, hB, h9⟩)⟩⟩
    · unfold fX3_next_j96
      rw [if_neg h2]
      exact Sf.ok ⟨⟨hw, hA⟩, Or.inr ⟨hsz, e5, Or.inr (Or.inr ⟨h1, h2, rfl, rfl⟩)⟩⟩
theorem bm64 {x : Int} (h : -1000000 ≤ x) (h2 : x < 1000000) : x.bmod (2 ^ 64) = x := by
  have e : (2 ^ 64 : Nat) = 18446744073709551616 := by decide
  rw [e]
  simp only [Int.bmod]
  omega
/-- the reference's figures -/
theorem digR {n : Nat} {b : Nat → Int32} {sz w4 : Int32} (hn : 1000000000000 ≤ n) (hs : 0 ≤ sz ∧ sz ≤ 250) (hw : 0 ≤ w4 ∧ w4 ≤ sz) : Sf (lp (u2 (fX7_look_s149 b sz w4)) n (w4, (0 : Int64))) (fun r => (0 ≤ r.1 ∧ r.1 ≤ sz) ∧ Adv (fun i => tkc (b i) = 2) sz.toNatClampNeg w4.toNatClampNeg r.1.toNatClampNeg ∧ VR b r.2 w4.toNatClampNeg r.1.toNatClampNeg) := by
  have e250 : (250 : Int32).toInt = 250 := by decide
  have e3 : (3 : Int32).toInt = 3 := by decide
  have nw := i32_cl hw.1
  have ns := i32_cl hs.1
  refine Sf.loop2 (fun (z14 : Int32) (z15 : Int64) => (w4 ≤ z14 ∧ z14 ≤ sz) ∧ (∀ i, w4.toNatClampNeg ≤ i → i < z14.toNatClampNeg → tkc (b i) = 2) ∧ VR b z15 w4.toNatClampNeg z14.toNatClampNeg) (fun z14 z15 => muUp z14) (fun z14 z15 h => ?_) (show (w4 ≤ w4 ∧ w4 ≤ sz) ∧ (∀ i, w4.toNatClampNeg ≤ i → i < w4.toNatClampNeg → tkc (b i) = 2) ∧ VR b 0 w4.toNatClampNeg w4.toNatClampNeg from ⟨⟨Int32.le_refl _, hw.2⟩, fun i h1 h2 => absurd h2 (by omega), Or.inl ⟨by omega, by rw [Nat.sub_self]; rfl⟩⟩) (muUp_n hn)
  obtain ⟨i0, i1, i2⟩ := h
  have z0 : 0 ≤ z14 := Int32.le_trans hw.1 i0.1
  have nz := i32_cl z0
  have b1 := Int32.le_iff_toInt_le.mp i0.1
  have b2 := Int32.le_iff_toInt_le.mp i0.2
  have b3 := Int32.le_iff_toInt_le.mp hs.2
  have sub : (z14 - w4).toInt = z14.toInt - w4.toInt := i32_sub (by omega) (by omega)
  unfold fX7_look_s149
  refine Sf.ite (fun hc => ?_) (fun hc => ?_)
  · have e : z14 = sz := Int32.le_antisymm i0.2 hc
    exact Sf.inr (show (0 ≤ z14 ∧ z14 ≤ sz) ∧ Adv (fun i => tkc (b i) = 2) sz.toNatClampNeg w4.toNatClampNeg z14.toNatClampNeg ∧ VR b z15 w4.toNatClampNeg z14.toNatClampNeg from ⟨⟨z0, i0.2⟩, ⟨by omega, by omega, i1, Or.inl (by rw [e])⟩, i2⟩)
  obtain ⟨p0, p1, p3⟩ := up1 z0 (Int32.le_trans hs.2 (by decide)) hc
  have hz1 : z14 + 1 ≤ sz := by clear i1 i2; grind
  have hz2 : w4 ≤ z14 + 1 := by
    have q := i32_cl p0
    exact Int32.le_iff_toInt_le.mpr (by omega)
  have hi : 0 ≤ z14 ∧ z14 < 250 := ⟨z0, Int32.lt_of_lt_of_le p3 hs.2⟩
  refine Sf.rdb 250 rfl hi (fun v19 e19 => ?_)
  refine Sf.bind (isDig v19) (fun v20 e20 => ?_)
  rw [e19] at e20
  refine Sf.ite (fun hv => ?_) (fun hv => ?_)
  · have hno : ¬ tkc (b z14.toNatClampNeg) = 2 := by
      intro h
      rw [if_pos h] at e20
      rw [e20] at hv
      exact absurd hv (by decide)
    exact Sf.inr (show (0 ≤ z14 ∧ z14 ≤ sz) ∧ Adv (fun i => tkc (b i) = 2) sz.toNatClampNeg w4.toNatClampNeg z14.toNatClampNeg ∧ VR b z15 w4.toNatClampNeg z14.toNatClampNeg from ⟨⟨z0, i0.2⟩, ⟨by omega, by omega, i1, Or.inr hno⟩, i2⟩)
  have hyes : tkc (b z14.toNatClampNeg) = 2 := by
    refine Classical.byContradiction fun h => ?_
    rw [if_neg h] at e20
    exact hv e20
  have all : ∀ i, w4.toNatClampNeg ≤ i → i < (z14 + 1).toNatClampNeg → tkc (b i) = 2 := by
    intro i h1 h2
    rw [p1] at h2
    by_cases hi : i = z14.toNatClampNeg
    · rw [hi]; exact hyes
    · exact i1 i h1 (by omega)
  refine Sf.ite (fun h3 => ?_) (fun h3 => ?_)
  · have h3 := Int32.le_iff_toInt_le.mp h3
    unfold fX7_look_j218
    refine Sf.inl (show (w4 ≤ z14 + 1 ∧ z14 + 1 ≤ sz) ∧ (∀ i, w4.toNatClampNeg ≤ i → i < (z14 + 1).toNatClampNeg → tkc (b i) = 2) ∧ VR b 100000 w4.toNatClampNeg (z14 + 1).toNatClampNeg from ⟨⟨hz2, hz1⟩, all, Or.inr ⟨by omega, rfl⟩⟩) (muUp_lt hc)
  · have h3 := Int32.lt_iff_toInt_lt.mp (Int32.not_le.mp h3)
    refine Sf.rdb 250 rfl hi (fun v23 e23 => ?_)
    unfold fX7_look_j218
    have hf : z15.toInt = dI b w4.toNatClampNeg (z14.toNatClampNeg - w4.toNatClampNeg) := by
      rcases i2 with h | h
      · exact h.2
      · exact absurd h.1 (by omega)
    have bd := dI_b (b := b) (s := w4.toNatClampNeg) (z14.toNatClampNeg - w4.toNatClampNeg) (fun i h1 h2 => i1 i h1 (by omega))
    have bd2 := bd.2.2.1 (by omega)
    have dg := (tkc_2 _).mp hyes
    have d1 := Int32.le_iff_toInt_le.mp (Int32.not_lt.mp dg.1)
    have d2 := Int32.le_iff_toInt_le.mp (Int32.not_lt.mp dg.2)
    have f1 : (48 : Int32).toInt = 48 := by decide
    have f2 : (57 : Int32).toInt = 57 := by decide
    have f3 : (10 : Int64).toInt = 10 := by decide
    have f4 : (48 : Int64).toInt = 48 := by decide
    have m1 : (z15 * (10 : Int64)).toInt = z15.toInt * 10 := by rw [Int64.toInt_mul, f3, bm64 (by omega) (by omega)]
    have m2 : (z15 * (10 : Int64) + v23.toInt64).toInt = z15.toInt * 10 + v23.toInt := by
      rw [Int64.toInt_add, m1, Int32.toInt_toInt64, bm64 (by rw [e23]; omega) (by rw [e23]; omega)]
    have m3 : (z15 * (10 : Int64) + v23.toInt64 - (48 : Int64)).toInt = z15.toInt * 10 + v23.toInt - 48 := by
      rw [Int64.toInt_sub, m2, f4, bm64 (by rw [e23]; omega) (by rw [e23]; omega)]
    refine Sf.inl (show (w4 ≤ z14 + 1 ∧ z14 + 1 ≤ sz) ∧ (∀ i, w4.toNatClampNeg ≤ i → i < (z14 + 1).toNatClampNeg → tkc (b i) = 2) ∧ VR b (z15 * (10 : Int64) + v23.toInt64 - (48 : Int64)) w4.toNatClampNeg (z14 + 1).toNatClampNeg from ⟨⟨hz2, hz1⟩, all, Or.inl ⟨by omega, ?_⟩⟩) (muUp_lt hc)
    rw [m3, p1, show z14.toNatClampNeg + 1 - w4.toNatClampNeg = (z14.toNatClampNeg - w4.toNatClampNeg) + 1 by omega]
    show _ = 10 * dI b w4.toNatClampNeg (z14.toNatClampNeg - w4.toNatClampNeg) + (b (w4.toNatClampNeg + (z14.toNatClampNeg - w4.toNatClampNeg))).toInt - 48
    rw [show w4.toNatClampNeg + (z14.toNatClampNeg - w4.toNatClampNeg) = z14.toNatClampNeg by omega, ← e23, hf]
    omega
theorem lookS {n : Nat} {x0_shelf : (Nat → Int32)} {x0_rowSort : (Nat → Int32)} {x0_rowSize : (Nat → Int32)} {x0_rows : (Nat → Nat → Int64)} {x0_moved : (Nat → Int64)} {x0_shown : (Nat → Int32)} {x0_tape : (Nat → Int32)} {x0_tapeSize : Int32} {x0_refused : (Nat → Int32)} {x0_lines : Int32} {x0_line : (Nat → Nat → Int32)} {x0_changes : (Nat → Int32)} {x0_coins : (Nat → Int32)} {x0_goods : Int32} {x0_good : (Nat → Nat → Int32)} {x0_works : Int32} {x0_work : (Nat → Nat → Int32)} {x0_years : Int32} {x0_gone : Int32} {x0_spent : Int32} {x0_at : Int32} {x0_token : Int32} {x0_from : Int32} {x0_figures : Int64} {x0_fault : Int32} {x0_numbers : (Nat → Int32)} {x0_statements : Int32} {x0_left : (Nat → Int32)} {x0_far : (Nat → Int32)} {x0_tons : Int32} {x0_way : (Nat → Int32)} {x0_steps : Int32} {x0_met : Int64} {x0_queue : (Nat → Int32)} {x0_totals : (Nat → Int32)} (hn : 1000000000000 ≤ n) (hs : 0 ≤ x0_tapeSize ∧ x0_tapeSize ≤ 250) (he : 0 ≤ x0_at ∧ x0_at ≤ x0_tapeSize) : Sf (fX7_look n (x0_shelf, x0_rowSort, x0_rowSize, x0_rows, x0_moved, x0_shown, x0_tape, x0_tapeSize, x0_refused, x0_lines, x0_line, x0_changes, x0_coins, x0_goods, x0_good, x0_works, x0_work, x0_years, x0_gone, x0_spent, x0_at, x0_token, x0_from, x0_figures, x0_fault, x0_numbers, x0_statements, x0_left, x0_far, x0_tons, x0_way, x0_steps, x0_met, x0_queue, x0_totals)) (fun q => TkQ x0_tape x0_tapeSize x0_at q.2.2.1 q.1 q.2.1 (q.2.2.2 = 0) (VR x0_tape q.2.2.2)) := by
  unfold fX7_look
  dsimp only [u35]
  refine Sf.bind (advS (P := fun i => x0_tape i = 32) hn hs he (fun z h0 h => ?_) (fun z h0 h => ?_)) ?_
  · unfold fX7_look_s0
    rw [if_pos h]
  · unfold fX7_look_s0
    rw [if_neg (Int32.not_le.mpr h)]
    obtain ⟨o, eo, ho⟩ : Sf ((rd 250 x0_tape z).bind fun v23 => if v23 = 32 then (some (.inl (z + 1))) else (some (.inr z))) (fun r => r = if x0_tape z.toNatClampNeg = 32 then (.inl (z + 1) : Int32 ⊕ Int32) else .inr z) := by
      refine Sf.rdb 250 rfl ⟨h0, Int32.lt_of_lt_of_le h hs.2⟩ (fun v e => ?_)
      rw [← e]
      exact Sf.ite (fun h => Sf.ok (by rw [if_pos h])) (fun h => Sf.ok (by rw [if_neg h]))
    rw [eo, ho]
    by_cases hh : x0_tape z.toNatClampNeg = 32
    · exact Or.inl ⟨hh, by rw [if_pos hh]⟩
    · exact Or.inr ⟨hh, by rw [if_neg hh]⟩
  intro w4 ⟨hw, hA⟩
  refine Sf.ite (fun h0 => ?_) (fun h0 => ?_)
  · exact Sf.ok ⟨⟨hw, hA⟩, Or.inl ⟨h0, rfl, rfl, rfl⟩⟩
  have hsz : w4 < x0_tapeSize := by clear hA; grind
  have hi : 0 ≤ w4 ∧ w4 < 250 := ⟨hw.1, Int32.lt_of_lt_of_le hsz hs.2⟩
  have nlt' : w4.toNatClampNeg < x0_tapeSize.toNatClampNeg := by
    have a := i32_cl hw.1
    have c := i32_cl hs.1
    have d := Int32.lt_iff_toInt_lt.mp hsz
    omega
  refine Sf.rdb 250 rfl hi (fun v5 e5 => ?_)
  refine Sf.bind (isLet v5) (fun v6 e6 => ?_)
  rw [e5] at e6
  refine Sf.ite (fun hv => ?_) (fun hv => ?_)
  · have n1 : ¬ tkc (x0_tape w4.toNatClampNeg) = 1 := by
      intro h
      rw [if_pos h] at e6
      rw [e6] at hv
      exact absurd hv (by decide)
    refine Sf.rdb 250 rfl hi (fun v8 e8 => ?_)
    refine Sf.bind (isDig v8) (fun v9 e9 => ?_)
    rw [e8] at e9
    refine Sf.ite (fun hd => ?_) (fun hd => ?_)
    · have n2 : ¬ tkc (x0_tape w4.toNatClampNeg) = 2 := by
        intro h
        rw [if_pos h] at e9
        rw [e9] at hd
        exact absurd hd (by decide)
      refine Sf.rdb 250 rfl hi (fun v11 e11 => ?_)
      have rest : ∀ y : Int32, y = tkc (x0_tape w4.toNatClampNeg) → Sf (fX7_look_j254 w4 y) (fun q => TkQ x0_tape x0_tapeSize x0_at q.2.2.1 q.1 q.2.1 (q.2.2.2 = 0) (VR x0_tape q.2.2.2)) := by
        intro y hy
        unfold fX7_look_j254
        exact Sf.ok ⟨⟨hw, hA⟩, Or.inr ⟨hsz, hy, Or.inr (Or.inr ⟨by rw [hy]; exact n1, by rw [hy]; exact n2, rfl, rfl⟩)⟩⟩
      have tk : tkc (x0_tape w4.toNatClampNeg) = if v11 = 59 then 3 else 4 := by
        rw [e11]
        have q1 : x0_tape w4.toNatClampNeg < 97 ∨ 122 < x0_tape w4.toNatClampNeg := by
          refine Classical.byContradiction fun h => n1 ((tkc_1 _).mpr ⟨fun q => h (Or.inl q), fun q => h (Or.inr q)⟩)
        have q2 : x0_tape w4.toNatClampNeg < 48 ∨ 57 < x0_tape w4.toNatClampNeg := by
          refine Classical.byContradiction fun h => n2 ((tkc_2 _).mpr ⟨fun q => h (Or.inl q), fun q => h (Or.inr q)⟩)
        have inner : (if x0_tape w4.toNatClampNeg < 48 then (if x0_tape w4.toNatClampNeg = 59 then (3 : Int32) else 4) else if 57 < x0_tape w4.toNatClampNeg then (if x0_tape w4.toNatClampNeg = 59 then 3 else 4) else 2) = if x0_tape w4.toNatClampNeg = 59 then 3 else 4 := by
          by_cases a : x0_tape w4.toNatClampNeg < 48
          · rw [if_pos a]
          · rw [if_neg a, if_pos (q2.resolve_left a)]
        unfold tkc
        rw [inner]
        by_cases a : x0_tape w4.toNatClampNeg < 97
        · rw [if_pos a]
        · rw [if_neg a, if_pos (q1.resolve_left a)]
      refine Sf.ite (fun h => rest 3 (by rw [tk, if_pos h])) (fun h => rest 4 (by rw [tk, if_neg h]))
    · have y2 : tkc (x0_tape w4.toNatClampNeg) = 2 := by
        refine Classical.byContradiction fun h => ?_
        rw [if_neg h] at e9
        exact hd e9
      refine Sf.bind (digR hn hs hw) ?_
      rintro ⟨w17, w18⟩ ⟨a1, a2, a3⟩
      exact Sf.ok ⟨⟨hw, hA⟩, Or.inr ⟨hsz, y2.symm, Or.inr (Or.inl ⟨rfl, a1, Adv.next a2 nlt' y2, a3⟩)⟩⟩
  · have y1 : tkc (x0_tape w4.toNatClampNeg) = 1 := by
      refine Classical.byContradiction fun h => ?_
      rw [if_neg h] at e6
      exact hv e6
    refine Sf.bind (advS (P := fun i => tkc (x0_tape i) = 1) hn hs hw (fun z hz h => ?_) (fun z hz h => ?_)) ?_
    · unfold fX7_look_s90
      rw [if_pos h]
    · unfold fX7_look_s90
      rw [if_neg (Int32.not_le.mpr h)]
      obtain ⟨o, eo, ho⟩ : Sf ((rd 250 x0_tape z).bind fun v28 => (fX7_isLetter v28).bind (fun v29 => if v29 = 0 then (some (.inr z)) else (some (.inl (z + 1))))) (fun r => r = if tkc (x0_tape z.toNatClampNeg) = 1 then (.inl (z + 1) : Int32 ⊕ Int32) else .inr z) := by
        refine Sf.rdb 250 rfl ⟨hz, Int32.lt_of_lt_of_le h hs.2⟩ (fun v e => ?_)
        refine Sf.bind (isLet v) (fun v29 e29 => ?_)
        rw [← e]
        by_cases hh : tkc v = 1
        · rw [if_pos hh] at e29
          rw [if_pos hh, if_neg (by rw [e29]; decide)]
          exact Sf.ok rfl
        · rw [if_neg hh] at e29
          rw [if_neg hh, if_pos e29]
          exact Sf.ok rfl
      rw [eo, ho]
      by_cases hh : tkc (x0_tape z.toNatClampNeg) = 1
      · exact Or.inl ⟨hh, by rw [if_pos hh]⟩
      · exact Or.inr ⟨hh, by rw [if_neg hh]⟩
    intro w27 ⟨hv2, hB⟩
    exact Sf.ok ⟨⟨hw, hA⟩, Or.inr ⟨hsz, y1.symm, Or.inl ⟨rfl, hv2, Adv.next hB nlt' y1, rfl⟩⟩⟩
/-- the figures of a value -/
def fg (v : Int32) : Int32 := if v = -1 then 100000 else v
def figs (t v : Int32) : Int64 := if t = 2 then (fg v).toInt64 else 0
/-- a token, as the class keeps it -/
def TkOk (sz s e t v : Int32) : Prop := (0 ≤ s ∧ s ≤ e) ∧ e ≤ sz ∧ (t = 2 → v = -1 ∨ (0 ≤ v ∧ v ≤ 999)) ∧ (¬ t = 0 → s < e)
theorem lookNext {n : Nat} {x0_bytes : (Nat → Int32)} {x0_size : Int32} {x0_start : Int32} {x0_end : Int32} {x0_token : Int32} {x0_value : Int32} {m_shelf : (Nat → Int32)} {m_rowSort : (Nat → Int32)} {m_rowSize : (Nat → Int32)} {m_rows : (Nat → Nat → Int64)} {m_moved : (Nat → Int64)} {m_shown : (Nat → Int32)} {m_tape : (Nat → Int32)} {m_tapeSize : Int32} {m_refused : (Nat → Int32)} {m_lines : Int32} {m_line : (Nat → Nat → Int32)} {m_changes : (Nat → Int32)} {m_coins : (Nat → Int32)} {m_goods : Int32} {m_good : (Nat → Nat → Int32)} {m_works : Int32} {m_work : (Nat → Nat → Int32)} {m_years : Int32} {m_gone : Int32} {m_spent : Int32} {m_at : Int32} {m_token : Int32} {m_from : Int32} {m_figures : Int64} {m_fault : Int32} {m_numbers : (Nat → Int32)} {m_statements : Int32} {m_left : (Nat → Int32)} {m_far : (Nat → Int32)} {m_tons : Int32} {m_way : (Nat → Int32)} {m_steps : Int32} {m_met : Int64} {m_queue : (Nat → Int32)} {m_totals : (Nat → Int32)} (hn : 1000000000000 ≤ n) (hs : 0 ≤ x0_size ∧ x0_size ≤ 250) (he : 0 ≤ x0_end ∧ x0_end ≤ x0_size) (hb : m_tape = x0_bytes) (hz : m_tapeSize = x0_size) (ha : m_at = x0_end) : Sf2 (fX3_next n (x0_bytes, x0_size, x0_start, x0_end, x0_token, x0_value)) (fX7_look n (m_shelf, m_rowSort, m_rowSize, m_rows, m_moved, m_shown, m_tape, m_tapeSize, m_refused, m_lines, m_line, m_changes, m_coins, m_goods, m_good, m_works, m_work, m_years, m_gone, m_spent, m_at, m_token, m_from, m_figures, m_fault, m_numbers, m_statements, m_left, m_far, m_tons, m_way, m_steps, m_met, m_queue, m_totals)) (fun r q => q = (r.2.1, r.2.2.1, r.1, figs r.2.2.1 r.2.2.2) ∧ TkOk x0_size r.1 r.2.1 r.2.2.1 r.2.2.2 ∧ x0_end ≤ r.1) := by
  subst hb hz ha
  refine Sf2.of (nextS hn hs he) (lookS hn hs he) ?_
  rintro ⟨s, e, t, v⟩ ⟨e', t', s', f⟩ h h'
  have h : TkQ m_tape m_tapeSize m_at s e t (v = -1) (VC m_tape v) := h
  have h' : TkQ m_tape m_tapeSize m_at s' e' t' (f = 0) (VR m_tape f) := h'
  have hh := TkQ_eq h h'
  obtain ⟨⟨a1, a2⟩, a3⟩ := h
  obtain ⟨q1, q2, q3, q4⟩ := hh
  subst q1 q2 q3
  have n1 := i32_cl a1.1
  have n0 := i32_cl he.1
  have ea : m_at ≤ s := Int32.le_iff_toInt_le.mpr (by have := a2.1; omega)
  have b3 := Int32.le_iff_toInt_le.mp hs.2
  have b2 := Int32.le_iff_toInt_le.mp a1.2
  have e250 : (250 : Int32).toInt = 250 := by decide
  have z1 : (1 : Int32).toInt = 1 := by decide
  have up : s < m_tapeSize → 0 ≤ s + 1 ∧ (s + 1).toInt = s.toInt + 1 ∧ s + 1 ≤ m_tapeSize := by
    intro h
    have h := Int32.lt_iff_toInt_lt.mp h
    have e1 : (s + 1).toInt = s.toInt + 1 := by rw [i32_add (by omega) (by omega), z1]
    have z0 : (0 : Int32).toInt = 0 := by decide
    exact ⟨Int32.le_iff_toInt_le.mpr (by omega), e1, Int32.le_iff_toInt_le.mpr (by omega)⟩
  have vals : f = figs t v ∧ (t = 2 → v = -1 ∨ (0 ≤ v ∧ v ≤ 999)) := by
    unfold figs
    rcases q4 with ⟨c1, c2, c3⟩ | ⟨c1, c2, c3, c4, c5⟩
    · rw [if_neg c1]
      exact ⟨c3, fun h => absurd h c1⟩
    · rw [if_pos c1]
      unfold fg
      have bd := dI_b (b := m_tape) (s := s.toNatClampNeg) (e.toNatClampNeg - s.toNatClampNeg) (fun i h1 h2 => c5 i h1 (by omega))
      rcases c2 with ⟨d1, d2⟩ | ⟨d1, d2⟩ <;> rcases c3 with ⟨d3, d4⟩ | ⟨d3, d4⟩
      · have hi := bd.2.2.2 d1
        have hv : 0 ≤ v ∧ v ≤ 999 := ⟨Int32.le_iff_toInt_le.mpr (by rw [d2]; exact bd.1), Int32.le_iff_toInt_le.mpr (by rw [d2]; exact hi)⟩
        have hne : ¬ v = -1 := by
          intro h
          rw [h] at hv
          exact absurd hv.1 (by decide)
        rw [if_neg hne]
        exact ⟨Int64.toInt_inj.mp (by rw [d4, Int32.toInt_toInt64, d2]), fun _ => Or.inr hv⟩
      · omega
      · omega
      · rw [if_pos d2, d4]
        exact ⟨by decide, fun _ => Or.inl d2⟩
  refine ⟨by rw [vals.1], ⟨⟨a1.1, ?_⟩, ?_, vals.2, ?_⟩, ea⟩
  · show s ≤ e
    rcases a3 with ⟨x1, x2, x3, x4⟩ | ⟨x1, x2, ⟨c1, c2, c3, c4⟩ | ⟨c1, c2, c3, c4⟩ | ⟨c1, c2, c3, c4⟩⟩
    · rw [x3]; exact Int32.le_refl _
    · have := i32_cl c2.1
      exact Int32.le_iff_toInt_le.mpr (by have := c3.1; omega)
    · have := i32_cl c2.1
      exact Int32.le_iff_toInt_le.mpr (by have := c3.1; omega)
    · rw [c3]
      exact Int32.le_iff_toInt_le.mpr (by rw [(up x1).2.1]; omega)
  · show e ≤ m_tapeSize
    rcases a3 with ⟨x1, x2, x3, x4⟩ | ⟨x1, x2, ⟨c1, c2, c3, c4⟩ | ⟨c1, c2, c3, c4⟩ | ⟨c1, c2, c3, c4⟩⟩
    · rw [x3]; exact a1.2
    · exact c2.2
    · exact c2.2
    · rw [c3]; exact (up x1).2.2
  · intro ht
    show s < e
    rcases a3 with ⟨x1, x2, x3, x4⟩ | ⟨x1, x2, ⟨c1, c2, c3, c4⟩ | ⟨c1, c2, c3, c4⟩ | ⟨c1, c2, c3, c4⟩⟩
    · exact absurd x2 ht
    · have := i32_cl c2.1
      exact Int32.lt_iff_toInt_lt.mpr (by have := c3.1; omega)
    · have := i32_cl c2.1
      exact Int32.lt_iff_toInt_lt.mpr (by have := c3.1; omega)
    · rw [c3]
      exact Int32.lt_iff_toInt_lt.mpr (by rw [(up x1).2.1]; omega)
end

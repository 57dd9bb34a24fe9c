/-! washed, feed, image, back, hangs -/
theorem putWashedS {x0_lineCount : Int32} {x0_goodsCount : Int32} {x0_workCount : Int32} {x0_years : Int32} {x0_lines : (Nat → Int32)} {x0_goods : (Nat → Int32)} {x0_works : (Nat → Int32)} {x0_change : (Nat → Int32)} {x0_coin : (Nat → Int32)} {x0_knownFree : (Nat → Int32)} {x0_isKnown : Int32} {p1 p2 : Int32} (hp : 0 ≤ p1 ∧ p1 < x0_lineCount) (h20 : x0_lineCount ≤ 20) : Sf (fX1_putWashed (x0_lineCount, x0_goodsCount, x0_workCount, x0_years, x0_lines, x0_goods, x0_works, x0_change, x0_coin, x0_knownFree, x0_isKnown) p1 p2) (fun r => r.1 = va_up x0_lines (7 * p1.toNatClampNeg + 6) p2 ∧ r.2 = 0) := by
  unfold fX1_putWashed
  dsimp only [u11]
  refine Sf.ite (fun h => absurd h (Int32.not_lt.mpr hp.1)) (fun _ => ?_)
  refine Sf.ite (fun h => absurd h (Int32.not_le.mpr hp.2)) (fun _ => ?_)
  obtain ⟨hi, he⟩ := ix7 (z := p1) (c := 6) ⟨hp.1, Int32.lt_of_lt_of_le hp.2 h20⟩ (by decide)
  refine Sf.wrb 140 rfl hi (fun f1 e1 => ?_)
  rw [he] at e1
  exact Sf.ok ⟨e1, rfl⟩
def wsh (p : Int32) : Int32 := if p = 0 then 0 else 1
def WsR (f f' : Nat → Nat → Int32) (k : Nat) (y : Int32) : Prop := ∀ l c, c < 7 → f' l c = if l = k ∧ c = 6 then y else f l c
theorem washedC {x0_refused : (Nat → Int32)} {x0_isKept : Int32} {x0_gone : Int32} {x0_spent : Int32} {x1_lineCount : Int32} {x1_goodsCount : Int32} {x1_workCount : Int32} {x1_years : Int32} {x1_lines : (Nat → Int32)} {x1_goods : (Nat → Int32)} {x1_works : (Nat → Int32)} {x1_change : (Nat → Int32)} {x1_coin : (Nat → Int32)} {x1_knownFree : (Nat → Int32)} {x1_isKnown : Int32} {p1 p2 : Int32} (h_x1_lineCount : (0 ≤ x1_lineCount ∧ x1_lineCount ≤ 20)) (h_x1_goodsCount : (0 ≤ x1_goodsCount ∧ x1_goodsCount ≤ 8)) (h_x1_workCount : (0 ≤ x1_workCount ∧ x1_workCount ≤ 7)) (h_x1_years : (1 ≤ x1_years ∧ x1_years ≤ 30)) (h_x1_lines : (LnOk x1_lines)) (h_x1_goods : (GdOk x1_goods)) (h_x1_works : (WkOk x1_works)) (h_x1_change : (AI 0 99 x1_change)) (h_x1_coin : (AI 0 9 x1_coin)) : Sf (fX6_washed (x0_refused, x0_isKept, x0_gone, x0_spent) (x1_lineCount, x1_goodsCount, x1_workCount, x1_years, x1_lines, x1_goods, x1_works, x1_change, x1_coin, x1_knownFree, x1_isKnown) p1 p2) (fun r => AP (0 ≤ p1 ∧ p1 < x1_lineCount) r.1 ((0 ≤ p1 ∧ p1 < x1_lineCount) ∧ r.1 = (if ro 7 x1_lines p1.toNatClampNeg 6 = wsh p2 then 0 else 1) ∧ WsR (ro 7 x1_lines) (ro 7 r.2.2.1) p1.toNatClampNeg (wsh p2) ∧ ((r.2.2.1 = x1_lines ∧ r.2.2.2 = x1_isKnown) ∨ r.2.2.2 = 0)) (r.2.2.1 = x1_lines ∧ r.2.2.2 = x1_isKnown)) := by
  unfold fX6_washed
  dsimp only [u4, u11]
  refine Sf.bind hasLineS (fun v1 h1 => Sf.ite (fun hz => ?_) (fun hz => ?_))
  · refine Sf.bind refC ?_
    rintro ⟨v, g⟩ e
    refine Sf.ok (Or.inr ⟨fun h => ?_, e, rfl, rfl⟩)
    rcases h1 with h1 | h1
    · rw [h1.1] at hz; exact absurd hz (by decide)
    · have h1 := h1.2
      grind
  have hq : 0 ≤ p1 ∧ p1 ≤ x1_lineCount - 1 := by
    rcases h1 with h1 | h1
    · exact h1.2
    · exact absurd h1.1 hz
  have hp : 0 ≤ p1 ∧ p1 < x1_lineCount := by clear h1; grind
  have j : ∀ y : Int32, wsh p2 = y → Sf (fX6_washed_j27 p1 x0_refused x1_lineCount x1_goodsCount x1_workCount x1_years x1_lines x1_goods x1_works x1_change x1_coin x1_knownFree x1_isKnown y) (fun r => AP (0 ≤ p1 ∧ p1 < x1_lineCount) r.1 ((0 ≤ p1 ∧ p1 < x1_lineCount) ∧ r.1 = (if ro 7 x1_lines p1.toNatClampNeg 6 = wsh p2 then 0 else 1) ∧ WsR (ro 7 x1_lines) (ro 7 r.2.2.1) p1.toNatClampNeg (wsh p2) ∧ ((r.2.2.1 = x1_lines ∧ r.2.2.2 = x1_isKnown) ∨ r.2.2.2 = 0)) (r.2.2.1 = x1_lines ∧ r.2.2.2 = x1_isKnown)) := by
    intro y hy
    unfold fX6_washed_j27
    refine Sf.bind (ofLineV (z := p1) (c := 6) ⟨hp.1, Int32.lt_of_lt_of_le hp.2 h_x1_lineCount.2⟩ (by decide)) (fun v4 e4 => ?_)
    have e4 : v4 = x1_lines (7 * p1.toNatClampNeg + 6) := e4
    have e4' : v4 = ro 7 x1_lines p1.toNatClampNeg 6 := by rw [e4, ro_eq (by decide)]
    refine Sf.ite (fun hv => ?_) (fun hv => ?_)
    · refine Sf.ok (Or.inl ⟨hp, hp, ?_, fun l c hc => ?_, Or.inl ⟨rfl, rfl⟩⟩)
      · show (0 : Int32) = _
        rw [← e4', hy, if_pos hv]
      · show ro 7 x1_lines l c = _
        by_cases h : l = p1.toNatClampNeg ∧ c = 6
        · rw [if_pos h, h.1, h.2, ← e4', hy, hv]
        · rw [if_neg h]
    · refine Sf.bind (putWashedS hp h_x1_lineCount.2) ?_
      rintro ⟨g6, g7⟩ ⟨e6, e7⟩
      have e6 : g6 = _ := e6
      refine Sf.ok (Or.inl ⟨hp, hp, ?_, fun l c hc => ?_, Or.inr e7⟩)
      · show (1 : Int32) = _
        rw [← e4', hy, if_neg hv]
      · show ro 7 g6 l c = _
        rw [ro_eq hc, e6]
        by_cases h : l = p1.toNatClampNeg ∧ c = 6
        · rw [if_pos h, h.1, h.2, va_eq, hy]
        · rw [if_neg h, va_ne _ _ (by omega), ro_eq hc]
  refine Sf.ite (fun h => j 0 (if_pos h)) (fun h => j 1 (if_neg h))
theorem washedR {x0_shelf : (Nat → Int32)} {x0_rowSort : (Nat → Int32)} {x0_rowSize : (Nat → Int32)} {x0_rows : (Nat → Nat → Int64)} {x0_moved : (Nat → Int64)} {x0_shown : (Nat → Int32)} {x0_tape : (Nat → Int32)} {x0_tapeSize : Int32} {x0_refused : (Nat → Int32)} {x0_lines : Int32} {x0_line : (Nat → Nat → Int32)} {x0_changes : (Nat → Int32)} {x0_coins : (Nat → Int32)} {x0_goods : Int32} {x0_good : (Nat → Nat → Int32)} {x0_works : Int32} {x0_work : (Nat → Nat → Int32)} {x0_years : Int32} {x0_gone : Int32} {x0_spent : Int32} {x0_at : Int32} {x0_token : Int32} {x0_from : Int32} {x0_figures : Int64} {x0_fault : Int32} {x0_numbers : (Nat → Int32)} {x0_statements : Int32} {x0_left : (Nat → Int32)} {x0_far : (Nat → Int32)} {x0_tons : Int32} {x0_way : (Nat → Int32)} {x0_steps : Int32} {x0_met : Int64} {x0_queue : (Nat → Int32)} {x0_totals : (Nat → Int32)} {p1 p2 : Int32} (h_x0_shelf : (AI 0 2 x0_shelf)) (h_x0_rowSize : (AI 0 40 x0_rowSize)) (h_x0_tapeSize : (0 ≤ x0_tapeSize ∧ x0_tapeSize ≤ 250)) (h_x0_lines : (0 ≤ x0_lines ∧ x0_lines ≤ 20)) (h_x0_line : (LnM x0_line)) (h_x0_changes : (AI 0 99 x0_changes)) (h_x0_coins : (AI 0 9 x0_coins)) (h_x0_goods : (0 ≤ x0_goods ∧ x0_goods ≤ 8)) (h_x0_good : (GdM x0_good)) (h_x0_works : (0 ≤ x0_works ∧ x0_works ≤ 7)) (h_x0_work : (WkM x0_work)) (h_x0_years : (1 ≤ x0_years ∧ x0_years ≤ 30)) (h_x0_from : (0 ≤ x0_from ∧ x0_from ≤ 250)) (h_x0_far : (AI 0 1000000000 x0_far)) (h_x0_way : (AI 0 22 x0_way)) (h_x0_steps : (0 ≤ x0_steps ∧ x0_steps ≤ 37)) (h_x0_queue : (AI 0 35 x0_queue)) : Sf (fX7_washed (x0_shelf, x0_rowSort, x0_rowSize, x0_rows, x0_moved, x0_shown, x0_tape, x0_tapeSize, x0_refused, x0_lines, x0_line, x0_changes, x0_coins, x0_goods, x0_good, x0_works, x0_work, x0_years, x0_gone, x0_spent, x0_at, x0_token, x0_from, x0_figures, x0_fault, x0_numbers, x0_statements, x0_left, x0_far, x0_tons, x0_way, x0_steps, x0_met, x0_queue, x0_totals) p1 p2) (fun r => AP (0 ≤ p1 ∧ p1 < x0_lines) r.1 (r.1 = (if x0_line p1.toNatClampNeg 6 = wsh p2 then 0 else 1) ∧ WsR x0_line r.2.2 p1.toNatClampNeg (wsh p2)) (r.2.2 = x0_line)) := by
  unfold fX7_washed
  dsimp only [u35]
  refine Sf.bind (sX7_isLine h_x0_shelf h_x0_rowSize h_x0_tapeSize h_x0_lines h_x0_line h_x0_changes h_x0_coins h_x0_goods h_x0_good h_x0_works h_x0_work h_x0_years h_x0_from h_x0_far h_x0_way h_x0_steps h_x0_queue) (fun v1 h1 => Sf.ite (fun hz => ?_) (fun hz => ?_))
  · refine Sf.bind (sX7_refuse h_x0_shelf h_x0_rowSize h_x0_tapeSize h_x0_lines h_x0_line h_x0_changes h_x0_coins h_x0_goods h_x0_good h_x0_works h_x0_work h_x0_years h_x0_from h_x0_far h_x0_way h_x0_steps h_x0_queue (by decide)) ?_
    rintro ⟨v, g⟩ e
    refine Sf.ok (Or.inr ⟨fun h => ?_, e, rfl⟩)
    rcases h1 with h1 | h1
    · rw [h1.1] at hz; exact absurd hz (by decide)
    · exact h1.2 h
  have hp : 0 ≤ p1 ∧ p1 < x0_lines := by
    rcases h1 with h1 | h1
    · exact h1.2
    · exact absurd h1.1 hz
  have hi : 0 ≤ p1 ∧ p1 < 20 := ⟨hp.1, Int32.lt_of_lt_of_le hp.2 h_x0_lines.2⟩
  refine Sf.ckb 20 rfl hi (fun q3 e3 _ => ?_)
  refine Sf.rdl 6 rfl rfl (fun v4 e4 => ?_)
  refine Sf.ckb 20 rfl hi (fun q5 e5 _ => ?_)
  rw [e3] at e4
  have j : ∀ y : Int32, wsh p2 = y → Sf (fX7_washed_j42 p1 x0_refused x0_line v4 q5 y) (fun r => AP (0 ≤ p1 ∧ p1 < x0_lines) r.1 (r.1 = (if x0_line p1.toNatClampNeg 6 = wsh p2 then 0 else 1) ∧ WsR x0_line r.2.2 p1.toNatClampNeg (wsh p2)) (r.2.2 = x0_line)) := by
    intro y hy
    unfold fX7_washed_j42
    refine Sf.wrb 7 rfl (by decide) (fun f7 e7 => ?_)
    have e7 : f7 = va_up (x0_line q5) 6 y := e7
    refine Sf.ckb 20 rfl hi (fun q8 e8 _ => ?_)
    rw [e8, e5]
    rw [e5] at e7
    refine Sf.rdl 6 rfl rfl (fun v9 e9 => ?_)
    rw [va_eq, e7, va_eq] at e9
    have W : WsR x0_line (va_up x0_line p1.toNatClampNeg f7) p1.toNatClampNeg (wsh p2) := by
      intro l c hc
      by_cases h : l = p1.toNatClampNeg
      · rw [h, va_eq, e7]
        by_cases h6 : c = 6
        · rw [if_pos ⟨rfl, h6⟩, h6, va_eq, hy]
        · rw [if_neg (fun hh => h6 hh.2), va_ne _ _ h6]
      · rw [if_neg (fun hh => h hh.1), va_ne _ _ h]
    refine Sf.ite (fun hv => ?_) (fun hv => ?_)
    · refine Sf.ok (Or.inl ⟨hp, ?_, W⟩)
      show (0 : Int32) = _
      rw [← e4, hy, ← e9, if_pos hv]
    · refine Sf.ok (Or.inl ⟨hp, ?_, W⟩)
      show (1 : Int32) = _
      rw [← e4, hy, ← e9, if_neg hv]
  refine Sf.ite (fun h => j 0 (if_pos h)) (fun h => j 1 (if_neg h))
theorem dWashed {x0_refused : (Nat → Int32)} {x0_isKept : Int32} {x0_gone : Int32} {x0_spent : Int32} {x1_lineCount : Int32} {x1_goodsCount : Int32} {x1_workCount : Int32} {x1_years : Int32} {x1_lines : (Nat → Int32)} {x1_goods : (Nat → Int32)} {x1_works : (Nat → Int32)} {x1_change : (Nat → Int32)} {x1_coin : (Nat → Int32)} {x1_knownFree : (Nat → Int32)} {x1_isKnown : Int32} {m_shelf : (Nat → Int32)} {m_rowSort : (Nat → Int32)} {m_rowSize : (Nat → Int32)} {m_rows : (Nat → Nat → Int64)} {m_moved : (Nat → Int64)} {m_shown : (Nat → Int32)} {m_tape : (Nat → Int32)} {m_tapeSize : Int32} {m_refused : (Nat → Int32)} {m_lines : Int32} {m_line : (Nat → Nat → Int32)} {m_changes : (Nat → Int32)} {m_coins : (Nat → Int32)} {m_goods : Int32} {m_good : (Nat → Nat → Int32)} {m_works : Int32} {m_work : (Nat → Nat → Int32)} {m_years : Int32} {m_gone : Int32} {m_spent : Int32} {m_at : Int32} {m_token : Int32} {m_from : Int32} {m_figures : Int64} {m_fault : Int32} {m_numbers : (Nat → Int32)} {m_statements : Int32} {m_left : (Nat → Int32)} {m_far : (Nat → Int32)} {m_tons : Int32} {m_way : (Nat → Int32)} {m_steps : Int32} {m_met : Int64} {m_queue : (Nat → Int32)} {m_totals : (Nat → Int32)} {p1 p2 er e3 fr : Int32} {e0 e2 f0 : Nat → Int32} {f2 : Nat → Nat → Int32} (h_x1_lineCount : (0 ≤ x1_lineCount ∧ x1_lineCount ≤ 20)) (h_x1_goodsCount : (0 ≤ x1_goodsCount ∧ x1_goodsCount ≤ 8)) (h_x1_workCount : (0 ≤ x1_workCount ∧ x1_workCount ≤ 7)) (h_x1_years : (1 ≤ x1_years ∧ x1_years ≤ 30)) (h_x1_lines : (LnOk x1_lines)) (h_x1_goods : (GdOk x1_goods)) (h_x1_works : (WkOk x1_works)) (h_x1_change : (AI 0 99 x1_change)) (h_x1_coin : (AI 0 9 x1_coin)) (h_m_shelf : (AI 0 2 m_shelf)) (h_m_rowSize : (AI 0 40 m_rowSize)) (h_m_tapeSize : (0 ≤ m_tapeSize ∧ m_tapeSize ≤ 250)) (h_m_lines : (0 ≤ m_lines ∧ m_lines ≤ 20)) (h_m_line : (LnM m_line)) (h_m_changes : (AI 0 99 m_changes)) (h_m_coins : (AI 0 9 m_coins)) (h_m_goods : (0 ≤ m_goods ∧ m_goods ≤ 8)) (h_m_good : (GdM m_good)) (h_m_works : (0 ≤ m_works ∧ m_works ≤ 7)) (h_m_work : (WkM m_work)) (h_m_years : (1 ≤ m_years ∧ m_years ≤ 30)) (h_m_from : (0 ≤ m_from ∧ m_from ≤ 250)) (h_m_far : (AI 0 1000000000 m_far)) (h_m_way : (AI 0 22 m_way)) (h_m_steps : (0 ≤ m_steps ∧ m_steps ≤ 37)) (h_m_queue : (AI 0 35 m_queue)) (hA : (LaD x1_lineCount x1_goodsCount x1_workCount x1_years x1_lines x1_goods x1_works x1_change x1_coin m_lines m_line m_changes m_coins m_goods m_good m_works m_work m_years)) (hk : Kn (FrS x1_lineCount (ro 7 x1_lines) x1_change x1_coin (ro 3 x1_goods) x1_goodsCount (ro 5 x1_works) x1_workCount) x1_knownFree x1_isKnown) (eqA : fX6_washed (x0_refused, x0_isKept, x0_gone, x0_spent) (x1_lineCount, x1_goodsCount, x1_workCount, x1_years, x1_lines, x1_goods, x1_works, x1_change, x1_coin, x1_knownFree, x1_isKnown) p1 p2 = some (er, e0, e2, e3)) (eqB : fX7_washed (m_shelf, m_rowSort, m_rowSize, m_rows, m_moved, m_shown, m_tape, m_tapeSize, m_refused, m_lines, m_line, m_changes, m_coins, m_goods, m_good, m_works, m_work, m_years, m_gone, m_spent, m_at, m_token, m_from, m_figures, m_fault, m_numbers, m_statements, m_left, m_far, m_tons, m_way, m_steps, m_met, m_queue, m_totals) p1 p2 = some (fr, f0, f2)) : er = fr ∧ (LaD x1_lineCount x1_goodsCount x1_workCount x1_years e2 x1_goods x1_works x1_change x1_coin m_lines f2 m_changes m_coins m_goods m_good m_works m_work m_years) ∧ Kn (FrS x1_lineCount (ro 7 e2) x1_change x1_coin (ro 3 x1_goods) x1_goodsCount (ro 5 x1_works) x1_workCount) x1_knownFree e3 := by
  have a := (washedC h_x1_lineCount h_x1_goodsCount h_x1_workCount h_x1_years h_x1_lines h_x1_goods h_x1_works h_x1_change h_x1_coin).at eqA
  have b := (washedR h_m_shelf h_m_rowSize h_m_tapeSize h_m_lines h_m_line h_m_changes h_m_coins h_m_goods h_m_good h_m_works h_m_work h_m_years h_m_from h_m_far h_m_way h_m_steps h_m_queue).at eqB
  obtain ⟨⟨z1, z2, z3, z4⟩, z5, z6, z7, z8, z9, z10⟩ := hA
  subst z1
  rcases AP_eq a b with ⟨⟨a0, a1, a2, a3⟩, b1, b2⟩ | ⟨e, ⟨a1, a2⟩, b1⟩
  · have a1 : er = _ := a1
    have b1 : fr = _ := b1
    have a2 : WsR (ro 7 x1_lines) (ro 7 e2) p1.toNatClampNeg (wsh p2) := a2
    have b2 : WsR m_line f2 p1.toNatClampNeg (wsh p2) := b2
    have hpn : p1.toNatClampNeg < x1_lineCount.toNatClampNeg := by
      have x := i32_cl a0.1
      have y := i32_cl h_x1_lineCount.1
      have z := Int32.lt_iff_toInt_lt.mp a0.2
      omega
    refine ⟨by rw [a1, b1, z5 _ hpn 6 (by decide)], ⟨⟨rfl, z2, z3, z4⟩, fun l hl c hc => ?_, z6, z7, z8, z9, z10⟩, ?_⟩
    · rw [a2 l c hc, b2 l c hc, z5 l hl c hc]
    · rcases a3 with ⟨h1, h2⟩ | h2
      · have h1 : e2 = x1_lines := h1
        have h2 : e3 = x1_isKnown := h2
        rw [h1, h2]
        exact hk
      · exact Or.inl h2
  · have a1 : e2 = x1_lines := a1
    have a2 : e3 = x1_isKnown := a2
    have b1 : f2 = m_line := b1
    subst a1 a2 b1
    exact ⟨e, ⟨⟨rfl, z2, z3, z4⟩, z5, z6, z7, z8, z9, z10⟩, hk⟩
/-! the bytes of the tapes -/
def fdA (v : Int32) : Nat → (Nat → Int32) × Int32 → (Nat → Int32) × Int32
  | 0, s => s
  | k + 1, s => fdA v k (va_up s.1 s.2.toNatClampNeg ((v >>> ((8 * Int32.ofNat k) &&& 31)) &&& 255), s.2 + 1)
theorem fd_step {z4 z6 : Int32} (h1 : -1 ≤ z4 ∧ z4 ≤ 3) (h2 : 0 ≤ z6) (h3 : z6.toInt + z4.toInt + 1 ≤ 250) (hc : ¬ z4 < 0) : (0 ≤ z6 ∧ z6 < 250) ∧ (z4 + 1).toNatClampNeg = z4.toNatClampNeg + 1 ∧ (z4 + (-1) + 1).toNatClampNeg = z4.toNatClampNeg ∧ (-1 ≤ z4 + (-1) ∧ z4 + (-1) ≤ 3) ∧ 0 ≤ z6 + 1 ∧ (z6 + 1).toInt + (z4 + (-1)).toInt + 1 ≤ 250 ∧ Int32.ofNat z4.toNatClampNeg = z4 := by
  have hc := Int32.not_lt.mp hc
  have a := Int32.le_iff_toInt_le.mp hc
  have b := Int32.le_iff_toInt_le.mp h1.2
  have c := Int32.le_iff_toInt_le.mp h2
  have z0 : (0 : Int32).toInt = 0 := by decide
  have z1 : (1 : Int32).toInt = 1 := by decide
  have zm : (-1 : Int32).toInt = -1 := by decide
  have z3 : (3 : Int32).toInt = 3 := by decide
  have zz : (250 : Int32).toInt = 250 := by decide
  have e1 : (z4 + 1).toInt = z4.toInt + 1 := by rw [i32_add (by omega) (by omega), z1]
  have e2 : (z4 + (-1)).toInt = z4.toInt - 1 := by rw [i32_add (by omega) (by omega), zm]; omega
  have e3 : (z4 + (-1) + 1).toInt = z4.toInt := by rw [i32_add (by omega) (by omega), e2, z1]; omega
  have e4 : (z6 + 1).toInt = z6.toInt + 1 := by rw [i32_add (by omega) (by omega), z1]
  have p1 : 0 ≤ z4 + 1 := Int32.le_iff_toInt_le.mpr (by omega)
  have p2 : 0 ≤ z4 + (-1) + 1 := Int32.le_iff_toInt_le.mpr (by omega)
  have q := i32_cl hc
  have q1 := i32_cl p1
  have q2 := i32_cl p2
  refine ⟨⟨h2, Int32.lt_iff_toInt_lt.mpr (by omega)⟩, by omega, by omega, ⟨Int32.le_iff_toInt_le.mpr (by omega), Int32.le_iff_toInt_le.mpr (by omega)⟩, Int32.le_iff_toInt_le.mpr (by omega), by omega, Int32.ofNat_toNatClampNeg z4 hc⟩
def FdI (p1 : Int32) (R : (Nat → Int32) × Int32) (e : Int32 × (Nat → Int32) × Int32) : Prop := (-1 ≤ e.1 ∧ e.1 ≤ 3) ∧ 0 ≤ e.2.2 ∧ e.2.2.toInt + e.1.toInt + 1 ≤ 250 ∧ fdA p1 (e.1 + 1).toNatClampNeg (e.2.1, e.2.2) = R
theorem fdNext {p1 y4 y6 : Int32} {y5 : Nat → Int32} {R : (Nat → Int32) × Int32} (h : FdI p1 R (y4, y5, y6)) (hc : ¬ y4 < 0) : FdI p1 R (y4 + (-1), va_up y5 y6.toNatClampNeg ((p1 >>> ((8 * y4) &&& 31)) &&& 255), y6 + 1) := by
  obtain ⟨i1, i2, i3, i4⟩ := h
  have i1 : -1 ≤ y4 ∧ y4 ≤ 3 := i1
  have i2 : 0 ≤ y6 := i2
  have i3 : y6.toInt + y4.toInt + 1 ≤ 250 := i3
  have i4 : fdA p1 (y4 + 1).toNatClampNeg (y5, y6) = R := i4
  obtain ⟨s1, s2, s3, s4, s5, s6, s7⟩ := fd_step i1 i2 i3 hc
  have e2 : fdA p1 (y4.toNatClampNeg + 1) (y5, y6) = fdA p1 y4.toNatClampNeg (va_up y5 y6.toNatClampNeg ((p1 >>> ((8 * Int32.ofNat y4.toNatClampNeg) &&& 31)) &&& 255), y6 + 1) := rfl
  have hq : fdA p1 (y4 + (-1) + 1).toNatClampNeg (va_up y5 y6.toNatClampNeg ((p1 >>> ((8 * y4) &&& 31)) &&& 255), y6 + 1) = R := by
    rw [← i4, s3, s2, e2, s7]
  exact ⟨s4, s5, s6, hq⟩
theorem fdEnd {p1 y4 y6 : Int32} {y5 : Nat → Int32} {R : (Nat → Int32) × Int32} (h : FdI p1 R (y4, y5, y6)) (hc : y4 < 0) : (y5, y6) = R := by
  obtain ⟨i1, i2, i3, i4⟩ := h
  have i1 : -1 ≤ y4 ∧ y4 ≤ 3 := i1
  have i4 : fdA p1 (y4 + 1).toNatClampNeg (y5, y6) = R := i4
  have e : y4 = -1 := by clear i2 i3 i4; grind
  rw [← i4, e]
  rfl
theorem fdStepC {p1 a b c d y4 y6 : Int32} {y5 : Nat → Int32} {R : (Nat → Int32) × Int32} (h : FdI p1 R (y4, y5, y6)) : Sf (fX6_feed_s42 p1 a b c d y4 y5 y6) (LQ (FdI p1 R) (fun e => muDe e.1) (muDe y4) (fun r => r = R)) := by
  unfold fX6_feed_s42
  refine Sf.ite (fun hc => Sf.inr (fdEnd h hc)) (fun hc => ?_)
  have s1 := (fd_step h.1 h.2.1 h.2.2.1 hc).1
  have s1 : 0 ≤ y6 ∧ y6 < 250 := s1
  unfold fX3_put
  dsimp only [u6]
  rw [if_neg (Int32.not_le.mpr s1.2)]
  refine Sf.bind (P := fun r : (Nat → Int32) × Int32 => r = (va_up y5 y6.toNatClampNeg ((p1 >>> ((8 * y4) &&& 31)) &&& 255), y6 + 1)) (Sf.wrb 250 rfl s1 (fun f e => Sf.ok (by rw [e]))) ?_
  rintro ⟨g10, g11⟩ e
  cases e
  exact Sf.inl (fdNext h hc) (muDe_lta hc)
theorem fdStepR {p1 y4 y6 : Int32} {y5 : Nat → Int32} {R : (Nat → Int32) × Int32} (h : FdI p1 R (y4, y5, y6)) : Sf (fX7_feed_s42 p1 y4 y5 y6) (LQ (FdI p1 R) (fun e => muDe e.1) (muDe y4) (fun r => r = R)) := by
  unfold fX7_feed_s42
  refine Sf.ite (fun hc => Sf.inr (fdEnd h hc)) (fun hc => ?_)
  have s1 := (fd_step h.1 h.2.1 h.2.2.1 hc).1
  have s1 : 0 ≤ y6 ∧ y6 < 250 := s1
  refine Sf.someb (fun t10 e10 => ?_)
  refine Sf.wrb 250 rfl s1 (fun f11 e11 => ?_)
  rw [e11, e10]
  exact Sf.inl (fdNext h hc) (muDe_lta hc)
theorem fdLoopC {n : Nat} {p1 a b c d z4 z6 : Int32} {z5 : Nat → Int32} (hn : 1000000000000 ≤ n) (h1 : -1 ≤ z4 ∧ z4 ≤ 3) (h2 : 0 ≤ z6) (h3 : z6.toInt + z4.toInt + 1 ≤ 250) : Sf (lp (u3 (fX6_feed_s42 p1 a b c d)) n (z4, z5, z6)) (fun r => r = fdA p1 (z4 + 1).toNatClampNeg (z5, z6)) :=
  Sf.loop (FdI p1 (fdA p1 (z4 + 1).toNatClampNeg (z5, z6))) (fun (e : Int32 × (Nat → Int32) × Int32) => muDe e.1) (fun s h => by rw [u3_def]; exact fdStepC h) n _ ⟨h1, h2, h3, rfl⟩ (muDe_n hn)
theorem fdLoopR {n : Nat} {p1 z4 z6 : Int32} {z5 : Nat → Int32} (hn : 1000000000000 ≤ n) (h1 : -1 ≤ z4 ∧ z4 ≤ 3) (h2 : 0 ≤ z6) (h3 : z6.toInt + z4.toInt + 1 ≤ 250) : Sf (lp (u3 (fX7_feed_s42 p1)) n (z4, z5, z6)) (fun r => r = fdA p1 (z4 + 1).toNatClampNeg (z5, z6)) :=
  Sf.loop (FdI p1 (fdA p1 (z4 + 1).toNatClampNeg (z5, z6))) (fun (e : Int32 × (Nat → Int32) × Int32) => muDe e.1) (fun s h => by rw [u3_def]; exact fdStepR h) n _ ⟨h1, h2, h3, rfl⟩ (muDe_n hn)
theorem fd_in {p2 s : Int32} (hs : 0 ≤ s ∧ s ≤ 250) (hp : 1 ≤ p2 ∧ p2 ≤ 4) (h : s + p2 ≤ 250) : (-1 ≤ p2 - 1 ∧ p2 - 1 ≤ 3) ∧ s.toInt + (p2 - 1).toInt + 1 ≤ 250 := by
  have a := i32_b hs
  have b := i32_b hp
  have z0 : (0 : Int32).toInt = 0 := by decide
  have z1 : (1 : Int32).toInt = 1 := by decide
  have z4 : (4 : Int32).toInt = 4 := by decide
  have zz : (250 : Int32).toInt = 250 := by decide
  have c := Int32.le_iff_toInt_le.mp h
  rw [i32_add (by omega) (by omega)] at c
  have e : (p2 - 1).toInt = p2.toInt - 1 := by
    have : p2 - 1 = p2 + (-1) := by grind
    rw [this, i32_add (by rw [show (-1 : Int32).toInt = -1 from by decide]; omega) (by rw [show (-1 : Int32).toInt = -1 from by decide]; omega), show (-1 : Int32).toInt = -1 from by decide]
    omega
  refine ⟨by grind, by omega⟩
theorem feedC {n : Nat} {x0_refused : (Nat → Int32)} {x0_isKept : Int32} {x0_gone : Int32} {x0_spent : Int32} {x1_bytes : (Nat → Int32)} {x1_size : Int32} {x1_start : Int32} {x1_end : Int32} {x1_token : Int32} {x1_value : Int32} {p1 p2 : Int32} (hn : 1000000000000 ≤ n) (hs : 0 ≤ x1_size ∧ x1_size ≤ 250) : Sf (fX6_feed n (x0_refused, x0_isKept, x0_gone, x0_spent) (x1_bytes, x1_size, x1_start, x1_end, x1_token, x1_value) p1 p2) (fun r => ((1 ≤ p2 ∧ p2 ≤ 4) ∧ x1_size + p2 ≤ 250 ∧ r.2.2.1 = (fdA p1 (p2 - 1 + 1).toNatClampNeg (x1_bytes, x1_size)).1) ∨ (¬ ((1 ≤ p2 ∧ p2 ≤ 4) ∧ x1_size + p2 ≤ 250) ∧ r.2.2.1 = x1_bytes)) := by
  unfold fX6_feed
  dsimp only [u4, u6]
  refine Sf.bind sX6_within (fun v1 h1 => Sf.ite (fun hz => ?_) (fun hz => ?_))
  · refine Sf.bind refC ?_
    rintro ⟨v, g⟩ e
    exact Sf.ok (Or.inr ⟨fun h => gd0 h1 hz h.1, rfl⟩)
  refine Sf.ite (fun hl => ?_) (fun hl => ?_)
  · obtain ⟨q1, q2⟩ := fd_in hs (gd1 h1 hz) hl
    refine Sf.bind (fdLoopC hn q1 hs.1 q2) ?_
    rintro ⟨w8, w9⟩ e
    refine Sf.ok (Or.inl ⟨gd1 h1 hz, hl, ?_⟩)
    show w8 = _
    rw [← e]
  · refine Sf.bind refC ?_
    rintro ⟨v, g⟩ e
    exact Sf.ok (Or.inr ⟨fun h => hl h.2, rfl⟩)
theorem feedR {n : Nat} {x0_shelf : (Nat → Int32)} {x0_rowSort : (Nat → Int32)} {x0_rowSize : (Nat → Int32)} {x0_rows : (Nat → Nat → Int64)} {x0_moved : (Nat → Int64)} {x0_shown : (Nat → Int32)} {x0_tape : (Nat → Int32)} {x0_tapeSize : Int32} {x0_refused : (Nat → Int32)} {x0_lines : Int32} {x0_line : (Nat → Nat → Int32)} {x0_changes : (Nat → Int32)} {x0_coins : (Nat → Int32)} {x0_goods : Int32} {x0_good : (Nat → Nat → Int32)} {x0_works : Int32} {x0_work : (Nat → Nat → Int32)} {x0_years : Int32} {x0_gone : Int32} {x0_spent : Int32} {x0_at : Int32} {x0_token : Int32} {x0_from : Int32} {x0_figures : Int64} {x0_fault : Int32} {x0_numbers : (Nat → Int32)} {x0_statements : Int32} {x0_left : (Nat → Int32)} {x0_far : (Nat → Int32)} {x0_tons : Int32} {x0_way : (Nat → Int32)} {x0_steps : Int32} {x0_met : Int64} {x0_queue : (Nat → Int32)} {x0_totals : (Nat → Int32)} {p1 p2 : Int32} (hn : 1000000000000 ≤ n) (h_x0_shelf : (AI 0 2 x0_shelf)) (h_x0_rowSize : (AI 0 40 x0_rowSize)) (h_x0_tapeSize : (0 ≤ x0_tapeSize ∧ x0_tapeSize ≤ 250)) (h_x0_lines : (0 ≤ x0_lines ∧ x0_lines ≤ 20)) (h_x0_line : (LnM x0_line)) (h_x0_changes : (AI 0 99 x0_changes)) (h_x0_coins : (AI 0 9 x0_coins)) (h_x0_goods : (0 ≤ x0_goods ∧ x0_goods ≤ 8)) (h_x0_good : (GdM x0_good)) (h_x0_works : (0 ≤ x0_works ∧ x0_works ≤ 7)) (h_x0_work : (WkM x0_work)) (h_x0_years : (1 ≤ x0_years ∧ x0_years ≤ 30)) (h_x0_from : (0 ≤ x0_from ∧ x0_from ≤ 250)) (h_x0_far : (AI 0 1000000000 x0_far)) (h_x0_way : (AI 0 22 x0_way)) (h_x0_steps : (0 ≤ x0_steps ∧ x0_steps ≤ 37)) (h_x0_queue : (AI 0 35 x0_queue)) : Sf (fX7_feed n (x0_shelf, x0_rowSort, x0_rowSize, x0_rows, x0_moved, x0_shown, x0_tape, x0_tapeSize, x0_refused, x0_lines, x0_line, x0_changes, x0_coins, x0_goods, x0_good, x0_works, x0_work, x0_years, x0_gone, x0_spent, x0_at, x0_token, x0_from, x0_figures, x0_fault, x0_numbers, x0_statements, x0_left, x0_far, x0_tons, x0_way, x0_steps, x0_met, x0_queue, x0_totals) p1 p2) (fun r => ((1 ≤ p2 ∧ p2 ≤ 4) ∧ x0_tapeSize + p2 ≤ 250 ∧ r.2.1 = (fdA p1 (p2 - 1 + 1).toNatClampNeg (x0_tape, x0_tapeSize)).1) ∨ (¬ ((1 ≤ p2 ∧ p2 ≤ 4) ∧ x0_tapeSize + p2 ≤ 250) ∧ r.2.1 = x0_tape)) := by
  unfold fX7_feed
  dsimp only [u35]
  refine Sf.bind (s_inq p2 1 4 (by decide) (by decide)) (fun v1 h1 => Sf.ite (fun hz => ?_) (fun hz => ?_))
  · refine Sf.bind (sX7_refuse h_x0_shelf h_x0_rowSize h_x0_tapeSize h_x0_lines h_x0_line h_x0_changes h_x0_coins h_x0_goods h_x0_good h_x0_works h_x0_work h_x0_years h_x0_from h_x0_far h_x0_way h_x0_steps h_x0_queue (by decide)) ?_
    rintro ⟨v, g⟩ e
    exact Sf.ok (Or.inr ⟨fun h => gd0 h1 hz h.1, rfl⟩)
  have hp := gd1 h1 hz
  refine Sf.ite (fun hl => ?_) (fun hl => ?_)
  · have hl : x0_tapeSize + p2 ≤ 250 := by clear h1; grind
    obtain ⟨q1, q2⟩ := fd_in h_x0_tapeSize hp hl
    refine Sf.bind (fdLoopR hn q1 h_x0_tapeSize.1 q2) ?_
    rintro ⟨w8, w9⟩ e
    refine Sf.ok (Or.inl ⟨hp, hl, ?_⟩)
    show w8 = _
    rw [← e]
  · refine Sf.bind (sX7_refuse h_x0_shelf h_x0_rowSize h_x0_tapeSize h_x0_lines h_x0_line h_x0_changes h_x0_coins h_x0_goods h_x0_good h_x0_works h_x0_work h_x0_years h_x0_from h_x0_far h_x0_way h_x0_steps h_x0_queue (by decide)) ?_
    rintro ⟨v, g⟩ e
    refine Sf.ok (Or.inr ⟨fun h => hl ?_, rfl⟩)
    have h2 := h.2
    clear h1
    grind
theorem dFeed {n : Nat} {x0_refused : (Nat → Int32)} {x0_isKept : Int32} {x0_gone : Int32} {x0_spent : Int32} {x1_bytes : (Nat → Int32)} {x1_size : Int32} {x1_start : Int32} {x1_end : Int32} {x1_token : Int32} {x1_value : Int32} {m_shelf : (Nat → Int32)} {m_rowSort : (Nat → Int32)} {m_rowSize : (Nat → Int32)} {m_rows : (Nat → Nat → Int64)} {m_moved : (Nat → Int64)} {m_shown : (Nat → Int32)} {m_tape : (Nat → Int32)} {m_tapeSize : Int32} {m_refused : (Nat → Int32)} {m_lines : Int32} {m_line : (Nat → Nat → Int32)} {m_changes : (Nat → Int32)} {m_coins : (Nat → Int32)} {m_goods : Int32} {m_good : (Nat → Nat → Int32)} {m_works : Int32} {m_work : (Nat → Nat → Int32)} {m_years : Int32} {m_gone : Int32} {m_spent : Int32} {m_at : Int32} {m_token : Int32} {m_from : Int32} {m_figures : Int64} {m_fault : Int32} {m_numbers : (Nat → Int32)} {m_statements : Int32} {m_left : (Nat → Int32)} {m_far : (Nat → Int32)} {m_tons : Int32} {m_way : (Nat → Int32)} {m_steps : Int32} {m_met : Int64} {m_queue : (Nat → Int32)} {m_totals : (Nat → Int32)} {p1 p2 er e2 fr f1 : Int32} {e0 e1 f0 f2 : Nat → Int32} (hn : 1000000000000 ≤ n) (hs : 0 ≤ x1_size ∧ x1_size ≤ 250) (h_m_shelf : (AI 0 2 m_shelf)) (h_m_rowSize : (AI 0 40 m_rowSize)) (h_m_tapeSize : (0 ≤ m_tapeSize ∧ m_tapeSize ≤ 250)) (h_m_lines : (0 ≤ m_lines ∧ m_lines ≤ 20)) (h_m_line : (LnM m_line)) (h_m_changes : (AI 0 99 m_changes)) (h_m_coins : (AI 0 9 m_coins)) (h_m_goods : (0 ≤ m_goods ∧ m_goods ≤ 8)) (h_m_good : (GdM m_good)) (h_m_works : (0 ≤ m_works ∧ m_works ≤ 7)) (h_m_work : (WkM m_work)) (h_m_years : (1 ≤ m_years ∧ m_years ≤ 30)) (h_m_from : (0 ≤ m_from ∧ m_from ≤ 250)) (h_m_far : (AI 0 1000000000 m_far)) (h_m_way : (AI 0 22 m_way)) (h_m_steps : (0 ≤ m_steps ∧ m_steps ≤ 37)) (h_m_queue : (AI 0 35 m_queue)) (hz : x1_size = m_tapeSize) (hb : x1_bytes = m_tape) (eqA : fX6_feed n (x0_refused, x0_isKept, x0_gone, x0_spent) (x1_bytes, x1_size, x1_start, x1_end, x1_token, x1_value) p1 p2 = some (er, e0, e1, e2)) (eqB : fX7_feed n (m_shelf, m_rowSort, m_rowSize, m_rows, m_moved, m_shown, m_tape, m_tapeSize, m_refused, m_lines, m_line, m_changes, m_coins, m_goods, m_good, m_works, m_work, m_years, m_gone, m_spent, m_at, m_token, m_from, m_figures, m_fault, m_numbers, m_statements, m_left, m_far, m_tons, m_way, m_steps, m_met, m_queue, m_totals) p1 p2 = some (fr, f0, f1, f2)) : e1 = f0 := by
  have a := (feedC hn hs).at eqA
  have b := (feedR hn h_m_shelf h_m_rowSize h_m_tapeSize h_m_lines h_m_line h_m_changes h_m_coins h_m_goods h_m_good h_m_works h_m_work h_m_years h_m_from h_m_far h_m_way h_m_steps h_m_queue).at eqB
  subst hz hb
  rcases a with ⟨a1, a2, a3⟩ | ⟨a1, a2⟩ <;> rcases b with ⟨b1, b2, b3⟩ | ⟨b1, b2⟩
  · exact a3.trans b3.symm
  · exact absurd ⟨a1, a2⟩ b1
  · exact absurd ⟨b1, b2⟩ a1
  · exact a2.trans b2.symm

/-! works done: both sides do doA -/
theorem newLineS {x0_shelf : (Nat → Int32)} {x0_rowSort : (Nat → Int32)} {x0_rowSize : (Nat → Int32)} {x0_rows : (Nat → Nat → Int64)} {x0_moved : (Nat → Int64)} {x0_shown : (Nat → Int32)} {x0_tape : (Nat → Int32)} {x0_tapeSize : Int32} {x0_refused : (Nat → Int32)} {x0_lines : Int32} {x0_line : (Nat → Nat → Int32)} {x0_changes : (Nat → Int32)} {x0_coins : (Nat → Int32)} {x0_goods : Int32} {x0_good : (Nat → Nat → Int32)} {x0_works : Int32} {x0_work : (Nat → Nat → Int32)} {x0_years : Int32} {x0_gone : Int32} {x0_spent : Int32} {x0_at : Int32} {x0_token : Int32} {x0_from : Int32} {x0_figures : Int64} {x0_fault : Int32} {x0_numbers : (Nat → Int32)} {x0_statements : Int32} {x0_left : (Nat → Int32)} {x0_far : (Nat → Int32)} {x0_tons : Int32} {x0_way : (Nat → Int32)} {x0_steps : Int32} {x0_met : Int64} {x0_queue : (Nat → Int32)} {x0_totals : (Nat → Int32)} {p1 p2 : Int32} (hL : 0 ≤ x0_lines ∧ x0_lines < 20) : Sf (fX7_newLine (x0_shelf, x0_rowSort, x0_rowSize, x0_rows, x0_moved, x0_shown, x0_tape, x0_tapeSize, x0_refused, x0_lines, x0_line, x0_changes, x0_coins, x0_goods, x0_good, x0_works, x0_work, x0_years, x0_gone, x0_spent, x0_at, x0_token, x0_from, x0_figures, x0_fault, x0_numbers, x0_statements, x0_left, x0_far, x0_tons, x0_way, x0_steps, x0_met, x0_queue, x0_totals) p1 p2) (fun g => (∀ l, l ≠ x0_lines.toNatClampNeg → g l = x0_line l) ∧ ∀ c, c < 7 → g x0_lines.toNatClampNeg c = nlR p1 p2 999 c) := by
  unfold fX7_newLine
  dsimp only [u35]
  refine Sf.ckb 20 rfl hL (fun q1 e_q1 h_q1 => ?_)
  refine Sf.wrb 7 rfl (by decide) (fun f2 e2 => ?_)
  refine Sf.wrb 7 rfl (by decide) (fun f3 e3 => ?_)
  refine Sf.wrb 7 rfl (by decide) (fun f4 e4 => ?_)
  refine Sf.wrb 7 rfl (by decide) (fun f5 e5 => ?_)
  refine Sf.wrb 7 rfl (by decide) (fun f6 e6 => ?_)
  refine Sf.wrb 7 rfl (by decide) (fun f7 e7 => ?_)
  refine Sf.wrb 7 rfl (by decide) (fun f8 e8 => ?_)
  rw [va_eq] at e3 e4 e5 e6 e7 e8
  refine Sf.ok ⟨fun l hl => ?_, fun c hc => ?_⟩
  · rw [← e_q1] at hl
    rw [va_ne _ _ hl, va_ne _ _ hl, va_ne _ _ hl, va_ne _ _ hl, va_ne _ _ hl, va_ne _ _ hl, va_ne _ _ hl]
  · rw [← e_q1, va_eq, e8, e7, e6, e5, e4, e3, e2]
    rcases (show c = 0 ∨ c = 1 ∨ c = 2 ∨ c = 3 ∨ c = 4 ∨ c = 5 ∨ c = 6 by omega) with rfl | rfl | rfl | rfl | rfl | rfl | rfl <;> rfl
theorem nlR4 {a b x y : Int32} {c : Nat} (hc : c < 7) (f : Nat → Int32) (hf : ∀ c, c < 7 → f c = nlR a b x c) : va_up f 4 y c = nlR a b y c := by
  by_cases h : c = 4
  · subst h
    rw [va_eq]
    rfl
  · rw [va_ne _ _ h, hf c hc]
    rcases (show c = 0 ∨ c = 1 ∨ c = 2 ∨ c = 3 ∨ c = 5 ∨ c = 6 by omega) with rfl | rfl | rfl | rfl | rfl | rfl <;> rfl
theorem doesR {x0_shelf : (Nat → Int32)} {x0_rowSort : (Nat → Int32)} {x0_rowSize : (Nat → Int32)} {x0_rows : (Nat → Nat → Int64)} {x0_moved : (Nat → Int64)} {x0_shown : (Nat → Int32)} {x0_tape : (Nat → Int32)} {x0_tapeSize : Int32} {x0_refused : (Nat → Int32)} {x0_lines : Int32} {x0_line : (Nat → Nat → Int32)} {x0_changes : (Nat → Int32)} {x0_coins : (Nat → Int32)} {x0_goods : Int32} {x0_good : (Nat → Nat → Int32)} {x0_works : Int32} {x0_work : (Nat → Nat → Int32)} {x0_years : Int32} {x0_gone : Int32} {x0_spent : Int32} {x0_at : Int32} {x0_token : Int32} {x0_from : Int32} {x0_figures : Int64} {x0_fault : Int32} {x0_numbers : (Nat → Int32)} {x0_statements : Int32} {x0_left : (Nat → Int32)} {x0_far : (Nat → Int32)} {x0_tons : Int32} {x0_way : (Nat → Int32)} {x0_steps : Int32} {x0_met : Int64} {x0_queue : (Nat → Int32)} {x0_totals : (Nat → Int32)} {p1 : Int32} (h_x0_lines : (0 ≤ x0_lines ∧ x0_lines ≤ 20)) (h_x0_work : WkM x0_work) (h_p1 : 0 ≤ p1 ∧ p1 ≤ 6) : Sf (fX7_does (x0_shelf, x0_rowSort, x0_rowSize, x0_rows, x0_moved, x0_shown, x0_tape, x0_tapeSize, x0_refused, x0_lines, x0_line, x0_changes, x0_coins, x0_goods, x0_good, x0_works, x0_work, x0_years, x0_gone, x0_spent, x0_at, x0_token, x0_from, x0_figures, x0_fault, x0_numbers, x0_statements, x0_left, x0_far, x0_tons, x0_way, x0_steps, x0_met, x0_queue, x0_totals) p1) (fun r => AbEq (r.1, r.2.1, r.2.2.1) (doA x0_work p1.toNatClampNeg (x0_lines, x0_line, x0_changes)) ∧ r.2.2.2 = va_up x0_work p1.toNatClampNeg (va_up (x0_work p1.toNatClampNeg) 4 1)) := by
  unfold fX7_does
  dsimp only [u35]
  refine Sf.ckb 7 rfl (by grind) (fun q1 e_q1 h_q1 => ?_)
  refine Sf.wrb 5 rfl (by decide) (fun f2 e2 => ?_)
  have e2 : f2 = va_up (x0_work q1) 4 1 := e2
  have er : va_up x0_work q1 f2 q1 = f2 := va_eq _ _ _
  have n0 : f2 0 = x0_work q1 0 := by rw [e2]; exact va_ne _ _ (by decide)
  have n1 : f2 1 = x0_work q1 1 := by rw [e2]; exact va_ne _ _ (by decide)
  have n2 : f2 2 = x0_work q1 2 := by rw [e2]; exact va_ne _ _ (by decide)
  rw [er]
  obtain ⟨hB, hR⟩ := h_x0_work
  have hR := hR q1 (by omega)
  obtain ⟨r1, r2, r3⟩ := hR
  have hb1 : 0 ≤ x0_work q1 1 ∧ x0_work q1 1 ≤ 19 := hB q1 1
  have last : va_up x0_work q1 f2 = va_up x0_work p1.toNatClampNeg (va_up (x0_work p1.toNatClampNeg) 4 1) := by rw [e2, e_q1]
  refine Sf.rdl 0 rfl rfl (fun v3 e3 => ?_)
  rw [n0] at e3
  rw [← e_q1]
  rw [← e_q1] at last
  refine Sf.ite (fun k1 => ?_) (fun k1 => ?_)
  · rw [e3] at k1
    refine Sf.rdl 1 rfl rfl (fun v4 e4 => ?_)
    rw [n1] at e4
    refine Sf.ckb 20 rfl (by rw [e4]; grind) (fun q5 e_q5 h_q5 => ?_)
    refine Sf.rdl 2 rfl rfl (fun v6 e6 => ?_)
    rw [n2] at e6
    refine Sf.someb (fun t7 e7 => ?_)
    refine Sf.wrb 7 rfl (by decide) (fun f8 e8 => ?_)
    refine Sf.ok ⟨?_, last⟩
    unfold doA
    rw [if_pos k1]
    show AbEq (x0_lines, va_up x0_line q5 f8, x0_changes) (x0_lines, va_up x0_line (x0_work q1 1).toNatClampNeg (va_up (x0_line (x0_work q1 1).toNatClampNeg) 2 ((1 : Int32) <<< (x0_work q1 2 &&& 31))), x0_changes)
    have e8 : f8 = va_up (x0_line q5) 2 t7 := e8
    rw [e8, e7, e6, e_q5, e4]
    exact AbEq.refl _
  rw [e3] at k1
  refine Sf.ite (fun k2 => ?_) (fun k2 => ?_)
  · rw [e3] at k2
    refine Sf.rdl 1 rfl rfl (fun v4 e4 => ?_)
    rw [n1] at e4
    refine Sf.ckb 20 rfl (by rw [e4]; grind) (fun q5 e_q5 h_q5 => ?_)
    refine Sf.rdl 2 rfl rfl (fun v11 e11 => ?_)
    refine Sf.rdl 2 rfl rfl (fun v6 e6 => ?_)
    rw [n2] at e6
    refine Sf.someb (fun t7 e7 => ?_)
    refine Sf.wrb 7 rfl (by decide) (fun f8 e8 => ?_)
    refine Sf.ok ⟨?_, last⟩
    unfold doA
    rw [if_neg k1, if_pos k2]
    show AbEq (x0_lines, va_up x0_line q5 f8, x0_changes) (x0_lines, va_up x0_line (x0_work q1 1).toNatClampNeg (va_up (x0_line (x0_work q1 1).toNatClampNeg) 2 (x0_line (x0_work q1 1).toNatClampNeg 2 ||| ((1 : Int32) <<< (x0_work q1 2 &&& 31)))), x0_changes)
    have e8 : f8 = va_up (x0_line q5) 2 t7 := e8
    rw [e8, e7, e6, e11, e_q5, e4]
    exact AbEq.refl _
  rw [e3] at k2
  refine Sf.ite (fun k3 => ?_) (fun k3 => ?_)
  · rw [e3] at k3
    refine Sf.rdl 1 rfl rfl (fun v4 e4 => ?_)
    rw [n1] at e4
    refine Sf.rdl 2 rfl rfl (fun v6 e6 => ?_)
    rw [n2] at e6
    have r2 := r2 k3
    refine Sf.wrb 12 rfl (by rw [e4]; grind) (fun f17 e17 => ?_)
    refine Sf.ok ⟨?_, last⟩
    unfold doA
    rw [if_neg k1, if_neg k2, if_pos k3]
    show AbEq (x0_lines, x0_line, f17) (x0_lines, x0_line, va_up x0_changes (x0_work q1 1).toNatClampNeg (x0_work q1 2))
    rw [e17, e6, e4]
    exact AbEq.refl _
  rw [e3] at k3
  refine Sf.ite (fun k4 => ?_) (fun k4 => ?_)
  · refine Sf.ok ⟨?_, last⟩
    unfold doA
    rw [if_neg k1, if_neg k2, if_neg k3, if_pos k4]
    exact AbEq.refl _
  · have hL : 0 ≤ x0_lines ∧ x0_lines < 20 := ⟨h_x0_lines.1, Int32.not_le.mp k4⟩
    refine Sf.rdl 1 rfl rfl (fun v18 e18 => ?_)
    rw [n1] at e18
    refine Sf.rdl 2 rfl rfl (fun v19 e19 => ?_)
    rw [n2] at e19
    refine Sf.bind (newLineS hL) ?_
    rintro g20 ⟨hg1, hg2⟩
    refine Sf.ckb 20 rfl hL (fun q22 e_q22 h_q22 => ?_)
    refine Sf.rdl 0 rfl rfl (fun v23 e23 => ?_)
    rw [n0] at e23
    obtain ⟨u1, u2, u3⟩ := up1 h_x0_lines.1 (B := 20) (by decide) k4
    have fin : ∀ y : Int32, (if x0_work q1 0 = 4 then (99 : Int32) else 198) = y → Sf (fX7_does_j137 x0_lines x0_changes x0_work q1 f2 g20 q22 y) (fun r => AbEq (r.1, r.2.1, r.2.2.1) (doA x0_work q1 (x0_lines, x0_line, x0_changes)) ∧ r.2.2.2 = va_up x0_work q1 (va_up (x0_work q1) 4 1)) := by
      intro y hy
      unfold fX7_does_j137
      refine Sf.wrb 7 rfl (by decide) (fun f25 e25 => ?_)
      refine Sf.ok ⟨?_, last⟩
      unfold doA
      rw [if_neg k1, if_neg k2, if_neg k3, if_neg k4, hy]
      refine ⟨rfl, fun l hl c hc => ?_, fun p hp => rfl⟩
      show va_up g20 q22 f25 l c = va_up x0_line x0_lines.toNatClampNeg (nlR (x0_work q1 1) (x0_work q1 2) y) l c
      by_cases hla : l = x0_lines.toNatClampNeg
      · rw [hla, e_q22, va_eq, va_eq, e25, ← e18, ← e19]
        refine nlR4 (x := 999) hc _ ?_
        rw [e_q22]
        exact hg2
      · rw [e_q22, va_ne _ _ hla, va_ne _ _ hla, hg1 l hla]
    refine Sf.ite (fun k5 => ?_) (fun k5 => ?_)
    · exact fin _ (by rw [← e23, if_pos k5])
    · exact fin _ (by rw [← e23, if_neg k5])
/-- class: the row of a line that is put -/
theorem hasWorkS {x0_lineCount : Int32} {x0_goodsCount : Int32} {x0_workCount : Int32} {x0_years : Int32} {x0_lines : (Nat → Int32)} {x0_goods : (Nat → Int32)} {x0_works : (Nat → Int32)} {x0_change : (Nat → Int32)} {x0_coin : (Nat → Int32)} {x0_knownFree : (Nat → Int32)} {x0_isKnown : Int32} {p1 : Int32} : Sf (fX1_hasWork (x0_lineCount, x0_goodsCount, x0_workCount, x0_years, x0_lines, x0_goods, x0_works, x0_change, x0_coin, x0_knownFree, x0_isKnown) p1) (fun r => (r = 1 ∧ 0 ≤ p1 ∧ p1 ≤ x0_workCount - 1) ∨ (r = 0 ∧ (p1 < 0 ∨ x0_workCount - 1 < p1))) := by
  unfold fX1_hasWork
  dsimp only [u11]
  refine Sf.bind sX6_within (fun v h => ?_)
  exact Sf.zbb (by rcases h with h | h; exact Or.inr h.1; exact Or.inl h.1) (fun r e => Sf.ok (by rw [e]; exact h))
theorem hasLineS {x0_lineCount : Int32} {x0_goodsCount : Int32} {x0_workCount : Int32} {x0_years : Int32} {x0_lines : (Nat → Int32)} {x0_goods : (Nat → Int32)} {x0_works : (Nat → Int32)} {x0_change : (Nat → Int32)} {x0_coin : (Nat → Int32)} {x0_knownFree : (Nat → Int32)} {x0_isKnown : Int32} {p1 : Int32} : Sf (fX1_hasLine (x0_lineCount, x0_goodsCount, x0_workCount, x0_years, x0_lines, x0_goods, x0_works, x0_change, x0_coin, x0_knownFree, x0_isKnown) p1) (fun r => (r = 1 ∧ 0 ≤ p1 ∧ p1 ≤ x0_lineCount - 1) ∨ (r = 0 ∧ (p1 < 0 ∨ x0_lineCount - 1 < p1))) := by
  unfold fX1_hasLine
  dsimp only [u11]
  refine Sf.bind sX6_within (fun v h => ?_)
  exact Sf.zbb (by rcases h with h | h; exact Or.inr h.1; exact Or.inl h.1) (fun r e => Sf.ok (by rw [e]; exact h))
theorem putWidthsS {x0_lineCount : Int32} {x0_goodsCount : Int32} {x0_workCount : Int32} {x0_years : Int32} {x0_lines : (Nat → Int32)} {x0_goods : (Nat → Int32)} {x0_works : (Nat → Int32)} {x0_change : (Nat → Int32)} {x0_coin : (Nat → Int32)} {x0_knownFree : (Nat → Int32)} {x0_isKnown : Int32} {p1 p2 : Int32} (hp : 0 ≤ p1 ∧ p1 < x0_lineCount) (h20 : x0_lineCount ≤ 20) : Sf (fX1_putWidths (x0_lineCount, x0_goodsCount, x0_workCount, x0_years, x0_lines, x0_goods, x0_works, x0_change, x0_coin, x0_knownFree, x0_isKnown) p1 p2) (fun r => r.1 = va_up x0_lines (7 * p1.toNatClampNeg + 2) p2 ∧ r.2 = 0) := by
  unfold fX1_putWidths
  dsimp only [u11]
  refine Sf.ite (fun h => absurd h (Int32.not_lt.mpr hp.1)) (fun _ => ?_)
  refine Sf.ite (fun h => absurd h (Int32.not_le.mpr hp.2)) (fun _ => ?_)
  obtain ⟨hi, he⟩ := ix7 (z := p1) (c := 2) ⟨hp.1, Int32.lt_of_lt_of_le hp.2 h20⟩ (by decide)
  refine Sf.wrb 140 rfl hi (fun f1 e1 => ?_)
  rw [he] at e1
  exact Sf.ok ⟨e1, rfl⟩
theorem ro_put {lines : Nat → Int32} {a : Nat} {x : Int32} (l c : Nat) (hc : c < 7) : ro 7 (va_up lines (7 * a + 2) x) l c = va_up (ro 7 lines) a (va_up (ro 7 lines a) 2 x) l c := by
  rw [ro_eq hc]
  by_cases hla : l = a
  · subst hla
    rw [va_eq]
    by_cases h2 : c = 2
    · subst h2
      rw [va_eq, va_eq]
    · rw [va_ne _ _ h2, ro_eq hc, va_ne _ _ (by omega)]
  · rw [va_ne _ _ hla, ro_eq hc, va_ne _ _ (by omega)]
theorem addLineS {x0_lineCount : Int32} {x0_goodsCount : Int32} {x0_workCount : Int32} {x0_years : Int32} {x0_lines : (Nat → Int32)} {x0_goods : (Nat → Int32)} {x0_works : (Nat → Int32)} {x0_change : (Nat → Int32)} {x0_coin : (Nat → Int32)} {x0_knownFree : (Nat → Int32)} {x0_isKnown : Int32} {p1 p2 p3 p4 p5 p6 : Int32} (hL : 0 ≤ x0_lineCount ∧ x0_lineCount ≤ 20) : Sf (fX1_addLine (x0_lineCount, x0_goodsCount, x0_workCount, x0_years, x0_lines, x0_goods, x0_works, x0_change, x0_coin, x0_knownFree, x0_isKnown) p1 p2 p3 p4 p5 p6) (fun r => (20 ≤ x0_lineCount ∧ r = (x0_lineCount, x0_lines, x0_isKnown)) ∨ (x0_lineCount < 20 ∧ r.1 = x0_lineCount + 1 ∧ r.2.2 = 0 ∧ (∀ l c, c < 7 → l ≠ x0_lineCount.toNatClampNeg → r.2.1 (7 * l + c) = x0_lines (7 * l + c)) ∧ ∀ c, c < 7 → r.2.1 (7 * x0_lineCount.toNatClampNeg + c) = ([p1, p2, p3, p4, p5, p6, 0] : List Int32).getD c 0)) := by
  unfold fX1_addLine
  dsimp only [u11]
  refine Sf.ite (fun h => ?_) (fun h => Sf.ok (Or.inl ⟨Int32.not_lt.mp h, rfl⟩))
  have ix : ∀ c : Int32, 0 ≤ c ∧ c < 7 → _ := fun c hc => ix7 (z := x0_lineCount) (c := c) ⟨hL.1, h⟩ hc
  refine Sf.wrb 140 rfl (ix 0 (by decide)).1 (fun f1 e1 => ?_)
  refine Sf.wrb 140 rfl (ix 1 (by decide)).1 (fun f2 e2 => ?_)
  refine Sf.wrb 140 rfl (ix 2 (by decide)).1 (fun f3 e3 => ?_)
  refine Sf.wrb 140 rfl (ix 3 (by decide)).1 (fun f4 e4 => ?_)
  refine Sf.wrb 140 rfl (ix 4 (by decide)).1 (fun f5 e5 => ?_)
  refine Sf.wrb 140 rfl (ix 5 (by decide)).1 (fun f6 e6 => ?_)
  refine Sf.wrb 140 rfl (ix 6 (by decide)).1 (fun f7 e7 => ?_)
  rw [(ix 0 (by decide)).2, show (0 : Int32).toNatClampNeg = 0 from rfl] at e1
  rw [(ix 1 (by decide)).2, show (1 : Int32).toNatClampNeg = 1 from rfl] at e2
  rw [(ix 2 (by decide)).2, show (2 : Int32).toNatClampNeg = 2 from rfl] at e3
  rw [(ix 3 (by decide)).2, show (3 : Int32).toNatClampNeg = 3 from rfl] at e4
  rw [(ix 4 (by decide)).2, show (4 : Int32).toNatClampNeg = 4 from rfl] at e5
  rw [(ix 5 (by decide)).2, show (5 : Int32).toNatClampNeg = 5 from rfl] at e6
  rw [(ix 6 (by decide)).2, show (6 : Int32).toNatClampNeg = 6 from rfl] at e7
  refine Sf.ok (Or.inr ⟨h, rfl, rfl, fun l c hc hl => ?_, fun c hc => ?_⟩)
  · show f7 _ = _
    rw [e7, va_ne _ _ (by omega), e6, va_ne _ _ (by omega), e5, va_ne _ _ (by omega), e4, va_ne _ _ (by omega), e3, va_ne _ _ (by omega), e2, va_ne _ _ (by omega), e1, va_ne _ _ (by omega)]
  · show f7 _ = _
    rw [e7, e6, e5, e4, e3, e2, e1]
    rcases (show c = 0 ∨ c = 1 ∨ c = 2 ∨ c = 3 ∨ c = 4 ∨ c = 5 ∨ c = 6 by omega) with rfl | rfl | rfl | rfl | rfl | rfl | rfl
    · rw [va_ne _ _ (by omega), va_ne _ _ (by omega), va_ne _ _ (by omega), va_ne _ _ (by omega), va_ne _ _ (by omega), va_ne _ _ (by omega), va_eq]; rfl
    · rw [va_ne _ _ (by omega), va_ne _ _ (by omega), va_ne _ _ (by omega), va_ne _ _ (by omega), va_ne _ _ (by omega), va_eq]; rfl
    · rw [va_ne _ _ (by omega), va_ne _ _ (by omega), va_ne _ _ (by omega), va_ne _ _ (by omega), va_eq]; rfl
    · rw [va_ne _ _ (by omega), va_ne _ _ (by omega), va_ne _ _ (by omega), va_eq]; rfl
    · rw [va_ne _ _ (by omega), va_ne _ _ (by omega), va_eq]; rfl
    · rw [va_ne _ _ (by omega), va_eq]; rfl
    · rw [va_eq]; rfl
theorem ofWorkV {x0_lineCount : Int32} {x0_goodsCount : Int32} {x0_workCount : Int32} {x0_years : Int32} {x0_lines : (Nat → Int32)} {x0_goods : (Nat → Int32)} {x0_works : (Nat → Int32)} {x0_change : (Nat → Int32)} {x0_coin : (Nat → Int32)} {x0_knownFree : (Nat → Int32)} {x0_isKnown : Int32} {z c : Int32} (h : WkOk x0_works) (hz : 0 ≤ z ∧ z ≤ 6) (hc : 0 ≤ c ∧ c < 5) : Sf (fX1_ofWork (x0_lineCount, x0_goodsCount, x0_workCount, x0_years, x0_lines, x0_goods, x0_works, x0_change, x0_coin, x0_knownFree, x0_isKnown) z c) (fun r => r = ro 5 x0_works z.toNatClampNeg c.toNatClampNeg) := by
  refine Sf.mono (s_ofWork h hz hc) (fun r e => ?_)
  have e := e.2
  rw [e, ro_eq, Nat.mul_comm]
  have a := i32_cl hc.1
  have b := Int32.lt_iff_toInt_lt.mp hc.2
  have e5 : (5 : Int32).toInt = 5 := by decide
  omega
theorem performC {x0_lineCount : Int32} {x0_goodsCount : Int32} {x0_workCount : Int32} {x0_years : Int32} {x0_lines : (Nat → Int32)} {x0_goods : (Nat → Int32)} {x0_works : (Nat → Int32)} {x0_change : (Nat → Int32)} {x0_coin : (Nat → Int32)} {x0_knownFree : (Nat → Int32)} {x0_isKnown : Int32} {p1 : Int32} (h_x0_lineCount : (0 ≤ x0_lineCount ∧ x0_lineCount ≤ 20)) (h_x0_goodsCount : (0 ≤ x0_goodsCount ∧ x0_goodsCount ≤ 8)) (h_x0_workCount : (0 ≤ x0_workCount ∧ x0_workCount ≤ 7)) (h_x0_years : (1 ≤ x0_years ∧ x0_years ≤ 30)) (h_x0_lines : (LnOk x0_lines)) (h_x0_goods : (GdOk x0_goods)) (h_x0_works : (WkOk x0_works)) (h_x0_change : (AI 0 99 x0_change)) (h_x0_coin : (AI 0 9 x0_coin)) (h_p1 : 0 ≤ p1 ∧ p1 < x0_workCount) (hf : Wf1 (ro 5 x0_works) x0_lineCount p1.toNatClampNeg) : Sf (fX1_perform (x0_lineCount, x0_goodsCount, x0_workCount, x0_years, x0_lines, x0_goods, x0_works, x0_change, x0_coin, x0_knownFree, x0_isKnown) p1) (fun r => AbEq (r.1, ro 7 r.2.1, r.2.2.1) (doA (ro 5 x0_works) p1.toNatClampNeg (x0_lineCount, ro 7 x0_lines, x0_change))) := by
  obtain ⟨f1, f2, f3, f4⟩ := hf
  have hp6 : 0 ≤ p1 ∧ p1 ≤ 6 := by clear f1 f2 f3 f4; grind
  unfold fX1_perform
  dsimp only [u11]
  refine Sf.bind hasWorkS (fun v1 h1 => ?_)
  refine Sf.ite (fun hz => ?_) (fun _ => ?_)
  · exfalso
    rcases h1 with h1 | h1
    · rw [h1.1] at hz; exact absurd hz (by decide)
    · clear f1 f2 f3 f4; grind
  refine Sf.bind (ofWorkV h_x0_works hp6 (by decide)) (fun v3 e3 => ?_)
  refine Sf.bind (ofWorkV h_x0_works hp6 (by decide)) (fun v5 e5 => ?_)
  refine Sf.bind (ofWorkV h_x0_works hp6 (by decide)) (fun v7 e7 => ?_)
  have e3 : v3 = ro 5 x0_works p1.toNatClampNeg 1 := e3
  have e5 : v5 = ro 5 x0_works p1.toNatClampNeg 2 := e5
  have e7 : v7 = ro 5 x0_works p1.toNatClampNeg 0 := e7
  rw [← e3] at f2 f3 f4
  rw [← e7] at f1 f3 f4
  unfold doA
  rw [← e3, ← e5, ← e7]
  refine Sf.ite (fun k1 => ?_) (fun k1 => ?_)
  · refine Sf.bind (putWidthsS ⟨f2, f3 (Or.inl k1)⟩ h_x0_lineCount.2) ?_
    rintro ⟨g9, g10⟩ ⟨e9, _⟩
    have e9 : g9 = _ := e9
    rw [if_pos k1]
    refine Sf.ok ⟨rfl, fun l hl c hc => ?_, fun p hp => rfl⟩
    show ro 7 g9 l c = va_up (ro 7 x0_lines) v3.toNatClampNeg _ l c
    rw [e9]
    exact ro_put l c hc
  rw [if_neg k1]
  refine Sf.ite (fun k2 => ?_) (fun k2 => ?_)
  · have f3 := f3 (Or.inr k2)
    refine Sf.bind hasLineS (fun v12 h12 => ?_)
    refine Sf.ite (fun hz => ?_) (fun _ => ?_)
    · exfalso
      rcases h12 with hx | hx
      · rw [hx.1] at hz; exact absurd hz (by decide)
      · have hx := hx.2
        clear f1 f4 h1 k1 k2 e3 e5 e7 h_p1 hp6 h_x0_works h_x0_goods h_x0_lines h_x0_change h_x0_coin; grind
    refine Sf.bind (ofLineV (z := v3) (c := 2) ⟨f2, Int32.lt_of_lt_of_le f3 h_x0_lineCount.2⟩ (by decide)) (fun v14 e14 => ?_)
    have e14 : v14 = x0_lines (7 * v3.toNatClampNeg + 2) := e14
    refine Sf.bind (putWidthsS ⟨f2, f3⟩ h_x0_lineCount.2) ?_
    rintro ⟨g16, g17⟩ ⟨e16, _⟩
    have e16 : g16 = _ := e16
    rw [if_pos k2]
    refine Sf.ok ⟨rfl, fun l hl c hc => ?_, fun p hp => rfl⟩
    show ro 7 g16 l c = va_up (ro 7 x0_lines) v3.toNatClampNeg (va_up (ro 7 x0_lines v3.toNatClampNeg) 2 (ro 7 x0_lines v3.toNatClampNeg 2 ||| _)) l c
    rw [e16, e14, ro_eq (m := 7) (f := x0_lines) (q := v3.toNatClampNeg) (c := 2) (by decide)]
    exact ro_put l c hc
  rw [if_neg k2]
  refine Sf.ite (fun k3 => ?_) (fun k3 => ?_)
  · have f4 := f4 k3
    unfold fX1_putChange
    dsimp only [u11]
    rw [if_pos k3, if_neg (Int32.not_lt.mpr f2), if_neg (Int32.not_le.mpr (Int32.lt_of_le_of_lt f4 (by decide)))]
    refine Sf.bind (P := fun r : (Nat → Int32) × Int32 => r.1 = va_up x0_change v3.toNatClampNeg v5) (Sf.wrb 12 rfl ⟨f2, Int32.lt_of_le_of_lt f4 (by decide)⟩ (fun f1 e1 => Sf.ok e1)) ?_
    rintro ⟨g19, g20⟩ e19
    have e19 : g19 = _ := e19
    refine Sf.ok ⟨rfl, fun l hl c hc => rfl, fun p hp => ?_⟩
    show g19 p = _
    rw [e19]
  rw [if_neg k3]
  have fin : ∀ (y : Int32), (if v7 = 4 then (99 : Int32) else 198) = y → ∀ r : Int32 × (Nat → Int32) × Int32, ((20 ≤ x0_lineCount ∧ r = (x0_lineCount, x0_lines, x0_isKnown)) ∨ (x0_lineCount < 20 ∧ r.1 = x0_lineCount + 1 ∧ r.2.2 = 0 ∧ (∀ l c, c < 7 → l ≠ x0_lineCount.toNatClampNeg → r.2.1 (7 * l + c) = x0_lines (7 * l + c)) ∧ ∀ c, c < 7 → r.2.1 (7 * x0_lineCount.toNatClampNeg + c) = ([v3, v5, 7, 10, y, 0, 0] : List Int32).getD c 0)) → AbEq (r.1, ro 7 r.2.1, x0_change) (if 20 ≤ x0_lineCount then (x0_lineCount, ro 7 x0_lines, x0_change) else (x0_lineCount + 1, va_up (ro 7 x0_lines) x0_lineCount.toNatClampNeg (nlR v3 v5 (if v7 = 4 then 99 else 198)), x0_change)) := by
    rintro y hy ⟨g22, g23, g24⟩ h
    rcases h with ⟨h, e⟩ | ⟨h, e1, _, e2, e3⟩
    · rw [if_pos h]
      cases e
      exact AbEq.refl _
    · have e1 : g22 = x0_lineCount + 1 := e1
      have e2 : ∀ l c, c < 7 → l ≠ x0_lineCount.toNatClampNeg → g23 (7 * l + c) = x0_lines (7 * l + c) := e2
      have e3 : ∀ c, c < 7 → g23 (7 * x0_lineCount.toNatClampNeg + c) = ([v3, v5, 7, 10, y, 0, 0] : List Int32).getD c 0 := e3
      rw [if_neg (Int32.not_le.mpr h), hy]
      refine ⟨e1, fun l hl c hc => ?_, fun p hp => rfl⟩
      show ro 7 g23 l c = va_up (ro 7 x0_lines) x0_lineCount.toNatClampNeg (nlR v3 v5 y) l c
      rw [ro_eq hc]
      by_cases hla : l = x0_lineCount.toNatClampNeg
      · rw [hla, va_eq, e3 c hc]
        rfl
      · rw [va_ne _ _ hla, ro_eq hc, e2 l c hc hla]
  refine Sf.ite (fun k4 => ?_) (fun k4 => ?_)
  · refine Sf.bind (addLineS h_x0_lineCount) ?_
    rintro ⟨g22, g23, g24⟩ h
    exact Sf.ok (fin 99 (if_pos k4) _ h)
  refine Sf.ite (fun k5 => ?_) (fun k5 => ?_)
  · refine Sf.bind (addLineS h_x0_lineCount) ?_
    rintro ⟨g22, g23, g24⟩ h
    exact Sf.ok (fin 198 (if_neg k4) _ h)
  · exfalso
    clear f3 f4 h1 e3 e5 e7 h_p1 hp6 h_x0_works h_x0_goods h_x0_lines h_x0_change h_x0_coin fin
    grind

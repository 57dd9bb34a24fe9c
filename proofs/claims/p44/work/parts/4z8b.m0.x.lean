section
set_option maxHeartbeats 1000000 in
theorem sX7_refuse {x0_shelf x0_rowSort x0_rowSize : (Nat → Int32)} {x0_rows : (Nat → Nat → Int64)} {x0_moved : (Nat → Int64)} {x0_shown x0_tape : (Nat → Int32)} {x0_tapeSize : Int32} {x0_refused : (Nat → Int32)} {x0_lines : Int32} {x0_line : (Nat → Nat → Int32)} {x0_changes x0_coins : (Nat → Int32)} {x0_goods : Int32} {x0_good : (Nat → Nat → Int32)} {x0_works : Int32} {x0_work : (Nat → Nat → Int32)} {x0_years x0_gone x0_spent x0_at x0_token x0_from : Int32} {x0_figures : Int64} {x0_fault : Int32} {x0_numbers : (Nat → Int32)} {x0_statements : Int32} {x0_left x0_far : (Nat → Int32)} {x0_tons : Int32} {x0_way : (Nat → Int32)} {x0_steps : Int32} {x0_met : Int64} {x0_queue x0_totals : (Nat → Int32)} {p1 : Int32}  (h_x0_shelf : (AI 0 2 x0_shelf)) (h_x0_rowSize : (AI 0 40 x0_rowSize)) (h_x0_tapeSize : (0 ≤ x0_tapeSize ∧ x0_tapeSize ≤ 250)) (h_x0_lines : (0 ≤ x0_lines ∧ x0_lines ≤ 20)) (h_x0_line : (LnM x0_line)) (h_x0_changes : (AI 0 99 x0_changes)) (h_x0_coins : (AI 0 9 x0_coins)) (h_x0_goods : (0 ≤ x0_goods ∧ x0_goods ≤ 8)) (h_x0_good : (GdM x0_good)) (h_x0_works : (0 ≤ x0_works ∧ x0_works ≤ 7)) (h_x0_work : (WkM x0_work)) (h_x0_years : (1 ≤ x0_years ∧ x0_years ≤ 30)) (h_x0_from : (0 ≤ x0_from ∧ x0_from ≤ 250)) (h_x0_far : (AI 0 1000000000 x0_far)) (h_x0_way : (AI 0 22 x0_way)) (h_x0_steps : (0 ≤ x0_steps ∧ x0_steps ≤ 37)) (h_x0_queue : (AI 0 35 x0_queue)) (h_p1 : ((-6) ≤ p1 ∧ p1 ≤ (-2))) : Sf (fX7_refuse (x0_shelf, x0_rowSort, x0_rowSize, x0_rows, x0_moved, x0_shown, x0_tape, x0_tapeSize, x0_refused, x0_lines, x0_line, x0_changes, x0_coins, x0_goods, x0_good, x0_works, x0_work, x0_years, x0_gone, x0_spent, x0_at, x0_token, x0_from, x0_figures, x0_fault, x0_numbers, x0_statements, x0_left, x0_far, x0_tons, x0_way, x0_steps, x0_met, x0_queue, x0_totals) p1) (fun r => (r.1 = p1)) := by
  unfold fX7_refuse
  dsimp only [u35]
  refine Sf.rdb 8 rfl (by grind) (fun v1 e_v1 => ?_)
  clear e_v1
  refine Sf.wrb 8 rfl (by grind) (fun f2 e_f2 => ?_)
  clear e_f2
  exact Sf.ok (show (p1 = p1) from (by grind))
set_option maxHeartbeats 1000000 in
theorem sX7_isPlace {p0 : Int32}   : Sf (fX7_isPlace p0) (fun r => ((r = 1 ∧ 0 ≤ p0 ∧ p0 ≤ 11) ∨ (r = 0 ∧ (p0 < 0 ∨ 11 < p0)))) := by
  unfold fX7_isPlace
  refine Sf.bind (s_inq p0 0 11 (by decide) (by decide)) ?_
  intro v1 hr_v1
  refine Sf.zbb (by grind) (fun v3 e_v3 => ?_)
  exact Sf.ok (show ((v3 = 1 ∧ 0 ≤ p0 ∧ p0 ≤ 11) ∨ (v3 = 0 ∧ (p0 < 0 ∨ 11 < p0))) from (by grind))
set_option maxHeartbeats 1000000 in
theorem sX7_isLine {x0_shelf x0_rowSort x0_rowSize : (Nat → Int32)} {x0_rows : (Nat → Nat → Int64)} {x0_moved : (Nat → Int64)} {x0_shown x0_tape : (Nat → Int32)} {x0_tapeSize : Int32} {x0_refused : (Nat → Int32)} {x0_lines : Int32} {x0_line : (Nat → Nat → Int32)} {x0_changes x0_coins : (Nat → Int32)} {x0_goods : Int32} {x0_good : (Nat → Nat → Int32)} {x0_works : Int32} {x0_work : (Nat → Nat → Int32)} {x0_years x0_gone x0_spent x0_at x0_token x0_from : Int32} {x0_figures : Int64} {x0_fault : Int32} {x0_numbers : (Nat → Int32)} {x0_statements : Int32} {x0_left x0_far : (Nat → Int32)} {x0_tons : Int32} {x0_way : (Nat → Int32)} {x0_steps : Int32} {x0_met : Int64} {x0_queue x0_totals : (Nat → Int32)} {p1 : Int32}  (h_x0_shelf : (AI 0 2 x0_shelf)) (h_x0_rowSize : (AI 0 40 x0_rowSize)) (h_x0_tapeSize : (0 ≤ x0_tapeSize ∧ x0_tapeSize ≤ 250)) (h_x0_lines : (0 ≤ x0_lines ∧ x0_lines ≤ 20)) (h_x0_line : (LnM x0_line)) (h_x0_changes : (AI 0 99 x0_changes)) (h_x0_coins : (AI 0 9 x0_coins)) (h_x0_goods : (0 ≤ x0_goods ∧ x0_goods ≤ 8)) (h_x0_good : (GdM x0_good)) (h_x0_works : (0 ≤ x0_works ∧ x0_works ≤ 7)) (h_x0_work : (WkM x0_work)) (h_x0_years : (1 ≤ x0_years ∧ x0_years ≤ 30)) (h_x0_from : (0 ≤ x0_from ∧ x0_from ≤ 250)) (h_x0_far : (AI 0 1000000000 x0_far)) (h_x0_way : (AI 0 22 x0_way)) (h_x0_steps : (0 ≤ x0_steps ∧ x0_steps ≤ 37)) (h_x0_queue : (AI 0 35 x0_queue)) : Sf (fX7_isLine (x0_shelf, x0_rowSort, x0_rowSize, x0_rows, x0_moved, x0_shown, x0_tape, x0_tapeSize, x0_refused, x0_lines, x0_line, x0_changes, x0_coins, x0_goods, x0_good, x0_works, x0_work, x0_years, x0_gone, x0_spent, x0_at, x0_token, x0_from, x0_figures, x0_fault, x0_numbers, x0_statements, x0_left, x0_far, x0_tons, x0_way, x0_steps, x0_met, x0_queue, x0_totals) p1) (fun r => ((r = 1 ∧ 0 ≤ p1 ∧ p1 < x0_lines) ∨ (r = 0 ∧ ¬ (0 ≤ p1 ∧ p1 < x0_lines)))) := by
  unfold fX7_isLine
  dsimp only [u35]
  refine Sf.bind (s_inq p1 0 (x0_lines - 1) (by decide) rfl) ?_
  intro v1 hr_v1
  refine Sf.zbb (by grind) (fun v3 e_v3 => ?_)
  exact Sf.ok (show ((v3 = 1 ∧ 0 ≤ p1 ∧ p1 < x0_lines) ∨ (v3 = 0 ∧ ¬ (0 ≤ p1 ∧ p1 < x0_lines))) from (by grind))
set_option maxHeartbeats 1000000 in
theorem sX7_isWork {x0_shelf x0_rowSort x0_rowSize : (Nat → Int32)} {x0_rows : (Nat → Nat → Int64)} {x0_moved : (Nat → Int64)} {x0_shown x0_tape : (Nat → Int32)} {x0_tapeSize : Int32} {x0_refused : (Nat → Int32)} {x0_lines : Int32} {x0_line : (Nat → Nat → Int32)} {x0_changes x0_coins : (Nat → Int32)} {x0_goods : Int32} {x0_good : (Nat → Nat → Int32)} {x0_works : Int32} {x0_work : (Nat → Nat → Int32)} {x0_years x0_gone x0_spent x0_at x0_token x0_from : Int32} {x0_figures : Int64} {x0_fault : Int32} {x0_numbers : (Nat → Int32)} {x0_statements : Int32} {x0_left x0_far : (Nat → Int32)} {x0_tons : Int32} {x0_way : (Nat → Int32)} {x0_steps : Int32} {x0_met : Int64} {x0_queue x0_totals : (Nat → Int32)} {p1 : Int32}  (h_x0_shelf : (AI 0 2 x0_shelf)) (h_x0_rowSize : (AI 0 40 x0_rowSize)) (h_x0_tapeSize : (0 ≤ x0_tapeSize ∧ x0_tapeSize ≤ 250)) (h_x0_lines : (0 ≤ x0_lines ∧ x0_lines ≤ 20)) (h_x0_line : (LnM x0_line)) (h_x0_changes : (AI 0 99 x0_changes)) (h_x0_coins : (AI 0 9 x0_coins)) (h_x0_goods : (0 ≤ x0_goods ∧ x0_goods ≤ 8)) (h_x0_good : (GdM x0_good)) (h_x0_works : (0 ≤ x0_works ∧ x0_works ≤ 7)) (h_x0_work : (WkM x0_work)) (h_x0_years : (1 ≤ x0_years ∧ x0_years ≤ 30)) (h_x0_from : (0 ≤ x0_from ∧ x0_from ≤ 250)) (h_x0_far : (AI 0 1000000000 x0_far)) (h_x0_way : (AI 0 22 x0_way)) (h_x0_steps : (0 ≤ x0_steps ∧ x0_steps ≤ 37)) (h_x0_queue : (AI 0 35 x0_queue)) : Sf (fX7_isWork (x0_shelf, x0_rowSort, x0_rowSize, x0_rows, x0_moved, x0_shown, x0_tape, x0_tapeSize, x0_refused, x0_lines, x0_line, x0_changes, x0_coins, x0_goods, x0_good, x0_works, x0_work, x0_years, x0_gone, x0_spent, x0_at, x0_token, x0_from, x0_figures, x0_fault, x0_numbers, x0_statements, x0_left, x0_far, x0_tons, x0_way, x0_steps, x0_met, x0_queue, x0_totals) p1) (fun r => ((r = 1 ∧ 0 ≤ p1 ∧ p1 < x0_works) ∨ (r = 0 ∧ ¬ (0 ≤ p1 ∧ p1 < x0_works)))) := by
  unfold fX7_isWork
  dsimp only [u35]
  refine Sf.bind (s_inq p1 0 (x0_works - 1) (by decide) rfl) ?_
  intro v1 hr_v1
  refine Sf.zbb (by grind) (fun v3 e_v3 => ?_)
  exact Sf.ok (show ((v3 = 1 ∧ 0 ≤ p1 ∧ p1 < x0_works) ∨ (v3 = 0 ∧ ¬ (0 ≤ p1 ∧ p1 < x0_works))) from (by grind))
theorem TX7_row_s67 {p1 z17 : Int32} {z18 : (Nat → Nat → Int64)}  (h_p1 : (0 ≤ p1 ∧ p1 ≤ 7)) (h_z17 : (0 ≤ z17)) : Sf (fX7_row_s67 p1 z17 z18) (LQ (u2 (fun z17 z18 => (0 ≤ z17))) (u2 (fun z17 z18 => muUp z17)) (muUp z17) (fun e => True)) := by
  unfold fX7_row_s67
  refine Sf.ite (fun hc1 => ?_) (fun hc1 => ?_)
  · exact Sf.inr trivial
  · refine Sf.ckb 8 rfl (by grind) (fun q21 e_q21 h_q21 => ?_)
    refine Sf.wrb 40 rfl (by grind) (fun f22 e_f22 => ?_)
    clear e_f22
    exact Sf.inl (show (0 ≤ (z17 + 1)) from (by grind)) (muUp_lt hc1)
theorem LX7_row_s67 {n : Nat} {p1 z17 : Int32} {z18 : (Nat → Nat → Int64)} (hn : 1000000000000 ≤ n) (h_p1 : (0 ≤ p1 ∧ p1 ≤ 7)) (h_z17 : (0 ≤ z17)) : Sf (lp (u2 (fX7_row_s67 p1)) n (z17, z18)) (fun e => True) :=
  Sf.loop2 (fun z17 z18 => (0 ≤ z17)) (fun z17 z18 => muUp z17) (fun z17 z18 h => TX7_row_s67 h_p1 h) h_z17 (muUp_n hn)
set_option maxHeartbeats 1000000 in
theorem sX7_row {n : Nat} {x0_shelf x0_rowSort x0_rowSize : (Nat → Int32)} {x0_rows : (Nat → Nat → Int64)} {x0_moved : (Nat → Int64)} {x0_shown x0_tape : (Nat → Int32)} {x0_tapeSize : Int32} {x0_refused : (Nat → Int32)} {x0_lines : Int32} {x0_line : (Nat → Nat → Int32)} {x0_changes x0_coins : (Nat → Int32)} {x0_goods : Int32} {x0_good : (Nat → Nat → Int32)} {x0_works : Int32} {x0_work : (Nat → Nat → Int32)} {x0_years x0_gone x0_spent x0_at x0_token x0_from : Int32} {x0_figures : Int64} {x0_fault : Int32} {x0_numbers : (Nat → Int32)} {x0_statements : Int32} {x0_left x0_far : (Nat → Int32)} {x0_tons : Int32} {x0_way : (Nat → Int32)} {x0_steps : Int32} {x0_met : Int64} {x0_queue x0_totals : (Nat → Int32)} {p1 p2 p3 : Int32} (hn : 1000000000000 ≤ n) (h_x0_shelf : (AI 0 2 x0_shelf)) (h_x0_rowSize : (AI 0 40 x0_rowSize)) (h_x0_tapeSize : (0 ≤ x0_tapeSize ∧ x0_tapeSize ≤ 250)) (h_x0_lines : (0 ≤ x0_lines ∧ x0_lines ≤ 20)) (h_x0_line : (LnM x0_line)) (h_x0_changes : (AI 0 99 x0_changes)) (h_x0_coins : (AI 0 9 x0_coins)) (h_x0_goods : (0 ≤ x0_goods ∧ x0_goods ≤ 8)) (h_x0_good : (GdM x0_good)) (h_x0_works : (0 ≤ x0_works ∧ x0_works ≤ 7)) (h_x0_work : (WkM x0_work)) (h_x0_years : (1 ≤ x0_years ∧ x0_years ≤ 30)) (h_x0_from : (0 ≤ x0_from ∧ x0_from ≤ 250)) (h_x0_far : (AI 0 1000000000 x0_far)) (h_x0_way : (AI 0 22 x0_way)) (h_x0_steps : (0 ≤ x0_steps ∧ x0_steps ≤ 37)) (h_x0_queue : (AI 0 35 x0_queue)) : Sf (fX7_row n (x0_shelf, x0_rowSort, x0_rowSize, x0_rows, x0_moved, x0_shown, x0_tape, x0_tapeSize, x0_refused, x0_lines, x0_line, x0_changes, x0_coins, x0_goods, x0_good, x0_works, x0_work, x0_years, x0_gone, x0_spent, x0_at, x0_token, x0_from, x0_figures, x0_fault, x0_numbers, x0_statements, x0_left, x0_far, x0_tons, x0_way, x0_steps, x0_met, x0_queue, x0_totals) p1 p2 p3) (fun r => (AI 0 2 r.2.1) ∧ (AI 0 40 r.2.2.2.1)) := by
  unfold fX7_row
  dsimp only [u35]
  refine Sf.bind (s_inq p1 0 7 (by decide) (by decide)) ?_
  intro v1 hr_v1
  refine Sf.ite (fun hc1 => ?_) (fun hc1 => ?_)
  · refine Sf.bind (sX7_refuse h_x0_shelf h_x0_rowSize h_x0_tapeSize h_x0_lines h_x0_line h_x0_changes h_x0_coins h_x0_goods h_x0_good h_x0_works h_x0_work h_x0_years h_x0_from h_x0_far h_x0_way h_x0_steps h_x0_queue (by decide)) ?_
    rintro ⟨v3, g4⟩ hr2
    have hx_v3 : (v3 = (-2)) := hr2
    dsimp only [u2]
    exact Sf.ok (show (AI 0 2 x0_shelf) ∧ (AI 0 40 x0_rowSize) from ⟨h_x0_shelf, h_x0_rowSize⟩)
  · refine Sf.bind (s_inq p2 0 4 (by decide) (by decide)) ?_
    intro v6 hr_v6
    refine Sf.ite (fun hc3 => ?_) (fun hc3 => ?_)
    · refine Sf.bind (sX7_refuse h_x0_shelf h_x0_rowSize h_x0_tapeSize h_x0_lines h_x0_line h_x0_changes h_x0_coins h_x0_goods h_x0_good h_x0_works h_x0_work h_x0_years h_x0_from h_x0_far h_x0_way h_x0_steps h_x0_queue (by decide)) ?_
      rintro ⟨v8, g9⟩ hr4
      have hx_v8 : (v8 = (-2)) := hr4
      dsimp only [u2]
      exact Sf.ok (show (AI 0 2 x0_shelf) ∧ (AI 0 40 x0_rowSize) from ⟨h_x0_shelf, h_x0_rowSize⟩)
    · refine Sf.bind (s_inq p3 0 40 (by decide) (by decide)) ?_
      intro v11 hr_v11
      refine Sf.ite (fun hc5 => ?_) (fun hc5 => ?_)
      · refine Sf.bind (sX7_refuse h_x0_shelf h_x0_rowSize h_x0_tapeSize h_x0_lines h_x0_line h_x0_changes h_x0_coins h_x0_goods h_x0_good h_x0_works h_x0_work h_x0_years h_x0_from h_x0_far h_x0_way h_x0_steps h_x0_queue (by decide)) ?_
        rintro ⟨v23, g24⟩ hr6
        have hx_v23 : (v23 = (-2)) := hr6
        dsimp only [u2]
        exact Sf.ok (show (AI 0 2 x0_shelf) ∧ (AI 0 40 x0_rowSize) from ⟨h_x0_shelf, h_x0_rowSize⟩)
      · refine Sf.wrI 8 rfl h_x0_shelf (by grind) (by decide) (fun f13 h_f13 e_f13 => ?_)
        clear e_f13
        refine Sf.wrb 8 rfl (by grind) (fun f14 e_f14 => ?_)
        clear e_f14
        refine Sf.wrI 8 rfl h_x0_rowSize (by grind) (by grind) (fun f15 h_f15 e_f15 => ?_)
        clear e_f15
        refine Sf.bind (LX7_row_s67 hn (by grind) (by decide)) ?_
        intro w20 hr7
        exact Sf.ok (show (AI 0 2 f13) ∧ (AI 0 40 f15) from ⟨h_f13, h_f15⟩)
set_option maxHeartbeats 1000000 in
theorem sX7_fit {p0 : Int32} {p1 : Int64}   : Sf (fX7_fit p0 p1) (fun r => True) := by
  unfold fX7_fit
  refine Sf.ite (fun hc1 => ?_) (fun hc1 => ?_)
  · exact Sf.ok trivial
  · refine Sf.ite (fun hc2 => ?_) (fun hc2 => ?_)
    · exact Sf.ok trivial
    · refine Sf.ite (fun hc3 => ?_) (fun hc3 => ?_)
      · exact Sf.ok trivial
      · refine Sf.ite (fun hc4 => ?_) (fun hc4 => ?_)
        · exact Sf.ok trivial
        · refine Sf.ite (fun hc5 => ?_) (fun hc5 => ?_)
          · exact Sf.ok trivial
          · exact Sf.ok trivial
set_option maxHeartbeats 1000000 in
theorem sX7_set {x0_shelf x0_rowSort x0_rowSize : (Nat → Int32)} {x0_rows : (Nat → Nat → Int64)} {x0_moved : (Nat → Int64)} {x0_shown x0_tape : (Nat → Int32)} {x0_tapeSize : Int32} {x0_refused : (Nat → Int32)} {x0_lines : Int32} {x0_line : (Nat → Nat → Int32)} {x0_changes x0_coins : (Nat → Int32)} {x0_goods : Int32} {x0_good : (Nat → Nat → Int32)} {x0_works : Int32} {x0_work : (Nat → Nat → Int32)} {x0_years x0_gone x0_spent x0_at x0_token x0_from : Int32} {x0_figures : Int64} {x0_fault : Int32} {x0_numbers : (Nat → Int32)} {x0_statements : Int32} {x0_left x0_far : (Nat → Int32)} {x0_tons : Int32} {x0_way : (Nat → Int32)} {x0_steps : Int32} {x0_met : Int64} {x0_queue x0_totals : (Nat → Int32)} {p1 p2 : Int32} {p3 : Int64}  (h_x0_shelf : (AI 0 2 x0_shelf)) (h_x0_rowSize : (AI 0 40 x0_rowSize)) (h_x0_tapeSize : (0 ≤ x0_tapeSize ∧ x0_tapeSize ≤ 250)) (h_x0_lines : (0 ≤ x0_lines ∧ x0_lines ≤ 20)) (h_x0_line : (LnM x0_line)) (h_x0_changes : (AI 0 99 x0_changes)) (h_x0_coins : (AI 0 9 x0_coins)) (h_x0_goods : (0 ≤ x0_goods ∧ x0_goods ≤ 8)) (h_x0_good : (GdM x0_good)) (h_x0_works : (0 ≤ x0_works ∧ x0_works ≤ 7)) (h_x0_work : (WkM x0_work)) (h_x0_years : (1 ≤ x0_years ∧ x0_years ≤ 30)) (h_x0_from : (0 ≤ x0_from ∧ x0_from ≤ 250)) (h_x0_far : (AI 0 1000000000 x0_far)) (h_x0_way : (AI 0 22 x0_way)) (h_x0_steps : (0 ≤ x0_steps ∧ x0_steps ≤ 37)) (h_x0_queue : (AI 0 35 x0_queue)) : Sf (fX7_set (x0_shelf, x0_rowSort, x0_rowSize, x0_rows, x0_moved, x0_shown, x0_tape, x0_tapeSize, x0_refused, x0_lines, x0_line, x0_changes, x0_coins, x0_goods, x0_good, x0_works, x0_work, x0_years, x0_gone, x0_spent, x0_at, x0_token, x0_from, x0_figures, x0_fault, x0_numbers, x0_statements, x0_left, x0_far, x0_tons, x0_way, x0_steps, x0_met, x0_queue, x0_totals) p1 p2 p3) (fun r => True) := by
  unfold fX7_set
  dsimp only [u35]
  refine Sf.bind (s_inq p1 0 7 (by decide) (by decide)) ?_
  intro v1 hr_v1
  refine Sf.ite (fun hc1 => ?_) (fun hc1 => ?_)
  · refine Sf.bind (sX7_refuse h_x0_shelf h_x0_rowSize h_x0_tapeSize h_x0_lines h_x0_line h_x0_changes h_x0_coins h_x0_goods h_x0_good h_x0_works h_x0_work h_x0_years h_x0_from h_x0_far h_x0_way h_x0_steps h_x0_queue (by decide)) ?_
    rintro ⟨v22, g23⟩ hr2
    have hx_v22 : (v22 = (-2)) := hr2
    dsimp only [u2]
    exact Sf.ok trivial
  · refine Sf.rdI 8 rfl h_x0_shelf (by grind) (fun v3 h_v3 e_v3 => ?_)
    refine Sf.ite (fun hc3 => ?_) (fun hc3 => ?_)
    · refine Sf.bind (sX7_refuse h_x0_shelf h_x0_rowSize h_x0_tapeSize h_x0_lines h_x0_line h_x0_changes h_x0_coins h_x0_goods h_x0_good h_x0_works h_x0_work h_x0_years h_x0_from h_x0_far h_x0_way h_x0_steps h_x0_queue (by decide)) ?_
      rintro ⟨v19, g20⟩ hr4
      have hx_v19 : (v19 = (-3)) := hr4
      dsimp only [u2]
      exact Sf.ok trivial
    · refine Sf.rdI 8 rfl h_x0_shelf (by grind) (fun v4 h_v4 e_v4 => ?_)
      have hs5 : v4 = v3 := e_v4.trans e_v3.symm
      clear e_v4
      refine Sf.ite (fun hc6 => ?_) (fun hc6 => ?_)
      · refine Sf.bind (sX7_refuse h_x0_shelf h_x0_rowSize h_x0_tapeSize h_x0_lines h_x0_line h_x0_changes h_x0_coins h_x0_goods h_x0_good h_x0_works h_x0_work h_x0_years h_x0_from h_x0_far h_x0_way h_x0_steps h_x0_queue (by decide)) ?_
        rintro ⟨v16, g17⟩ hr7
        have hx_v16 : (v16 = (-4)) := hr7
        dsimp only [u2]
        exact Sf.ok trivial
      · refine Sf.rdI 8 rfl h_x0_rowSize (by grind) (fun v5 h_v5 e_v5 => ?_)
        clear e_v5
        refine Sf.bind (s_inq p2 0 (v5 - 1) (by decide) rfl) ?_
        intro v6 hr_v6
        refine Sf.ite (fun hc8 => ?_) (fun hc8 => ?_)
        · refine Sf.bind (sX7_refuse h_x0_shelf h_x0_rowSize h_x0_tapeSize h_x0_lines h_x0_line h_x0_changes h_x0_coins h_x0_goods h_x0_good h_x0_works h_x0_work h_x0_years h_x0_from h_x0_far h_x0_way h_x0_steps h_x0_queue (by decide)) ?_
          rintro ⟨v13, g14⟩ hr9
          have hx_v13 : (v13 = (-2)) := hr9
          dsimp only [u2]
          exact Sf.ok trivial
        · refine Sf.ckb 8 rfl (by grind) (fun q8 e_q8 h_q8 => ?_)
          refine Sf.rdb 8 rfl (by grind) (fun v9 e_v9 => ?_)
          clear e_v9
          refine Sf.bind (sX7_fit ) ?_
          intro v10 hr10
          refine Sf.wrb 40 rfl (by grind) (fun f12 e_f12 => ?_)
          clear e_f12
          exact Sf.ok trivial
theorem TX7_copy_s191 {p1 p3 p5 : Int32} {x0_rows : (Nat → Nat → Int64)} {z45 : Int32} {z46 : (Nat → Int64)}  (h_p1 : (0 ≤ p1 ∧ p1 ≤ 7)) (h_p3 : (0 ≤ p3 ∧ p3 ≤ 40)) (h_p5 : (0 ≤ p5 ∧ p5 ≤ 40)) (h_z45 : (0 ≤ z45)) (hi_0 : p3 + p5 ≤ 40) : Sf (fX7_copy_s191 p1 p3 p5 x0_rows z45 z46) (LQ (u2 (fun z45 z46 => (0 ≤ z45) ∧ (p3 + p5 ≤ 40))) (u2 (fun z45 z46 => muUp z45)) (muUp z45) (fun e => True)) := by
  unfold fX7_copy_s191
  refine Sf.ite (fun hc1 => ?_) (fun hc1 => ?_)
  · exact Sf.inr trivial
  · refine Sf.ckb 8 rfl (by grind) (fun q57 e_q57 h_q57 => ?_)
    have hq2 : 0 ≤ (p3 + z45) ∧ (p3 + z45) < 40 := by grind
    refine Sf.rdb 40 rfl hq2 (fun v58 e_v58 => ?_)
    clear e_v58
    refine Sf.wrb 40 rfl (by grind) (fun f59 e_f59 => ?_)
    clear e_f59
    exact Sf.inl (show (0 ≤ (z45 + 1)) ∧ (p3 + p5 ≤ 40) from ⟨(by grind), (by grind)⟩) (muUp_lt hc1)
theorem LX7_copy_s191 {n : Nat} {p1 p3 p5 : Int32} {x0_rows : (Nat → Nat → Int64)} {z45 : Int32} {z46 : (Nat → Int64)} (hn : 1000000000000 ≤ n) (h_p1 : (0 ≤ p1 ∧ p1 ≤ 7)) (h_p3 : (0 ≤ p3 ∧ p3 ≤ 40)) (h_p5 : (0 ≤ p5 ∧ p5 ≤ 40)) (h_z45 : (0 ≤ z45)) (hi_0 : p3 + p5 ≤ 40) : Sf (lp (u2 (fX7_copy_s191 p1 p3 p5 x0_rows)) n (z45, z46)) (fun e => True) :=
  Sf.loop2 (fun z45 z46 => (0 ≤ z45) ∧ (p3 + p5 ≤ 40)) (fun z45 z46 => muUp z45) (fun z45 z46 h => TX7_copy_s191 h_p1 h_p3 h_p5 h.1 h.2) (show (0 ≤ z45) ∧ (p3 + p5 ≤ 40) from ⟨h_z45, hi_0⟩) (muUp_n hn)
theorem TX7_copy_s225 {p2 p4 p5 : Int32} {w48 : (Nat → Int64)} {z50 : Int32} {z51 : (Nat → Nat → Int64)}  (h_p2 : (0 ≤ p2 ∧ p2 ≤ 7)) (h_p4 : (0 ≤ p4 ∧ p4 ≤ 40)) (h_p5 : (0 ≤ p5 ∧ p5 ≤ 40)) (h_z50 : (0 ≤ z50)) (hi_0 : p4 + p5 ≤ 40) : Sf (fX7_copy_s225 p2 p4 p5 w48 z50 z51) (LQ (u2 (fun z50 z51 => (0 ≤ z50) ∧ (p4 + p5 ≤ 40))) (u2 (fun z50 z51 => muUp z50)) (muUp z50) (fun e => True)) := by
  unfold fX7_copy_s225
  refine Sf.ite (fun hc1 => ?_) (fun hc1 => ?_)
  · exact Sf.inr trivial
  · refine Sf.ckb 8 rfl (by grind) (fun q54 e_q54 h_q54 => ?_)
    refine Sf.rdb 40 rfl (by grind) (fun v55 e_v55 => ?_)
    clear e_v55
    have hq2 : 0 ≤ (p4 + z50) ∧ (p4 + z50) < 40 := by grind
    refine Sf.wrb 40 rfl hq2 (fun f56 e_f56 => ?_)
    clear e_f56
    exact Sf.inl (show (0 ≤ (z50 + 1)) ∧ (p4 + p5 ≤ 40) from ⟨(by grind), (by grind)⟩) (muUp_lt hc1)
theorem LX7_copy_s225 {n : Nat} {p2 p4 p5 : Int32} {w48 : (Nat → Int64)} {z50 : Int32} {z51 : (Nat → Nat → Int64)} (hn : 1000000000000 ≤ n) (h_p2 : (0 ≤ p2 ∧ p2 ≤ 7)) (h_p4 : (0 ≤ p4 ∧ p4 ≤ 40)) (h_p5 : (0 ≤ p5 ∧ p5 ≤ 40)) (h_z50 : (0 ≤ z50)) (hi_0 : p4 + p5 ≤ 40) : Sf (lp (u2 (fX7_copy_s225 p2 p4 p5 w48)) n (z50, z51)) (fun e => True) :=
  Sf.loop2 (fun z50 z51 => (0 ≤ z50) ∧ (p4 + p5 ≤ 40)) (fun z50 z51 => muUp z50) (fun z50 z51 h => TX7_copy_s225 h_p2 h_p4 h_p5 h.1 h.2) (show (0 ≤ z50) ∧ (p4 + p5 ≤ 40) from ⟨h_z50, hi_0⟩) (muUp_n hn)
set_option maxHeartbeats 1000000 in
theorem sX7_copy {n : Nat} {x0_shelf x0_rowSort x0_rowSize : (Nat → Int32)} {x0_rows : (Nat → Nat → Int64)} {x0_moved : (Nat → Int64)} {x0_shown x0_tape : (Nat → Int32)} {x0_tapeSize : Int32} {x0_refused : (Nat → Int32)} {x0_lines : Int32} {x0_line : (Nat → Nat → Int32)} {x0_changes x0_coins : (Nat → Int32)} {x0_goods : Int32} {x0_good : (Nat → Nat → Int32)} {x0_works : Int32} {x0_work : (Nat → Nat → Int32)} {x0_years x0_gone x0_spent x0_at x0_token x0_from : Int32} {x0_figures : Int64} {x0_fault : Int32} {x0_numbers : (Nat → Int32)} {x0_statements : Int32} {x0_left x0_far : (Nat → Int32)} {x0_tons : Int32} {x0_way : (Nat → Int32)} {x0_steps : Int32} {x0_met : Int64} {x0_queue x0_totals : (Nat → Int32)} {p1 p2 p3 p4 p5 : Int32} (hn : 1000000000000 ≤ n) (h_x0_shelf : (AI 0 2 x0_shelf)) (h_x0_rowSize : (AI 0 40 x0_rowSize)) (h_x0_tapeSize : (0 ≤ x0_tapeSize ∧ x0_tapeSize ≤ 250)) (h_x0_lines : (0 ≤ x0_lines ∧ x0_lines ≤ 20)) (h_x0_line : (LnM x0_line)) (h_x0_changes : (AI 0 99 x0_changes)) (h_x0_coins : (AI 0 9 x0_coins)) (h_x0_goods : (0 ≤ x0_goods ∧ x0_goods ≤ 8)) (h_x0_good : (GdM x0_good)) (h_x0_works : (0 ≤ x0_works ∧ x0_works ≤ 7)) (h_x0_work : (WkM x0_work)) (h_x0_years : (1 ≤ x0_years ∧ x0_years ≤ 30)) (h_x0_from : (0 ≤ x0_from ∧ x0_from ≤ 250)) (h_x0_far : (AI 0 1000000000 x0_far)) (h_x0_way : (AI 0 22 x0_way)) (h_x0_steps : (0 ≤ x0_steps ∧ x0_steps ≤ 37)) (h_x0_queue : (AI 0 35 x0_queue)) : Sf (fX7_copy n (x0_shelf, x0_rowSort, x0_rowSize, x0_rows, x0_moved, x0_shown, x0_tape, x0_tapeSize, x0_refused, x0_lines, x0_line, x0_changes, x0_coins, x0_goods, x0_good, x0_works, x0_work, x0_years, x0_gone, x0_spent, x0_at, x0_token, x0_from, x0_figures, x0_fault, x0_numbers, x0_statements, x0_left, x0_far, x0_tons, x0_way, x0_steps, x0_met, x0_queue, x0_totals) p1 p2 p3 p4 p5) (fun r => True) := by
  unfold fX7_copy
  dsimp only [u35]
  refine Sf.bind (s_inq p1 0 7 (by decide) (by decide)) ?_
  intro v1 hr_v1
  refine Sf.ite (fun hc1 => ?_) (fun hc1 => ?_)
  · refine Sf.bind (sX7_refuse h_x0_shelf h_x0_rowSize h_x0_tapeSize h_x0_lines h_x0_line h_x0_changes h_x0_coins h_x0_goods h_x0_good h_x0_works h_x0_work h_x0_years h_x0_from h_x0_far h_x0_way h_x0_steps h_x0_queue (by decide)) ?_
    rintro ⟨v3, g4⟩ hr2
    have hx_v3 : (v3 = (-2)) := hr2
    dsimp only [u2]
    exact Sf.ok trivial
  · refine Sf.bind (s_inq p2 0 7 (by decide) (by decide)) ?_
    intro v6 hr_v6
    refine Sf.ite (fun hc3 => ?_) (fun hc3 => ?_)
    · refine Sf.bind (sX7_refuse h_x0_shelf h_x0_rowSize h_x0_tapeSize h_x0_lines h_x0_line h_x0_changes h_x0_coins h_x0_goods h_x0_good h_x0_works h_x0_work h_x0_years h_x0_from h_x0_far h_x0_way h_x0_steps h_x0_queue (by decide)) ?_
      rintro ⟨v72, g73⟩ hr4
      have hx_v72 : (v72 = (-2)) := hr4
      dsimp only [u2]
      exact Sf.ok trivial
    · refine Sf.rdI 8 rfl h_x0_shelf (by grind) (fun v8 h_v8 e_v8 => ?_)
      refine Sf.ite (fun hc5 => ?_) (fun hc5 => ?_)
      · refine Sf.bind (sX7_refuse h_x0_shelf h_x0_rowSize h_x0_tapeSize h_x0_lines h_x0_line h_x0_changes h_x0_coins h_x0_goods h_x0_good h_x0_works h_x0_work h_x0_years h_x0_from h_x0_far h_x0_way h_x0_steps h_x0_queue (by decide)) ?_
        rintro ⟨v9, g10⟩ hr6
        have hx_v9 : (v9 = (-3)) := hr6
        dsimp only [u2]
        exact Sf.ok trivial
      · refine Sf.rdI 8 rfl h_x0_shelf (by grind) (fun v12 h_v12 e_v12 => ?_)
        refine Sf.ite (fun hc7 => ?_) (fun hc7 => ?_)
        · refine Sf.bind (sX7_refuse h_x0_shelf h_x0_rowSize h_x0_tapeSize h_x0_lines h_x0_line h_x0_changes h_x0_coins h_x0_goods h_x0_good h_x0_works h_x0_work h_x0_years h_x0_from h_x0_far h_x0_way h_x0_steps h_x0_queue (by decide)) ?_
          rintro ⟨v13, g14⟩ hr8
          have hx_v13 : (v13 = (-3)) := hr8
          dsimp only [u2]
          exact Sf.ok trivial
        · refine Sf.rdI 8 rfl h_x0_shelf (by grind) (fun v16 h_v16 e_v16 => ?_)
          have hs9 : v16 = v8 := e_v16.trans e_v8.symm
          clear e_v16
          refine Sf.ite (fun hc10 => ?_) (fun hc10 => ?_)
          · refine Sf.rdI 8 rfl h_x0_shelf (by grind) (fun v66 h_v66 e_v66 => ?_)
            have hs11 : v66 = v12 := e_v66.trans e_v12.symm
            clear e_v66
            refine Sf.ite (fun hc12 => ?_) (fun hc12 => ?_)
            · refine Sf.rdb 8 rfl (by grind) (fun v67 e_v67 => ?_)
              clear e_v67
              refine Sf.rdb 8 rfl (by grind) (fun v68 e_v68 => ?_)
              clear e_v68
              refine Sf.ite (fun hc13 => ?_) (fun hc13 => ?_)
              · unfold fX7_copy_j93
                refine Sf.rdI 8 rfl h_x0_shelf (by grind) (fun v17 h_v17 e_v17 => ?_)
                have hs14 : v17 = v8 := e_v17.trans e_v8.symm
                clear e_v17
                refine Sf.ite (fun hc15 => ?_) (fun hc15 => ?_)
                · refine Sf.bind (sX7_refuse h_x0_shelf h_x0_rowSize h_x0_tapeSize h_x0_lines h_x0_line h_x0_changes h_x0_coins h_x0_goods h_x0_good h_x0_works h_x0_work h_x0_years h_x0_from h_x0_far h_x0_way h_x0_steps h_x0_queue (by decide)) ?_
                  rintro ⟨v18, g19⟩ hr16
                  have hx_v18 : (v18 = (-4)) := hr16
                  dsimp only [u2]
                  exact Sf.ok trivial
                · refine Sf.rdI 8 rfl h_x0_shelf (by grind) (fun v21 h_v21 e_v21 => ?_)
                  have hs17 : v21 = v12 := e_v21.trans e_v12.symm
                  clear e_v21
                  refine Sf.ite (fun hc18 => ?_) (fun hc18 => ?_)
                  · refine Sf.bind (sX7_refuse h_x0_shelf h_x0_rowSize h_x0_tapeSize h_x0_lines h_x0_line h_x0_changes h_x0_coins h_x0_goods h_x0_good h_x0_works h_x0_work h_x0_years h_x0_from h_x0_far h_x0_way h_x0_steps h_x0_queue (by decide)) ?_
                    rintro ⟨v63, g64⟩ hr19
                    have hx_v63 : (v63 = (-4)) := hr19
                    dsimp only [u2]
                    exact Sf.ok trivial
                  · refine Sf.ite (fun hc20 => ?_) (fun hc20 => ?_)
                    · refine Sf.bind (sX7_refuse h_x0_shelf h_x0_rowSize h_x0_tapeSize h_x0_lines h_x0_line h_x0_changes h_x0_coins h_x0_goods h_x0_good h_x0_works h_x0_work h_x0_years h_x0_from h_x0_far h_x0_way h_x0_steps h_x0_queue (by decide)) ?_
                      rintro ⟨v22, g23⟩ hr21
                      have hx_v22 : (v22 = (-2)) := hr21
                      dsimp only [u2]
                      exact Sf.ok trivial
                    · refine Sf.ite (fun hc22 => ?_) (fun hc22 => ?_)
                      · refine Sf.bind (sX7_refuse h_x0_shelf h_x0_rowSize h_x0_tapeSize h_x0_lines h_x0_line h_x0_changes h_x0_coins h_x0_goods h_x0_good h_x0_works h_x0_work h_x0_years h_x0_from h_x0_far h_x0_way h_x0_steps h_x0_queue (by decide)) ?_
                        rintro ⟨v25, g26⟩ hr23
                        have hx_v25 : (v25 = (-2)) := hr23
                        dsimp only [u2]
                        exact Sf.ok trivial
                      · refine Sf.ite (fun hc24 => ?_) (fun hc24 => ?_)
                        · refine Sf.bind (sX7_refuse h_x0_shelf h_x0_rowSize h_x0_tapeSize h_x0_lines h_x0_line h_x0_changes h_x0_coins h_x0_goods h_x0_good h_x0_works h_x0_work h_x0_years h_x0_from h_x0_far h_x0_way h_x0_steps h_x0_queue (by decide)) ?_
                          rintro ⟨v28, g29⟩ hr25
                          have hx_v28 : (v28 = (-2)) := hr25
                          dsimp only [u2]
                          exact Sf.ok trivial
                        · refine Sf.rdI 8 rfl h_x0_rowSize (by grind) (fun v31 h_v31 e_v31 => ?_)
                          refine Sf.ite (fun hc26 => ?_) (fun hc26 => ?_)
                          · refine Sf.bind (sX7_refuse h_x0_shelf h_x0_rowSize h_x0_tapeSize h_x0_lines h_x0_line h_x0_changes h_x0_coins h_x0_goods h_x0_good h_x0_works h_x0_work h_x0_years h_x0_from h_x0_far h_x0_way h_x0_steps h_x0_queue (by decide)) ?_
                            rintro ⟨v32, g33⟩ hr27
                            have hx_v32 : (v32 = (-2)) := hr27
                            dsimp only [u2]
                            exact Sf.ok trivial
                          · refine Sf.rdI 8 rfl h_x0_rowSize (by grind) (fun v35 h_v35 e_v35 => ?_)
                            refine Sf.ite (fun hc28 => ?_) (fun hc28 => ?_)
                            · refine Sf.bind (sX7_refuse h_x0_shelf h_x0_rowSize h_x0_tapeSize h_x0_lines h_x0_line h_x0_changes h_x0_coins h_x0_goods h_x0_good h_x0_works h_x0_work h_x0_years h_x0_from h_x0_far h_x0_way h_x0_steps h_x0_queue (by decide)) ?_
                              rintro ⟨v36, g37⟩ hr29
                              have hx_v36 : (v36 = (-2)) := hr29
                              dsimp only [u2]
                              exact Sf.ok trivial
                            · refine Sf.rdI 8 rfl h_x0_rowSize (by grind) (fun v39 h_v39 e_v39 => ?_)
                              have hs30 : v39 = v31 := e_v39.trans e_v31.symm
                              clear e_v39
                              refine Sf.ite (fun hc31 => ?_) (fun hc31 => ?_)
                              · refine Sf.bind (sX7_refuse h_x0_shelf h_x0_rowSize h_x0_tapeSize h_x0_lines h_x0_line h_x0_changes h_x0_coins h_x0_goods h_x0_good h_x0_works h_x0_work h_x0_years h_x0_from h_x0_far h_x0_way h_x0_steps h_x0_queue (by decide)) ?_
                                rintro ⟨v40, g41⟩ hr32
                                have hx_v40 : (v40 = (-2)) := hr32
                                dsimp only [u2]
                                exact Sf.ok trivial
                              · refine Sf.rdI 8 rfl h_x0_rowSize (by grind) (fun v43 h_v43 e_v43 => ?_)
                                have hs33 : v43 = v35 := e_v43.trans e_v35.symm
                                clear e_v43
                                refine Sf.ite (fun hc34 => ?_) (fun hc34 => ?_)
                                · refine Sf.bind (LX7_copy_s191 hn (by grind) (by grind) (by grind) (by decide) (by grind)) ?_
                                  intro w48 hr35
                                  refine Sf.bind (LX7_copy_s225 hn (by grind) (by grind) (by grind) (by decide) (by grind)) ?_
                                  intro w53 hr36
                                  exact Sf.ok trivial
                                · refine Sf.bind (sX7_refuse h_x0_shelf h_x0_rowSize h_x0_tapeSize h_x0_lines h_x0_line h_x0_changes h_x0_coins h_x0_goods h_x0_good h_x0_works h_x0_work h_x0_years h_x0_from h_x0_far h_x0_way h_x0_steps h_x0_queue (by decide)) ?_
                                  rintro ⟨v60, g61⟩ hr37
                                  have hx_v60 : (v60 = (-2)) := hr37
                                  dsimp only [u2]
                                  exact Sf.ok trivial
              · refine Sf.bind (sX7_refuse h_x0_shelf h_x0_rowSize h_x0_tapeSize h_x0_lines h_x0_line h_x0_changes h_x0_coins h_x0_goods h_x0_good h_x0_works h_x0_work h_x0_years h_x0_from h_x0_far h_x0_way h_x0_steps h_x0_queue (by decide)) ?_
                rintro ⟨v69, g70⟩ hr38
                have hx_v69 : (v69 = (-3)) := hr38
                dsimp only [u2]
                exact Sf.ok trivial
            · unfold fX7_copy_j93
              refine Sf.rdI 8 rfl h_x0_shelf (by grind) (fun v17 h_v17 e_v17 => ?_)
              have hs39 : v17 = v8 := e_v17.trans e_v8.symm
              clear e_v17
              refine Sf.ite (fun hc40 => ?_) (fun hc40 => ?_)
              · refine Sf.bind (sX7_refuse h_x0_shelf h_x0_rowSize h_x0_tapeSize h_x0_lines h_x0_line h_x0_changes h_x0_coins h_x0_goods h_x0_good h_x0_works h_x0_work h_x0_years h_x0_from h_x0_far h_x0_way h_x0_steps h_x0_queue (by decide)) ?_
                rintro ⟨v18, g19⟩ hr41
                have hx_v18 : (v18 = (-4)) := hr41
                dsimp only [u2]
                exact Sf.ok trivial
              · refine Sf.rdI 8 rfl h_x0_shelf (by grind) (fun v21 h_v21 e_v21 => ?_)
                have hs42 : v21 = v12 := e_v21.trans e_v12.symm
                clear e_v21
                refine Sf.ite (fun hc43 => ?_) (fun hc43 => ?_)
                · refine Sf.bind (sX7_refuse h_x0_shelf h_x0_rowSize h_x0_tapeSize h_x0_lines h_x0_line h_x0_changes h_x0_coins h_x0_goods h_x0_good h_x0_works h_x0_work h_x0_years h_x0_from h_x0_far h_x0_way h_x0_steps h_x0_queue (by decide)) ?_
                  rintro ⟨v63, g64⟩ hr44
                  have hx_v63 : (v63 = (-4)) := hr44
                  dsimp only [u2]
                  exact Sf.ok trivial
                · refine Sf.ite (fun hc45 => ?_) (fun hc45 => ?_)
                  · refine Sf.bind (sX7_refuse h_x0_shelf h_x0_rowSize h_x0_tapeSize h_x0_lines h_x0_line h_x0_changes h_x0_coins h_x0_goods h_x0_good h_x0_works h_x0_work h_x0_years h_x0_from h_x0_far h_x0_way h_x0_steps h_x0_queue (by decide)) ?_
                    rintro ⟨v22, g23⟩ hr46
                    have hx_v22 : (v22 = (-2)) := hr46
                    dsimp only [u2]
                    exact Sf.ok trivial
                  · refine Sf.ite (fun hc47 => ?_) (fun hc47 => ?_)
                    · refine Sf.bind (sX7_refuse h_x0_shelf h_x0_rowSize h_x0_tapeSize h_x0_lines h_x0_line h_x0_changes h_x0_coins h_x0_goods h_x0_good h_x0_works h_x0_work h_x0_years h_x0_from h_x0_far h_x0_way h_x0_steps h_x0_queue (by decide)) ?_
                      rintro ⟨v25, g26⟩ hr48
                      have hx_v25 : (v25 = (-2)) := hr48
                      dsimp only [u2]
                      exact Sf.ok trivial
                    · refine Sf.ite (fun hc49 => ?_) (fun hc49 => ?_)
                      · refine Sf.bind (sX7_refuse h_x0_shelf h_x0_rowSize h_x0_tapeSize h_x0_lines h_x0_line h_x0_changes h_x0_coins h_x0_goods h_x0_good h_x0_works h_x0_work h_x0_years h_x0_from h_x0_far h_x0_way h_x0_steps h_x0_queue (by decide)) ?_
                        rintro ⟨v28, g29⟩ hr50
                        have hx_v28 : (v28 = (-2)) := hr50
                        dsimp only [u2]
                        exact Sf.ok trivial
                      · refine Sf.rdI 8 rfl h_x0_rowSize (by grind) (fun v31 h_v31 e_v31 => ?_)
                        refine Sf.ite (fun hc51 => ?_) (fun hc51 => ?_)
                        · refine Sf.bind (sX7_refuse h_x0_shelf h_x0_rowSize h_x0_tapeSize h_x0_lines h_x0_line h_x0_changes h_x0_coins h_x0_goods h_x0_good h_x0_works h_x0_work h_x0_years h_x0_from h_x0_far h_x0_way h_x0_steps h_x0_queue (by decide)) ?_
                          rintro ⟨v32, g33⟩ hr52
                          have hx_v32 : (v32 = (-2)) := hr52
                          dsimp only [u2]
                          exact Sf.ok trivial
                        · refine Sf.rdI 8 rfl h_x0_rowSize (by grind) (fun v35 h_v35 e_v35 => ?_)
                          refine Sf.ite (fun hc53 => ?_) (fun hc53 => ?_)
                          · refine Sf.bind (sX7_refuse h_x0_shelf h_x0_rowSize h_x0_tapeSize h_x0_lines h_x0_line h_x0_changes h_x0_coins h_x0_goods h_x0_good h_x0_works h_x0_work h_x0_years h_x0_from h_x0_far h_x0_way h_x0_steps h_x0_queue (by decide)) ?_
                            rintro ⟨v36, g37⟩ hr54
                            have hx_v36 : (v36 = (-2)) := hr54
                            dsimp only [u2]
                            exact Sf.ok trivial
                          · refine Sf.rdI 8 rfl h_x0_rowSize (by grind) (fun v39 h_v39 e_v39 => ?_)
                            have hs55 : v39 = v31 := e_v39.trans e_v31.symm
                            clear e_v39
                            refine Sf.ite (fun hc56 => ?_) (fun hc56 => ?_)
                            · refine Sf.bind (sX7_refuse h_x0_shelf h_x0_rowSize h_x0_tapeSize h_x0_lines h_x0_line h_x0_changes h_x0_coins h_x0_goods h_x0_good h_x0_works h_x0_work h_x0_years h_x0_from h_x0_far h_x0_way h_x0_steps h_x0_queue (by decide)) ?_
                              rintro ⟨v40, g41⟩ hr57
                              have hx_v40 : (v40 = (-2)) := hr57
                              dsimp only [u2]
                              exact Sf.ok trivial
                            · refine Sf.rdI 8 rfl h_x0_rowSize (by grind) (fun v43 h_v43 e_v43 => ?_)
                              have hs58 : v43 = v35 := e_v43.trans e_v35.symm
                              clear e_v43
                              refine Sf.ite (fun hc59 => ?_) (fun hc59 => ?_)
                              · refine Sf.bind (LX7_copy_s191 hn (by grind) (by grind) (by grind) (by decide) (by grind)) ?_
                                intro w48 hr60
                                refine Sf.bind (LX7_copy_s225 hn (by grind) (by grind) (by grind) (by decide) (by grind)) ?_
                                intro w53 hr61
                                exact Sf.ok trivial
                              · refine Sf.bind (sX7_refuse h_x0_shelf h_x0_rowSize h_x0_tapeSize h_x0_lines h_x0_line h_x0_changes h_x0_coins h_x0_goods h_x0_good h_x0_works h_x0_work h_x0_years h_x0_from h_x0_far h_x0_way h_x0_steps h_x0_queue (by decide)) ?_
                                rintro ⟨v60, g61⟩ hr62
                                have hx_v60 : (v60 = (-2)) := hr62
                                dsimp only [u2]
                                exact Sf.ok trivial
          · unfold fX7_copy_j93
            refine Sf.rdI 8 rfl h_x0_shelf (by grind) (fun v17 h_v17 e_v17 => ?_)
            have hs63 : v17 = v8 := e_v17.trans e_v8.symm
            clear e_v17
            refine Sf.ite (fun hc64 => ?_) (fun hc64 => ?_)
            · refine Sf.bind (sX7_refuse h_x0_shelf h_x0_rowSize h_x0_tapeSize h_x0_lines h_x0_line h_x0_changes h_x0_coins h_x0_goods h_x0_good h_x0_works h_x0_work h_x0_years h_x0_from h_x0_far h_x0_way h_x0_steps h_x0_queue (by decide)) ?_
              rintro ⟨v18, g19⟩ hr65
              have hx_v18 : (v18 = (-4)) := hr65
              dsimp only [u2]
              exact Sf.ok trivial
            · refine Sf.rdI 8 rfl h_x0_shelf (by grind) (fun v21 h_v21 e_v21 => ?_)
              have hs66 : v21 = v12 := e_v21.trans e_v12.symm
              clear e_v21
              refine Sf.ite (fun hc67 => ?_) (fun hc67 => ?_)
              · refine Sf.bind (sX7_refuse h_x0_shelf h_x0_rowSize h_x0_tapeSize h_x0_lines h_x0_line h_x0_changes h_x0_coins h_x0_goods h_x0_good h_x0_works h_x0_work h_x0_years h_x0_from h_x0_far h_x0_way h_x0_steps h_x0_queue (by decide)) ?_
                rintro ⟨v63, g64⟩ hr68
                have hx_v63 : (v63 = (-4)) := hr68
                dsimp only [u2]
                exact Sf.ok trivial
              · refine Sf.ite (fun hc69 => ?_) (fun hc69 => ?_)
                · refine Sf.bind (sX7_refuse h_x0_shelf h_x0_rowSize h_x0_tapeSize h_x0_lines h_x0_line h_x0_changes h_x0_coins h_x0_goods h_x0_good h_x0_works h_x0_work h_x0_years h_x0_from h_x0_far h_x0_way h_x0_steps h_x0_queue (by decide)) ?_
                  rintro ⟨v22, g23⟩ hr70
                  have hx_v22 : (v22 = (-2)) := hr70
                  dsimp only [u2]
                  exact Sf.ok trivial
                · refine Sf.ite (fun hc71 => ?_) (fun hc71 => ?_)
                  · refine Sf.bind (sX7_refuse h_x0_shelf h_x0_rowSize h_x0_tapeSize h_x0_lines h_x0_line h_x0_changes h_x0_coins h_x0_goods h_x0_good h_x0_works h_x0_work h_x0_years h_x0_from h_x0_far h_x0_way h_x0_steps h_x0_queue (by decide)) ?_
                    rintro ⟨v25, g26⟩ hr72
                    have hx_v25 : (v25 = (-2)) := hr72
                    dsimp only [u2]
                    exact Sf.ok trivial
                  · refine Sf.ite (fun hc73 => ?_) (fun hc73 => ?_)
                    · refine Sf.bind (sX7_refuse h_x0_shelf h_x0_rowSize h_x0_tapeSize h_x0_lines h_x0_line h_x0_changes h_x0_coins h_x0_goods h_x0_good h_x0_works h_x0_work h_x0_years h_x0_from h_x0_far h_x0_way h_x0_steps h_x0_queue (by decide)) ?_
                      rintro ⟨v28, g29⟩ hr74
                      have hx_v28 : (v28 = (-2)) := hr74
                      dsimp only [u2]
                      exact Sf.ok trivial
                    · refine Sf.rdI 8 rfl h_x0_rowSize (by grind) (fun v31 h_v31 e_v31 => ?_)
                      refine Sf.ite (fun hc75 => ?_) (fun hc75 => ?_)
                      · refine Sf.bind (sX7_refuse h_x0_shelf h_x0_rowSize h_x0_tapeSize h_x0_lines h_x0_line h_x0_changes h_x0_coins h_x0_goods h_x0_good h_x0_works h_x0_work h_x0_years h_x0_from h_x0_far h_x0_way h_x0_steps h_x0_queue (by decide)) ?_
                        rintro ⟨v32, g33⟩ hr76
                        have hx_v32 : (v32 = (-2)) := hr76
                        dsimp only [u2]
                        exact Sf.ok trivial
                      · refine Sf.rdI 8 rfl h_x0_rowSize (by grind) (fun v35 h_v35 e_v35 => ?_)
                        refine Sf.ite (fun hc77 => ?_) (fun hc77 => ?_)
                        · refine Sf.bind (sX7_refuse h_x0_shelf h_x0_rowSize h_x0_tapeSize h_x0_lines h_x0_line h_x0_changes h_x0_coins h_x0_goods h_x0_good h_x0_works h_x0_work h_x0_years h_x0_from h_x0_far h_x0_way h_x0_steps h_x0_queue (by decide)) ?_
                          rintro ⟨v36, g37⟩ hr78
                          have hx_v36 : (v36 = (-2)) := hr78
                          dsimp only [u2]
                          exact Sf.ok trivial
                        · refine Sf.rdI 8 rfl h_x0_rowSize (by grind) (fun v39 h_v39 e_v39 => ?_)
                          have hs79 : v39 = v31 := e_v39.trans e_v31.symm
                          clear e_v39
                          refine Sf.ite (fun hc80 => ?_) (fun hc80 => ?_)
                          · refine Sf.bind (sX7_refuse h_x0_shelf h_x0_rowSize h_x0_tapeSize h_x0_lines h_x0_line h_x0_changes h_x0_coins h_x0_goods h_x0_good h_x0_works h_x0_work h_x0_years h_x0_from h_x0_far h_x0_way h_x0_steps h_x0_queue (by decide)) ?_
                            rintro ⟨v40, g41⟩ hr81
                            have hx_v40 : (v40 = (-2)) := hr81
                            dsimp only [u2]
                            exact Sf.ok trivial
                          · refine Sf.rdI 8 rfl h_x0_rowSize (by grind) (fun v43 h_v43 e_v43 => ?_)
                            have hs82 : v43 = v35 := e_v43.trans e_v35.symm
                            clear e_v43
                            refine Sf.ite (fun hc83 => ?_) (fun hc83 => ?_)
                            · refine Sf.bind (LX7_copy_s191 hn (by grind) (by grind) (by grind) (by decide) (by grind)) ?_
                              intro w48 hr84
                              refine Sf.bind (LX7_copy_s225 hn (by grind) (by grind) (by grind) (by decide) (by grind)) ?_
                              intro w53 hr85
                              exact Sf.ok trivial
                            · refine Sf.bind (sX7_refuse h_x0_shelf h_x0_rowSize h_x0_tapeSize h_x0_lines h_x0_line h_x0_changes h_x0_coins h_x0_goods h_x0_good h_x0_works h_x0_work h_x0_years h_x0_from h_x0_far h_x0_way h_x0_steps h_x0_queue (by decide)) ?_
                              rintro ⟨v60, g61⟩ hr86
                              have hx_v60 : (v60 = (-2)) := hr86
                              dsimp only [u2]
                              exact Sf.ok trivial
set_option maxHeartbeats 1000000 in
theorem sX7_element {x0_shelf x0_rowSort x0_rowSize : (Nat → Int32)} {x0_rows : (Nat → Nat → Int64)} {x0_moved : (Nat → Int64)} {x0_shown x0_tape : (Nat → Int32)} {x0_tapeSize : Int32} {x0_refused : (Nat → Int32)} {x0_lines : Int32} {x0_line : (Nat → Nat → Int32)} {x0_changes x0_coins : (Nat → Int32)} {x0_goods : Int32} {x0_good : (Nat → Nat → Int32)} {x0_works : Int32} {x0_work : (Nat → Nat → Int32)} {x0_years x0_gone x0_spent x0_at x0_token x0_from : Int32} {x0_figures : Int64} {x0_fault : Int32} {x0_numbers : (Nat → Int32)} {x0_statements : Int32} {x0_left x0_far : (Nat → Int32)} {x0_tons : Int32} {x0_way : (Nat → Int32)} {x0_steps : Int32} {x0_met : Int64} {x0_queue x0_totals : (Nat → Int32)} {p1 p2 : Int32}  (h_x0_shelf : (AI 0 2 x0_shelf)) (h_x0_rowSize : (AI 0 40 x0_rowSize)) (h_x0_tapeSize : (0 ≤ x0_tapeSize ∧ x0_tapeSize ≤ 250)) (h_x0_lines : (0 ≤ x0_lines ∧ x0_lines ≤ 20)) (h_x0_line : (LnM x0_line)) (h_x0_changes : (AI 0 99 x0_changes)) (h_x0_coins : (AI 0 9 x0_coins)) (h_x0_goods : (0 ≤ x0_goods ∧ x0_goods ≤ 8)) (h_x0_good : (GdM x0_good)) (h_x0_works : (0 ≤ x0_works ∧ x0_works ≤ 7)) (h_x0_work : (WkM x0_work)) (h_x0_years : (1 ≤ x0_years ∧ x0_years ≤ 30)) (h_x0_from : (0 ≤ x0_from ∧ x0_from ≤ 250)) (h_x0_far : (AI 0 1000000000 x0_far)) (h_x0_way : (AI 0 22 x0_way)) (h_x0_steps : (0 ≤ x0_steps ∧ x0_steps ≤ 37)) (h_x0_queue : (AI 0 35 x0_queue)) : Sf (fX7_element (x0_shelf, x0_rowSort, x0_rowSize, x0_rows, x0_moved, x0_shown, x0_tape, x0_tapeSize, x0_refused, x0_lines, x0_line, x0_changes, x0_coins, x0_goods, x0_good, x0_works, x0_work, x0_years, x0_gone, x0_spent, x0_at, x0_token, x0_from, x0_figures, x0_fault, x0_numbers, x0_statements, x0_left, x0_far, x0_tons, x0_way, x0_steps, x0_met, x0_queue, x0_totals) p1 p2) (fun r => True) := by
  unfold fX7_element
  dsimp only [u35]
  refine Sf.bind (s_inq p1 0 7 (by decide) (by decide)) ?_
  intro v1 hr_v1
  refine Sf.ite (fun hc1 => ?_) (fun hc1 => ?_)
  · exact Sf.ok trivial
  · refine Sf.rdI 8 rfl h_x0_shelf (by grind) (fun v3 h_v3 e_v3 => ?_)
    clear e_v3
    refine Sf.ite (fun hc2 => ?_) (fun hc2 => ?_)
    · refine Sf.rdI 8 rfl h_x0_rowSize (by grind) (fun v4 h_v4 e_v4 => ?_)
      clear e_v4
      refine Sf.bind (s_inq p2 0 (v4 - 1) (by decide) rfl) ?_
      intro v5 hr_v5
      refine Sf.ite (fun hc3 => ?_) (fun hc3 => ?_)
      · exact Sf.ok trivial
      · refine Sf.ckb 8 rfl (by grind) (fun q7 e_q7 h_q7 => ?_)
        refine Sf.rdb 40 rfl (by grind) (fun v8 e_v8 => ?_)
        clear e_v8
        exact Sf.ok trivial
    · exact Sf.ok trivial
set_option maxHeartbeats 1000000 in
theorem sX7_holds {x0_shelf x0_rowSort x0_rowSize : (Nat → Int32)} {x0_rows : (Nat → Nat → Int64)} {x0_moved : (Nat → Int64)} {x0_shown x0_tape : (Nat → Int32)} {x0_tapeSize : Int32} {x0_refused : (Nat → Int32)} {x0_lines : Int32} {x0_line : (Nat → Nat → Int32)} {x0_changes x0_coins : (Nat → Int32)} {x0_goods : Int32} {x0_good : (Nat → Nat → Int32)} {x0_works : Int32} {x0_work : (Nat → Nat → Int32)} {x0_years x0_gone x0_spent x0_at x0_token x0_from : Int32} {x0_figures : Int64} {x0_fault : Int32} {x0_numbers : (Nat → Int32)} {x0_statements : Int32} {x0_left x0_far : (Nat → Int32)} {x0_tons : Int32} {x0_way : (Nat → Int32)} {x0_steps : Int32} {x0_met : Int64} {x0_queue x0_totals : (Nat → Int32)} {p1 : Int32}  (h_x0_shelf : (AI 0 2 x0_shelf)) (h_x0_rowSize : (AI 0 40 x0_rowSize)) (h_x0_tapeSize : (0 ≤ x0_tapeSize ∧ x0_tapeSize ≤ 250)) (h_x0_lines : (0 ≤ x0_lines ∧ x0_lines ≤ 20)) (h_x0_line : (LnM x0_line)) (h_x0_changes : (AI 0 99 x0_changes)) (h_x0_coins : (AI 0 9 x0_coins)) (h_x0_goods : (0 ≤ x0_goods ∧ x0_goods ≤ 8)) (h_x0_good : (GdM x0_good)) (h_x0_works : (0 ≤ x0_works ∧ x0_works ≤ 7)) (h_x0_work : (WkM x0_work)) (h_x0_years : (1 ≤ x0_years ∧ x0_years ≤ 30)) (h_x0_from : (0 ≤ x0_from ∧ x0_from ≤ 250)) (h_x0_far : (AI 0 1000000000 x0_far)) (h_x0_way : (AI 0 22 x0_way)) (h_x0_steps : (0 ≤ x0_steps ∧ x0_steps ≤ 37)) (h_x0_queue : (AI 0 35 x0_queue)) : Sf (fX7_holds (x0_shelf, x0_rowSort, x0_rowSize, x0_rows, x0_moved, x0_shown, x0_tape, x0_tapeSize, x0_refused, x0_lines, x0_line, x0_changes, x0_coins, x0_goods, x0_good, x0_works, x0_work, x0_years, x0_gone, x0_spent, x0_at, x0_token, x0_from, x0_figures, x0_fault, x0_numbers, x0_statements, x0_left, x0_far, x0_tons, x0_way, x0_steps, x0_met, x0_queue, x0_totals) p1) (fun r => True) := by
  unfold fX7_holds
  dsimp only [u35]
  refine Sf.bind (s_inq p1 0 7 (by decide) (by decide)) ?_
  intro v1 hr_v1
  refine Sf.ite (fun hc1 => ?_) (fun hc1 => ?_)
  · exact Sf.ok trivial
  · refine Sf.rdI 8 rfl h_x0_shelf (by grind) (fun v3 h_v3 e_v3 => ?_)
    refine Sf.ite (fun hc2 => ?_) (fun hc2 => ?_)
    · exact Sf.ok trivial
    · refine Sf.rdI 8 rfl h_x0_shelf (by grind) (fun v4 h_v4 e_v4 => ?_)
      have hs3 : v4 = v3 := e_v4.trans e_v3.symm
      clear e_v4
      refine Sf.ite (fun hc4 => ?_) (fun hc4 => ?_)
      · refine Sf.rdb 8 rfl (by grind) (fun v6 e_v6 => ?_)
        clear e_v6
        exact Sf.ok trivial
      · refine Sf.rdb 8 rfl (by grind) (fun v5 e_v5 => ?_)
        clear e_v5
        exact Sf.ok trivial
set_option maxHeartbeats 1000000 in
theorem sX7_show {x0_shelf x0_rowSort x0_rowSize : (Nat → Int32)} {x0_rows : (Nat → Nat → Int64)} {x0_moved : (Nat → Int64)} {x0_shown x0_tape : (Nat → Int32)} {x0_tapeSize : Int32} {x0_refused : (Nat → Int32)} {x0_lines : Int32} {x0_line : (Nat → Nat → Int32)} {x0_changes x0_coins : (Nat → Int32)} {x0_goods : Int32} {x0_good : (Nat → Nat → Int32)} {x0_works : Int32} {x0_work : (Nat → Nat → Int32)} {x0_years x0_gone x0_spent x0_at x0_token x0_from : Int32} {x0_figures : Int64} {x0_fault : Int32} {x0_numbers : (Nat → Int32)} {x0_statements : Int32} {x0_left x0_far : (Nat → Int32)} {x0_tons : Int32} {x0_way : (Nat → Int32)} {x0_steps : Int32} {x0_met : Int64} {x0_queue x0_totals : (Nat → Int32)} {p1 p2 : Int32}  (h_x0_shelf : (AI 0 2 x0_shelf)) (h_x0_rowSize : (AI 0 40 x0_rowSize)) (h_x0_tapeSize : (0 ≤ x0_tapeSize ∧ x0_tapeSize ≤ 250)) (h_x0_lines : (0 ≤ x0_lines ∧ x0_lines ≤ 20)) (h_x0_line : (LnM x0_line)) (h_x0_changes : (AI 0 99 x0_changes)) (h_x0_coins : (AI 0 9 x0_coins)) (h_x0_goods : (0 ≤ x0_goods ∧ x0_goods ≤ 8)) (h_x0_good : (GdM x0_good)) (h_x0_works : (0 ≤ x0_works ∧ x0_works ≤ 7)) (h_x0_work : (WkM x0_work)) (h_x0_years : (1 ≤ x0_years ∧ x0_years ≤ 30)) (h_x0_from : (0 ≤ x0_from ∧ x0_from ≤ 250)) (h_x0_far : (AI 0 1000000000 x0_far)) (h_x0_way : (AI 0 22 x0_way)) (h_x0_steps : (0 ≤ x0_steps ∧ x0_steps ≤ 37)) (h_x0_queue : (AI 0 35 x0_queue)) : Sf (fX7_show (x0_shelf, x0_rowSort, x0_rowSize, x0_rows, x0_moved, x0_shown, x0_tape, x0_tapeSize, x0_refused, x0_lines, x0_line, x0_changes, x0_coins, x0_goods, x0_good, x0_works, x0_work, x0_years, x0_gone, x0_spent, x0_at, x0_token, x0_from, x0_figures, x0_fault, x0_numbers, x0_statements, x0_left, x0_far, x0_tons, x0_way, x0_steps, x0_met, x0_queue, x0_totals) p1 p2) (fun r => (AI 0 2 r.2.1)) := by
  unfold fX7_show
  dsimp only [u35]
  refine Sf.bind (s_inq p1 0 7 (by decide) (by decide)) ?_
  intro v1 hr_v1
  refine Sf.ite (fun hc1 => ?_) (fun hc1 => ?_)
  · refine Sf.bind (sX7_refuse h_x0_shelf h_x0_rowSize h_x0_tapeSize h_x0_lines h_x0_line h_x0_changes h_x0_coins h_x0_goods h_x0_good h_x0_works h_x0_work h_x0_years h_x0_from h_x0_far h_x0_way h_x0_steps h_x0_queue (by decide)) ?_
    rintro ⟨v3, g4⟩ hr2
    have hx_v3 : (v3 = (-2)) := hr2
    dsimp only [u2]
    exact Sf.ok (show (AI 0 2 x0_shelf) from h_x0_shelf)
  · refine Sf.ite (fun hc3 => ?_) (fun hc3 => ?_)
    · unfold fX7_show_j32
      refine Sf.ite (fun hc4 => ?_) (fun hc4 => ?_)
      · unfold fX7_show_j47
        refine Sf.wrI 8 rfl h_x0_shelf (by grind) (by decide) (fun f7 h_f7 e_f7 => ?_)
        clear e_f7
        refine Sf.wrb 8 rfl (by grind) (fun f8 e_f8 => ?_)
        clear e_f8
        exact Sf.ok (show (AI 0 2 f7) from h_f7)
      · unfold fX7_show_j47
        refine Sf.wrI 8 rfl h_x0_shelf (by grind) (by decide) (fun f7 h_f7 e_f7 => ?_)
        clear e_f7
        refine Sf.wrb 8 rfl (by grind) (fun f8 e_f8 => ?_)
        clear e_f8
        exact Sf.ok (show (AI 0 2 f7) from h_f7)
    · refine Sf.bind (sX7_isWork h_x0_shelf h_x0_rowSize h_x0_tapeSize h_x0_lines h_x0_line h_x0_changes h_x0_coins h_x0_goods h_x0_good h_x0_works h_x0_work h_x0_years h_x0_from h_x0_far h_x0_way h_x0_steps h_x0_queue) ?_
      intro v9 hr5
      have hx_v9 : ((v9 = 1 ∧ 0 ≤ p2 ∧ p2 < x0_works) ∨ (v9 = 0 ∧ ¬ (0 ≤ p2 ∧ p2 < x0_works))) := hr5
      refine Sf.ite (fun hc6 => ?_) (fun hc6 => ?_)
      · refine Sf.bind (sX7_refuse h_x0_shelf h_x0_rowSize h_x0_tapeSize h_x0_lines h_x0_line h_x0_changes h_x0_coins h_x0_goods h_x0_good h_x0_works h_x0_work h_x0_years h_x0_from h_x0_far h_x0_way h_x0_steps h_x0_queue (by decide)) ?_
        rintro ⟨v11, g12⟩ hr7
        have hx_v11 : (v11 = (-2)) := hr7
        dsimp only [u2]
        exact Sf.ok (show (AI 0 2 x0_shelf) from h_x0_shelf)
      · unfold fX7_show_j32
        refine Sf.ite (fun hc8 => ?_) (fun hc8 => ?_)
        · unfold fX7_show_j47
          refine Sf.wrI 8 rfl h_x0_shelf (by grind) (by decide) (fun f7 h_f7 e_f7 => ?_)
          clear e_f7
          refine Sf.wrb 8 rfl (by grind) (fun f8 e_f8 => ?_)
          clear e_f8
          exact Sf.ok (show (AI 0 2 f7) from h_f7)
        · unfold fX7_show_j47
          refine Sf.wrI 8 rfl h_x0_shelf (by grind) (by decide) (fun f7 h_f7 e_f7 => ?_)
          clear e_f7
          refine Sf.wrb 8 rfl (by grind) (fun f8 e_f8 => ?_)
          clear e_f8
          exact Sf.ok (show (AI 0 2 f7) from h_f7)
set_option maxHeartbeats 1000000 in
theorem sX7_isUnder {p0 p1 : Int32}   : Sf (fX7_isUnder p0 p1) (fun r => True) := by
  unfold fX7_isUnder
  refine Sf.ite (fun hc1 => ?_) (fun hc1 => ?_)
  · exact Sf.ok trivial
  · refine Sf.ite (fun hc2 => ?_) (fun hc2 => ?_)
    · exact Sf.ok trivial
    · refine Sf.ite (fun hc3 => ?_) (fun hc3 => ?_)
      · refine Sf.ite (fun hc4 => ?_) (fun hc4 => ?_)
        · exact Sf.ok trivial
        · unfold fX7_isUnder_j19
          refine Sf.ite (fun hc5 => ?_) (fun hc5 => ?_)
          · refine Sf.ite (fun hc6 => ?_) (fun hc6 => ?_)
            · exact Sf.ok trivial
            · exact Sf.ok trivial
          · exact Sf.ok trivial
      · unfold fX7_isUnder_j19
        refine Sf.ite (fun hc7 => ?_) (fun hc7 => ?_)
        · refine Sf.ite (fun hc8 => ?_) (fun hc8 => ?_)
          · exact Sf.ok trivial
          · exact Sf.ok trivial
        · exact Sf.ok trivial
set_option maxHeartbeats 1000000 in
theorem sX7_newLine {x0_shelf x0_rowSort x0_rowSize : (Nat → Int32)} {x0_rows : (Nat → Nat → Int64)} {x0_moved : (Nat → Int64)} {x0_shown x0_tape : (Nat → Int32)} {x0_tapeSize : Int32} {x0_refused : (Nat → Int32)} {x0_lines : Int32} {x0_line : (Nat → Nat → Int32)} {x0_changes x0_coins : (Nat → Int32)} {x0_goods : Int32} {x0_good : (Nat → Nat → Int32)} {x0_works : Int32} {x0_work : (Nat → Nat → Int32)} {x0_years x0_gone x0_spent x0_at x0_token x0_from : Int32} {x0_figures : Int64} {x0_fault : Int32} {x0_numbers : (Nat → Int32)} {x0_statements : Int32} {x0_left x0_far : (Nat → Int32)} {x0_tons : Int32} {x0_way : (Nat → Int32)} {x0_steps : Int32} {x0_met : Int64} {x0_queue x0_totals : (Nat → Int32)} {p1 p2 : Int32}  (h_x0_shelf : (AI 0 2 x0_shelf)) (h_x0_rowSize : (AI 0 40 x0_rowSize)) (h_x0_tapeSize : (0 ≤ x0_tapeSize ∧ x0_tapeSize ≤ 250)) (h_x0_lines : (0 ≤ x0_lines ∧ x0_lines ≤ 20)) (h_x0_line : (LnM x0_line)) (h_x0_changes : (AI 0 99 x0_changes)) (h_x0_coins : (AI 0 9 x0_coins)) (h_x0_goods : (0 ≤ x0_goods ∧ x0_goods ≤ 8)) (h_x0_good : (GdM x0_good)) (h_x0_works : (0 ≤ x0_works ∧ x0_works ≤ 7)) (h_x0_work : (WkM x0_work)) (h_x0_years : (1 ≤ x0_years ∧ x0_years ≤ 30)) (h_x0_from : (0 ≤ x0_from ∧ x0_from ≤ 250)) (h_x0_far : (AI 0 1000000000 x0_far)) (h_x0_way : (AI 0 22 x0_way)) (h_x0_steps : (0 ≤ x0_steps ∧ x0_steps ≤ 37)) (h_x0_queue : (AI 0 35 x0_queue)) (h_p1 : (0 ≤ p1 ∧ p1 ≤ 11)) (h_p2 : (0 ≤ p2 ∧ p2 ≤ 11)) (he_0 : x0_lines < 20) : Sf (fX7_newLine (x0_shelf, x0_rowSort, x0_rowSize, x0_rows, x0_moved, x0_shown, x0_tape, x0_tapeSize, x0_refused, x0_lines, x0_line, x0_changes, x0_coins, x0_goods, x0_good, x0_works, x0_work, x0_years, x0_gone, x0_spent, x0_at, x0_token, x0_from, x0_figures, x0_fault, x0_numbers, x0_statements, x0_left, x0_far, x0_tons, x0_way, x0_steps, x0_met, x0_queue, x0_totals) p1 p2) (fun r => (LnM r)) := by
  unfold fX7_newLine
  dsimp only [u35]
  refine Sf.ckb 20 rfl (by grind) (fun q1 e_q1 h_q1 => ?_)
  refine Sf.wrl 0 rfl rfl (fun f2 e_f2 => ?_)
  have h_f2 : RI lnB f2 := by rw [e_f2]; exact RI.up (h_x0_line q1) (show 0 ≤ p1 ∧ p1 ≤ 11 from h_p1)
  clear e_f2
  refine Sf.wrl 1 rfl rfl (fun f3 e_f3 => ?_)
  have h_f3 : RI lnB f3 := by rw [e_f3]; exact RI.up ((GI.up h_x0_line h_f2) q1) (show 0 ≤ p2 ∧ p2 ≤ 11 from h_p2)
  clear e_f3
  refine Sf.wrl 2 rfl rfl (fun f4 e_f4 => ?_)
  have h_f4 : RI lnB f4 := by rw [e_f4]; exact RI.up ((GI.up (GI.up h_x0_line h_f2) h_f3) q1) (show 0 ≤ 7 ∧ 7 ≤ 7 from (by decide))
  clear e_f4
  refine Sf.wrl 3 rfl rfl (fun f5 e_f5 => ?_)
  have h_f5 : RI lnB f5 := by rw [e_f5]; exact RI.up ((GI.up (GI.up (GI.up h_x0_line h_f2) h_f3) h_f4) q1) (show 0 ≤ 10 ∧ 10 ≤ 60 from (by decide))
  clear e_f5
  refine Sf.wrl 4 rfl rfl (fun f6 e_f6 => ?_)
  have h_f6 : RI lnB f6 := by rw [e_f6]; exact RI.up ((GI.up (GI.up (GI.up (GI.up h_x0_line h_f2) h_f3) h_f4) h_f5) q1) (show 0 ≤ 999 ∧ 999 ≤ 999 from (by decide))
  clear e_f6
  refine Sf.wrl 5 rfl rfl (fun f7 e_f7 => ?_)
  have h_f7 : RI lnB f7 := by rw [e_f7]; exact RI.up ((GI.up (GI.up (GI.up (GI.up (GI.up h_x0_line h_f2) h_f3) h_f4) h_f5) h_f6) q1) (show 0 ≤ 0 ∧ 0 ≤ 5 from (by decide))
  clear e_f7
  refine Sf.wrl 6 rfl rfl (fun f8 e_f8 => ?_)
  have h_f8 : RI lnB f8 := by rw [e_f8]; exact RI.up ((GI.up (GI.up (GI.up (GI.up (GI.up (GI.up h_x0_line h_f2) h_f3) h_f4) h_f5) h_f6) h_f7) q1) (show 0 ≤ 0 ∧ 0 ≤ 1 from (by decide))
  clear e_f8
  exact Sf.ok (show (LnM (va_up (va_up (va_up (va_up (va_up (va_up (va_up x0_line q1 f2) q1 f3) q1 f4) q1 f5) q1 f6) q1 f7) q1 f8)) from (GI.up (GI.up (GI.up (GI.up (GI.up (GI.up (GI.up h_x0_line h_f2) h_f3) h_f4) h_f5) h_f6) h_f7) h_f8))
set_option maxHeartbeats 1000000 in
theorem sX7_line {x0_shelf x0_rowSort x0_rowSize : (Nat → Int32)} {x0_rows : (Nat → Nat → Int64)} {x0_moved : (Nat → Int64)} {x0_shown x0_tape : (Nat → Int32)} {x0_tapeSize : Int32} {x0_refused : (Nat → Int32)} {x0_lines : Int32} {x0_line : (Nat → Nat → Int32)} {x0_changes x0_coins : (Nat → Int32)} {x0_goods : Int32} {x0_good : (Nat → Nat → Int32)} {x0_works : Int32} {x0_work : (Nat → Nat → Int32)} {x0_years x0_gone x0_spent x0_at x0_token x0_from : Int32} {x0_figures : Int64} {x0_fault : Int32} {x0_numbers : (Nat → Int32)} {x0_statements : Int32} {x0_left x0_far : (Nat → Int32)} {x0_tons : Int32} {x0_way : (Nat → Int32)} {x0_steps : Int32} {x0_met : Int64} {x0_queue x0_totals : (Nat → Int32)} {p1 p2 p3 p4 p5 p6 : Int32}  (h_x0_shelf : (AI 0 2 x0_shelf)) (h_x0_rowSize : (AI 0 40 x0_rowSize)) (h_x0_tapeSize : (0 ≤ x0_tapeSize ∧ x0_tapeSize ≤ 250)) (h_x0_lines : (0 ≤ x0_lines ∧ x0_lines ≤ 20)) (h_x0_line : (LnM x0_line)) (h_x0_changes : (AI 0 99 x0_changes)) (h_x0_coins : (AI 0 9 x0_coins)) (h_x0_goods : (0 ≤ x0_goods ∧ x0_goods ≤ 8)) (h_x0_good : (GdM x0_good)) (h_x0_works : (0 ≤ x0_works ∧ x0_works ≤ 7)) (h_x0_work : (WkM x0_work)) (h_x0_years : (1 ≤ x0_years ∧ x0_years ≤ 30)) (h_x0_from : (0 ≤ x0_from ∧ x0_from ≤ 250)) (h_x0_far : (AI 0 1000000000 x0_far)) (h_x0_way : (AI 0 22 x0_way)) (h_x0_steps : (0 ≤ x0_steps ∧ x0_steps ≤ 37)) (h_x0_queue : (AI 0 35 x0_queue)) : Sf (fX7_line (x0_shelf, x0_rowSort, x0_rowSize, x0_rows, x0_moved, x0_shown, x0_tape, x0_tapeSize, x0_refused, x0_lines, x0_line, x0_changes, x0_coins, x0_goods, x0_good, x0_works, x0_work, x0_years, x0_gone, x0_spent, x0_at, x0_token, x0_from, x0_figures, x0_fault, x0_numbers, x0_statements, x0_left, x0_far, x0_tons, x0_way, x0_steps, x0_met, x0_queue, x0_totals) p1 p2 p3 p4 p5 p6) (fun r => (0 ≤ r.2.2.1 ∧ r.2.2.1 ≤ 20) ∧ (LnM r.2.2.2)) := by
  unfold fX7_line
  dsimp only [u35]
  refine Sf.bind (sX7_isPlace ) ?_
  intro v1 hr1
  have hx_v1 : ((v1 = 1 ∧ 0 ≤ p1 ∧ p1 ≤ 11) ∨ (v1 = 0 ∧ (p1 < 0 ∨ 11 < p1))) := hr1
  refine Sf.ite (fun hc2 => ?_) (fun hc2 => ?_)
  · unfold fX7_line_j48
    unfold fX7_line_j49
    refine Sf.ite (fun hc3 => ?_) (fun hc3 => absurd (by decide) hc3)
    refine Sf.bind (sX7_refuse h_x0_shelf h_x0_rowSize h_x0_tapeSize h_x0_lines h_x0_line h_x0_changes h_x0_coins h_x0_goods h_x0_good h_x0_works h_x0_work h_x0_years h_x0_from h_x0_far h_x0_way h_x0_steps h_x0_queue (by decide)) ?_
    rintro ⟨v4, g5⟩ hr4
    have hx_v4 : (v4 = (-2)) := hr4
    dsimp only [u2]
    exact Sf.ok (show (0 ≤ x0_lines ∧ x0_lines ≤ 20) ∧ (LnM x0_line) from ⟨h_x0_lines, h_x0_line⟩)
  · refine Sf.bind (sX7_isPlace ) ?_
    intro v30 hr5
    have hx_v30 : ((v30 = 1 ∧ 0 ≤ p2 ∧ p2 ≤ 11) ∨ (v30 = 0 ∧ (p2 < 0 ∨ 11 < p2))) := hr5
    refine Sf.ite (fun hc6 => ?_) (fun hc6 => ?_)
    · unfold fX7_line_j48
      unfold fX7_line_j49
      refine Sf.ite (fun hc7 => ?_) (fun hc7 => absurd (by decide) hc7)
      refine Sf.bind (sX7_refuse h_x0_shelf h_x0_rowSize h_x0_tapeSize h_x0_lines h_x0_line h_x0_changes h_x0_coins h_x0_goods h_x0_good h_x0_works h_x0_work h_x0_years h_x0_from h_x0_far h_x0_way h_x0_steps h_x0_queue (by decide)) ?_
      rintro ⟨v4, g5⟩ hr8
      have hx_v4 : (v4 = (-2)) := hr8
      dsimp only [u2]
      exact Sf.ok (show (0 ≤ x0_lines ∧ x0_lines ≤ 20) ∧ (LnM x0_line) from ⟨h_x0_lines, h_x0_line⟩)
    · refine Sf.ite (fun hc9 => ?_) (fun hc9 => ?_)
      · unfold fX7_line_j48
        unfold fX7_line_j49
        refine Sf.ite (fun hc10 => ?_) (fun hc10 => absurd (by decide) hc10)
        refine Sf.bind (sX7_refuse h_x0_shelf h_x0_rowSize h_x0_tapeSize h_x0_lines h_x0_line h_x0_changes h_x0_coins h_x0_goods h_x0_good h_x0_works h_x0_work h_x0_years h_x0_from h_x0_far h_x0_way h_x0_steps h_x0_queue (by decide)) ?_
        rintro ⟨v4, g5⟩ hr11
        have hx_v4 : (v4 = (-2)) := hr11
        dsimp only [u2]
        exact Sf.ok (show (0 ≤ x0_lines ∧ x0_lines ≤ 20) ∧ (LnM x0_line) from ⟨h_x0_lines, h_x0_line⟩)
      · refine Sf.bind (s_inq p3 1 7 (by decide) (by decide)) ?_
        intro v32 hr_v32
        refine Sf.ite (fun hc12 => ?_) (fun hc12 => ?_)
        · unfold fX7_line_j48
          unfold fX7_line_j49
          refine Sf.ite (fun hc13 => ?_) (fun hc13 => absurd (by decide) hc13)
          refine Sf.bind (sX7_refuse h_x0_shelf h_x0_rowSize h_x0_tapeSize h_x0_lines h_x0_line h_x0_changes h_x0_coins h_x0_goods h_x0_good h_x0_works h_x0_work h_x0_years h_x0_from h_x0_far h_x0_way h_x0_steps h_x0_queue (by decide)) ?_
          rintro ⟨v4, g5⟩ hr14
          have hx_v4 : (v4 = (-2)) := hr14
          dsimp only [u2]
          exact Sf.ok (show (0 ≤ x0_lines ∧ x0_lines ≤ 20) ∧ (LnM x0_line) from ⟨h_x0_lines, h_x0_line⟩)
        · refine Sf.bind (s_inq p4 1 60 (by decide) (by decide)) ?_
          intro v34 hr_v34
          refine Sf.ite (fun hc15 => ?_) (fun hc15 => ?_)
          · unfold fX7_line_j48
            unfold fX7_line_j49
            refine Sf.ite (fun hc16 => ?_) (fun hc16 => absurd (by decide) hc16)
            refine Sf.bind (sX7_refuse h_x0_shelf h_x0_rowSize h_x0_tapeSize h_x0_lines h_x0_line h_x0_changes h_x0_coins h_x0_goods h_x0_good h_x0_works h_x0_work h_x0_years h_x0_from h_x0_far h_x0_way h_x0_steps h_x0_queue (by decide)) ?_
            rintro ⟨v4, g5⟩ hr17
            have hx_v4 : (v4 = (-2)) := hr17
            dsimp only [u2]
            exact Sf.ok (show (0 ≤ x0_lines ∧ x0_lines ≤ 20) ∧ (LnM x0_line) from ⟨h_x0_lines, h_x0_line⟩)
          · unfold fX7_line_j49
            refine Sf.ite (fun hc18 => absurd hc18 (by decide)) (fun hc18 => ?_)
            refine Sf.bind (s_inq p5 1 999 (by decide) (by decide)) ?_
            intro v7 hr_v7
            refine Sf.ite (fun hc19 => ?_) (fun hc19 => ?_)
            · refine Sf.bind (sX7_refuse h_x0_shelf h_x0_rowSize h_x0_tapeSize h_x0_lines h_x0_line h_x0_changes h_x0_coins h_x0_goods h_x0_good h_x0_works h_x0_work h_x0_years h_x0_from h_x0_far h_x0_way h_x0_steps h_x0_queue (by decide)) ?_
              rintro ⟨v9, g10⟩ hr20
              have hx_v9 : (v9 = (-2)) := hr20
              dsimp only [u2]
              exact Sf.ok (show (0 ≤ x0_lines ∧ x0_lines ≤ 20) ∧ (LnM x0_line) from ⟨h_x0_lines, h_x0_line⟩)
            · refine Sf.bind (s_inq p6 0 5 (by decide) (by decide)) ?_
              intro v12 hr_v12
              refine Sf.ite (fun hc21 => ?_) (fun hc21 => ?_)
              · refine Sf.bind (sX7_refuse h_x0_shelf h_x0_rowSize h_x0_tapeSize h_x0_lines h_x0_line h_x0_changes h_x0_coins h_x0_goods h_x0_good h_x0_works h_x0_work h_x0_years h_x0_from h_x0_far h_x0_way h_x0_steps h_x0_queue (by decide)) ?_
                rintro ⟨v27, g28⟩ hr22
                have hx_v27 : (v27 = (-2)) := hr22
                dsimp only [u2]
                exact Sf.ok (show (0 ≤ x0_lines ∧ x0_lines ≤ 20) ∧ (LnM x0_line) from ⟨h_x0_lines, h_x0_line⟩)
              · refine Sf.ite (fun hc23 => ?_) (fun hc23 => ?_)
                · refine Sf.bind (sX7_refuse h_x0_shelf h_x0_rowSize h_x0_tapeSize h_x0_lines h_x0_line h_x0_changes h_x0_coins h_x0_goods h_x0_good h_x0_works h_x0_work h_x0_years h_x0_from h_x0_far h_x0_way h_x0_steps h_x0_queue (by decide)) ?_
                  rintro ⟨v24, g25⟩ hr24
                  have hx_v24 : (v24 = (-6)) := hr24
                  dsimp only [u2]
                  exact Sf.ok (show (0 ≤ x0_lines ∧ x0_lines ≤ 20) ∧ (LnM x0_line) from ⟨h_x0_lines, h_x0_line⟩)
                · refine Sf.bind (sX7_newLine h_x0_shelf h_x0_rowSize h_x0_tapeSize h_x0_lines h_x0_line h_x0_changes h_x0_coins h_x0_goods h_x0_good h_x0_works h_x0_work h_x0_years h_x0_from h_x0_far h_x0_way h_x0_steps h_x0_queue (by grind) (by grind) (by grind)) ?_
                  intro g14 hr25
                  have h_g14 : (LnM g14) := hr25
                  refine Sf.ckb 20 rfl (by grind) (fun q16 e_q16 h_q16 => ?_)
                  refine Sf.wrl 2 rfl rfl (fun f17 e_f17 => ?_)
                  have h_f17 : RI lnB f17 := by rw [e_f17]; exact RI.up (h_g14 q16) (show 0 ≤ p3 ∧ p3 ≤ 7 from (by grind))
                  clear e_f17
                  refine Sf.ckb 20 rfl (by grind) (fun q18 e_q18 h_q18 => ?_)
                  refine Sf.wrl 3 rfl rfl (fun f19 e_f19 => ?_)
                  have h_f19 : RI lnB f19 := by rw [e_f19]; exact RI.up ((GI.up h_g14 h_f17) q18) (show 0 ≤ p4 ∧ p4 ≤ 60 from (by grind))
                  clear e_f19
                  refine Sf.ckb 20 rfl (by grind) (fun q20 e_q20 h_q20 => ?_)
                  refine Sf.wrl 4 rfl rfl (fun f21 e_f21 => ?_)
                  have h_f21 : RI lnB f21 := by rw [e_f21]; exact RI.up ((GI.up (GI.up h_g14 h_f17) h_f19) q20) (show 0 ≤ p5 ∧ p5 ≤ 999 from (by grind))
                  clear e_f21
                  refine Sf.ckb 20 rfl (by grind) (fun q22 e_q22 h_q22 => ?_)
                  refine Sf.wrl 5 rfl rfl (fun f23 e_f23 => ?_)
                  have h_f23 : RI lnB f23 := by rw [e_f23]; exact RI.up ((GI.up (GI.up (GI.up h_g14 h_f17) h_f19) h_f21) q22) (show 0 ≤ p6 ∧ p6 ≤ 5 from (by grind))
                  clear e_f23
                  exact Sf.ok (show (0 ≤ (x0_lines + 1) ∧ (x0_lines + 1) ≤ 20) ∧ (LnM (va_up (va_up (va_up (va_up g14 q16 f17) q18 f19) q20 f21) q22 f23)) from ⟨(by grind), (GI.up (GI.up (GI.up (GI.up h_g14 h_f17) h_f19) h_f21) h_f23)⟩)
set_option maxHeartbeats 1000000 in
theorem sX7_goods {x0_shelf x0_rowSort x0_rowSize : (Nat → Int32)} {x0_rows : (Nat → Nat → Int64)} {x0_moved : (Nat → Int64)} {x0_shown x0_tape : (Nat → Int32)} {x0_tapeSize : Int32} {x0_refused : (Nat → Int32)} {x0_lines : Int32} {x0_line : (Nat → Nat → Int32)} {x0_changes x0_coins : (Nat → Int32)} {x0_goods : Int32} {x0_good : (Nat → Nat → Int32)} {x0_works : Int32} {x0_work : (Nat → Nat → Int32)} {x0_years x0_gone x0_spent x0_at x0_token x0_from : Int32} {x0_figures : Int64} {x0_fault : Int32} {x0_numbers : (Nat → Int32)} {x0_statements : Int32} {x0_left x0_far : (Nat → Int32)} {x0_tons : Int32} {x0_way : (Nat → Int32)} {x0_steps : Int32} {x0_met : Int64} {x0_queue x0_totals : (Nat → Int32)} {p1 p2 p3 : Int32}  (h_x0_shelf : (AI 0 2 x0_shelf)) (h_x0_rowSize : (AI 0 40 x0_rowSize)) (h_x0_tapeSize : (0 ≤ x0_tapeSize ∧ x0_tapeSize ≤ 250)) (h_x0_lines : (0 ≤ x0_lines ∧ x0_lines ≤ 20)) (h_x0_line : (LnM x0_line)) (h_x0_changes : (AI 0 99 x0_changes)) (h_x0_coins : (AI 0 9 x0_coins)) (h_x0_goods : (0 ≤ x0_goods ∧ x0_goods ≤ 8)) (h_x0_good : (GdM x0_good)) (h_x0_works : (0 ≤ x0_works ∧ x0_works ≤ 7)) (h_x0_work : (WkM x0_work)) (h_x0_years : (1 ≤ x0_years ∧ x0_years ≤ 30)) (h_x0_from : (0 ≤ x0_from ∧ x0_from ≤ 250)) (h_x0_far : (AI 0 1000000000 x0_far)) (h_x0_way : (AI 0 22 x0_way)) (h_x0_steps : (0 ≤ x0_steps ∧ x0_steps ≤ 37)) (h_x0_queue : (AI 0 35 x0_queue)) : Sf (fX7_goods (x0_shelf, x0_rowSort, x0_rowSize, x0_rows, x0_moved, x0_shown, x0_tape, x0_tapeSize, x0_refused, x0_lines, x0_line, x0_changes, x0_coins, x0_goods, x0_good, x0_works, x0_work, x0_years, x0_gone, x0_spent, x0_at, x0_token, x0_from, x0_figures, x0_fault, x0_numbers, x0_statements, x0_left, x0_far, x0_tons, x0_way, x0_steps, x0_met, x0_queue, x0_totals) p1 p2 p3) (fun r => (0 ≤ r.2.2.1 ∧ r.2.2.1 ≤ 8) ∧ (GdM r.2.2.2)) := by
  unfold fX7_goods
  dsimp only [u35]
  refine Sf.bind (sX7_isPlace ) ?_
  intro v1 hr1
  have hx_v1 : ((v1 = 1 ∧ 0 ≤ p1 ∧ p1 ≤ 11) ∨ (v1 = 0 ∧ (p1 < 0 ∨ 11 < p1))) := hr1
  refine Sf.ite (fun hc2 => ?_) (fun hc2 => ?_)
  · refine Sf.bind (sX7_refuse h_x0_shelf h_x0_rowSize h_x0_tapeSize h_x0_lines h_x0_line h_x0_changes h_x0_coins h_x0_goods h_x0_good h_x0_works h_x0_work h_x0_years h_x0_from h_x0_far h_x0_way h_x0_steps h_x0_queue (by decide)) ?_
    rintro ⟨v3, g4⟩ hr3
    have hx_v3 : (v3 = (-2)) := hr3
    dsimp only [u2]
    exact Sf.ok (show (0 ≤ x0_goods ∧ x0_goods ≤ 8) ∧ (GdM x0_good) from ⟨h_x0_goods, h_x0_good⟩)
  · refine Sf.bind (sX7_isPlace ) ?_
    intro v6 hr4
    have hx_v6 : ((v6 = 1 ∧ 0 ≤ p2 ∧ p2 ≤ 11) ∨ (v6 = 0 ∧ (p2 < 0 ∨ 11 < p2))) := hr4
    refine Sf.ite (fun hc5 => ?_) (fun hc5 => ?_)
    · refine Sf.bind (sX7_refuse h_x0_shelf h_x0_rowSize h_x0_tapeSize h_x0_lines h_x0_line h_x0_changes h_x0_coins h_x0_goods h_x0_good h_x0_works h_x0_work h_x0_years h_x0_from h_x0_far h_x0_way h_x0_steps h_x0_queue (by decide)) ?_
      rintro ⟨v8, g9⟩ hr6
      have hx_v8 : (v8 = (-2)) := hr6
      dsimp only [u2]
      exact Sf.ok (show (0 ≤ x0_goods ∧ x0_goods ≤ 8) ∧ (GdM x0_good) from ⟨h_x0_goods, h_x0_good⟩)
    · refine Sf.ite (fun hc7 => ?_) (fun hc7 => ?_)
      · refine Sf.bind (sX7_refuse h_x0_shelf h_x0_rowSize h_x0_tapeSize h_x0_lines h_x0_line h_x0_changes h_x0_coins h_x0_goods h_x0_good h_x0_works h_x0_work h_x0_years h_x0_from h_x0_far h_x0_way h_x0_steps h_x0_queue (by decide)) ?_
        rintro ⟨v11, g12⟩ hr8
        have hx_v11 : (v11 = (-2)) := hr8
        dsimp only [u2]
        exact Sf.ok (show (0 ≤ x0_goods ∧ x0_goods ≤ 8) ∧ (GdM x0_good) from ⟨h_x0_goods, h_x0_good⟩)
      · refine Sf.bind (s_inq p3 1 99 (by decide) (by decide)) ?_
        intro v14 hr_v14
        refine Sf.ite (fun hc9 => ?_) (fun hc9 => ?_)
        · refine Sf.bind (sX7_refuse h_x0_shelf h_x0_rowSize h_x0_tapeSize h_x0_lines h_x0_line h_x0_changes h_x0_coins h_x0_goods h_x0_good h_x0_works h_x0_work h_x0_years h_x0_from h_x0_far h_x0_way h_x0_steps h_x0_queue (by decide)) ?_
          rintro ⟨v25, g26⟩ hr10
          have hx_v25 : (v25 = (-2)) := hr10
          dsimp only [u2]
          exact Sf.ok (show (0 ≤ x0_goods ∧ x0_goods ≤ 8) ∧ (GdM x0_good) from ⟨h_x0_goods, h_x0_good⟩)
        · refine Sf.ite (fun hc11 => ?_) (fun hc11 => ?_)
          · refine Sf.bind (sX7_refuse h_x0_shelf h_x0_rowSize h_x0_tapeSize h_x0_lines h_x0_line h_x0_changes h_x0_coins h_x0_goods h_x0_good h_x0_works h_x0_work h_x0_years h_x0_from h_x0_far h_x0_way h_x0_steps h_x0_queue (by decide)) ?_
            rintro ⟨v22, g23⟩ hr12
            have hx_v22 : (v22 = (-6)) := hr12
            dsimp only [u2]
            exact Sf.ok (show (0 ≤ x0_goods ∧ x0_goods ≤ 8) ∧ (GdM x0_good) from ⟨h_x0_goods, h_x0_good⟩)
          · refine Sf.ckb 8 rfl (by grind) (fun q16 e_q16 h_q16 => ?_)
            refine Sf.wrl 0 rfl rfl (fun f17 e_f17 => ?_)
            have h_f17 : RI gdB f17 := by rw [e_f17]; exact RI.up (h_x0_good q16) (show 0 ≤ p1 ∧ p1 ≤ 11 from (by grind))
            clear e_f17
            refine Sf.ckb 8 rfl (by grind) (fun q18 e_q18 h_q18 => ?_)
            refine Sf.wrl 1 rfl rfl (fun f19 e_f19 => ?_)
            have h_f19 : RI gdB f19 := by rw [e_f19]; exact RI.up ((GI.up h_x0_good h_f17) q18) (show 0 ≤ p2 ∧ p2 ≤ 11 from (by grind))
            clear e_f19
            refine Sf.ckb 8 rfl (by grind) (fun q20 e_q20 h_q20 => ?_)
            refine Sf.wrl 2 rfl rfl (fun f21 e_f21 => ?_)
            have h_f21 : RI gdB f21 := by rw [e_f21]; exact RI.up ((GI.up (GI.up h_x0_good h_f17) h_f19) q20) (show 0 ≤ p3 ∧ p3 ≤ 99 from (by grind))
            clear e_f21
            exact Sf.ok (show (0 ≤ (x0_goods + 1) ∧ (x0_goods + 1) ≤ 8) ∧ (GdM (va_up (va_up (va_up x0_good q16 f17) q18 f19) q20 f21)) from ⟨(by grind), (GI.up (GI.up (GI.up h_x0_good h_f17) h_f19) h_f21)⟩)
set_option maxHeartbeats 1000000 in
theorem sX7_mayBeFirst {x0_shelf x0_rowSort x0_rowSize : (Nat → Int32)} {x0_rows : (Nat → Nat → Int64)} {x0_moved : (Nat → Int64)} {x0_shown x0_tape : (Nat → Int32)} {x0_tapeSize : Int32} {x0_refused : (Nat → Int32)} {x0_lines : Int32} {x0_line : (Nat → Nat → Int32)} {x0_changes x0_coins : (Nat → Int32)} {x0_goods : Int32} {x0_good : (Nat → Nat → Int32)} {x0_works : Int32} {x0_work : (Nat → Nat → Int32)} {x0_years x0_gone x0_spent x0_at x0_token x0_from : Int32} {x0_figures : Int64} {x0_fault : Int32} {x0_numbers : (Nat → Int32)} {x0_statements : Int32} {x0_left x0_far : (Nat → Int32)} {x0_tons : Int32} {x0_way : (Nat → Int32)} {x0_steps : Int32} {x0_met : Int64} {x0_queue x0_totals : (Nat → Int32)} {p1 p2 : Int32}  (h_x0_shelf : (AI 0 2 x0_shelf)) (h_x0_rowSize : (AI 0 40 x0_rowSize)) (h_x0_tapeSize : (0 ≤ x0_tapeSize ∧ x0_tapeSize ≤ 250)) (h_x0_lines : (0 ≤ x0_lines ∧ x0_lines ≤ 20)) (h_x0_line : (LnM x0_line)) (h_x0_changes : (AI 0 99 x0_changes)) (h_x0_coins : (AI 0 9 x0_coins)) (h_x0_goods : (0 ≤ x0_goods ∧ x0_goods ≤ 8)) (h_x0_good : (GdM x0_good)) (h_x0_works : (0 ≤ x0_works ∧ x0_works ≤ 7)) (h_x0_work : (WkM x0_work)) (h_x0_years : (1 ≤ x0_years ∧ x0_years ≤ 30)) (h_x0_from : (0 ≤ x0_from ∧ x0_from ≤ 250)) (h_x0_far : (AI 0 1000000000 x0_far)) (h_x0_way : (AI 0 22 x0_way)) (h_x0_steps : (0 ≤ x0_steps ∧ x0_steps ≤ 37)) (h_x0_queue : (AI 0 35 x0_queue)) : Sf (fX7_mayBeFirst (x0_shelf, x0_rowSort, x0_rowSize, x0_rows, x0_moved, x0_shown, x0_tape, x0_tapeSize, x0_refused, x0_lines, x0_line, x0_changes, x0_coins, x0_goods, x0_good, x0_works, x0_work, x0_years, x0_gone, x0_spent, x0_at, x0_token, x0_from, x0_figures, x0_fault, x0_numbers, x0_statements, x0_left, x0_far, x0_tons, x0_way, x0_steps, x0_met, x0_queue, x0_totals) p1 p2) (fun r => (0 ≤ r ∧ r ≤ 1) ∧ (r = 0 ∨ (0 ≤ p2 ∧ p2 ≤ 19 ∧ (p1 = 1 ∨ p1 = 2 ∨ p2 ≤ 11)))) := by
  unfold fX7_mayBeFirst
  dsimp only [u35]
  refine Sf.ite (fun hc1 => ?_) (fun hc1 => ?_)
  · refine Sf.bind (sX7_isLine h_x0_shelf h_x0_rowSize h_x0_tapeSize h_x0_lines h_x0_line h_x0_changes h_x0_coins h_x0_goods h_x0_good h_x0_works h_x0_work h_x0_years h_x0_from h_x0_far h_x0_way h_x0_steps h_x0_queue) ?_
    intro v1 hr2
    have hx_v1 : ((v1 = 1 ∧ 0 ≤ p2 ∧ p2 < x0_lines) ∨ (v1 = 0 ∧ ¬ (0 ≤ p2 ∧ p2 < x0_lines))) := hr2
    refine Sf.zbb (by grind) (fun v3 e_v3 => ?_)
    exact Sf.ok (show (0 ≤ v3 ∧ v3 ≤ 1) ∧ (v3 = 0 ∨ (0 ≤ p2 ∧ p2 ≤ 19 ∧ (p1 = 1 ∨ p1 = 2 ∨ p2 ≤ 11))) from ⟨(by grind), (by grind)⟩)
  · refine Sf.ite (fun hc3 => ?_) (fun hc3 => ?_)
    · refine Sf.bind (sX7_isLine h_x0_shelf h_x0_rowSize h_x0_tapeSize h_x0_lines h_x0_line h_x0_changes h_x0_coins h_x0_goods h_x0_good h_x0_works h_x0_work h_x0_years h_x0_from h_x0_far h_x0_way h_x0_steps h_x0_queue) ?_
      intro v7 hr4
      have hx_v7 : ((v7 = 1 ∧ 0 ≤ p2 ∧ p2 < x0_lines) ∨ (v7 = 0 ∧ ¬ (0 ≤ p2 ∧ p2 < x0_lines))) := hr4
      refine Sf.zbb (by grind) (fun v9 e_v9 => ?_)
      exact Sf.ok (show (0 ≤ v9 ∧ v9 ≤ 1) ∧ (v9 = 0 ∨ (0 ≤ p2 ∧ p2 ≤ 19 ∧ (p1 = 1 ∨ p1 = 2 ∨ p2 ≤ 11))) from ⟨(by grind), (by grind)⟩)
    · refine Sf.bind (sX7_isPlace ) ?_
      intro v4 hr5
      have hx_v4 : ((v4 = 1 ∧ 0 ≤ p2 ∧ p2 ≤ 11) ∨ (v4 = 0 ∧ (p2 < 0 ∨ 11 < p2))) := hr5
      refine Sf.zbb (by grind) (fun v6 e_v6 => ?_)
      exact Sf.ok (show (0 ≤ v6 ∧ v6 ≤ 1) ∧ (v6 = 0 ∨ (0 ≤ p2 ∧ p2 ≤ 19 ∧ (p1 = 1 ∨ p1 = 2 ∨ p2 ≤ 11))) from ⟨(by grind), (by grind)⟩)
set_option maxHeartbeats 1000000 in
theorem sX7_mayBeSecond {p1 p2 p3 : Int32}   : Sf (fX7_mayBeSecond p1 p2 p3) (fun r => (0 ≤ r ∧ r ≤ 1) ∧ (r = 0 ∨ (0 ≤ p3 ∧ p3 ≤ 99 ∧ (p1 = 1 ∨ p1 = 2 → p3 ≤ 2) ∧ (p1 = 1 ∨ p1 = 2 ∨ p1 = 3 ∨ p3 ≤ 11)))) := by
  unfold fX7_mayBeSecond
  refine Sf.ite (fun hc1 => ?_) (fun hc1 => ?_)
  · unfold fX7_mayBeSecond_j10
    refine Sf.bind (s_inq p3 0 2 (by decide) (by decide)) ?_
    intro v1 hr_v1
    refine Sf.zbb (by grind) (fun v3 e_v3 => ?_)
    exact Sf.ok (show (0 ≤ v3 ∧ v3 ≤ 1) ∧ (v3 = 0 ∨ (0 ≤ p3 ∧ p3 ≤ 99 ∧ (p1 = 1 ∨ p1 = 2 → p3 ≤ 2) ∧ (p1 = 1 ∨ p1 = 2 ∨ p1 = 3 ∨ p3 ≤ 11))) from ⟨(by grind), (by grind)⟩)
  · refine Sf.ite (fun hc2 => ?_) (fun hc2 => ?_)
    · unfold fX7_mayBeSecond_j10
      refine Sf.bind (s_inq p3 0 2 (by decide) (by decide)) ?_
      intro v1 hr_v1
      refine Sf.zbb (by grind) (fun v3 e_v3 => ?_)
      exact Sf.ok (show (0 ≤ v3 ∧ v3 ≤ 1) ∧ (v3 = 0 ∨ (0 ≤ p3 ∧ p3 ≤ 99 ∧ (p1 = 1 ∨ p1 = 2 → p3 ≤ 2) ∧ (p1 = 1 ∨ p1 = 2 ∨ p1 = 3 ∨ p3 ≤ 11))) from ⟨(by grind), (by grind)⟩)
    · refine Sf.ite (fun hc3 => ?_) (fun hc3 => ?_)
      · refine Sf.bind (s_inq p3 0 99 (by decide) (by decide)) ?_
        intro v6 hr_v6
        refine Sf.zbb (by grind) (fun v8 e_v8 => ?_)
        exact Sf.ok (show (0 ≤ v8 ∧ v8 ≤ 1) ∧ (v8 = 0 ∨ (0 ≤ p3 ∧ p3 ≤ 99 ∧ (p1 = 1 ∨ p1 = 2 → p3 ≤ 2) ∧ (p1 = 1 ∨ p1 = 2 ∨ p1 = 3 ∨ p3 ≤ 11))) from ⟨(by grind), (by grind)⟩)
      · refine Sf.bind (sX7_isPlace ) ?_
        intro v4 hr4
        have hx_v4 : ((v4 = 1 ∧ 0 ≤ p3 ∧ p3 ≤ 11) ∨ (v4 = 0 ∧ (p3 < 0 ∨ 11 < p3))) := hr4
        refine Sf.ite (fun hc5 => ?_) (fun hc5 => ?_)
        · exact Sf.ok (show (0 ≤ 0 ∧ 0 ≤ 1) ∧ (0 = 0 ∨ (0 ≤ p3 ∧ p3 ≤ 99 ∧ (p1 = 1 ∨ p1 = 2 → p3 ≤ 2) ∧ (p1 = 1 ∨ p1 = 2 ∨ p1 = 3 ∨ p3 ≤ 11))) from ⟨(by decide), (by grind)⟩)
        · refine Sf.ite (fun hc6 => ?_) (fun hc6 => ?_)
          · exact Sf.ok (show (0 ≤ 0 ∧ 0 ≤ 1) ∧ (0 = 0 ∨ (0 ≤ p3 ∧ p3 ≤ 99 ∧ (p1 = 1 ∨ p1 = 2 → p3 ≤ 2) ∧ (p1 = 1 ∨ p1 = 2 ∨ p1 = 3 ∨ p3 ≤ 11))) from ⟨(by decide), (by grind)⟩)
          · exact Sf.ok (show (0 ≤ 1 ∧ 1 ≤ 1) ∧ (1 = 0 ∨ (0 ≤ p3 ∧ p3 ≤ 99 ∧ (p1 = 1 ∨ p1 = 2 → p3 ≤ 2) ∧ (p1 = 1 ∨ p1 = 2 ∨ p1 = 3 ∨ p3 ≤ 11))) from ⟨(by decide), (by grind)⟩)
set_option maxHeartbeats 1000000 in
theorem sX7_change {x0_shelf x0_rowSort x0_rowSize : (Nat → Int32)} {x0_rows : (Nat → Nat → Int64)} {x0_moved : (Nat → Int64)} {x0_shown x0_tape : (Nat → Int32)} {x0_tapeSize : Int32} {x0_refused : (Nat → Int32)} {x0_lines : Int32} {x0_line : (Nat → Nat → Int32)} {x0_changes x0_coins : (Nat → Int32)} {x0_goods : Int32} {x0_good : (Nat → Nat → Int32)} {x0_works : Int32} {x0_work : (Nat → Nat → Int32)} {x0_years x0_gone x0_spent x0_at x0_token x0_from : Int32} {x0_figures : Int64} {x0_fault : Int32} {x0_numbers : (Nat → Int32)} {x0_statements : Int32} {x0_left x0_far : (Nat → Int32)} {x0_tons : Int32} {x0_way : (Nat → Int32)} {x0_steps : Int32} {x0_met : Int64} {x0_queue x0_totals : (Nat → Int32)} {p1 p2 : Int32}  (h_x0_shelf : (AI 0 2 x0_shelf)) (h_x0_rowSize : (AI 0 40 x0_rowSize)) (h_x0_tapeSize : (0 ≤ x0_tapeSize ∧ x0_tapeSize ≤ 250)) (h_x0_lines : (0 ≤ x0_lines ∧ x0_lines ≤ 20)) (h_x0_line : (LnM x0_line)) (h_x0_changes : (AI 0 99 x0_changes)) (h_x0_coins : (AI 0 9 x0_coins)) (h_x0_goods : (0 ≤ x0_goods ∧ x0_goods ≤ 8)) (h_x0_good : (GdM x0_good)) (h_x0_works : (0 ≤ x0_works ∧ x0_works ≤ 7)) (h_x0_work : (WkM x0_work)) (h_x0_years : (1 ≤ x0_years ∧ x0_years ≤ 30)) (h_x0_from : (0 ≤ x0_from ∧ x0_from ≤ 250)) (h_x0_far : (AI 0 1000000000 x0_far)) (h_x0_way : (AI 0 22 x0_way)) (h_x0_steps : (0 ≤ x0_steps ∧ x0_steps ≤ 37)) (h_x0_queue : (AI 0 35 x0_queue)) : Sf (fX7_change (x0_shelf, x0_rowSort, x0_rowSize, x0_rows, x0_moved, x0_shown, x0_tape, x0_tapeSize, x0_refused, x0_lines, x0_line, x0_changes, x0_coins, x0_goods, x0_good, x0_works, x0_work, x0_years, x0_gone, x0_spent, x0_at, x0_token, x0_from, x0_figures, x0_fault, x0_numbers, x0_statements, x0_left, x0_far, x0_tons, x0_way, x0_steps, x0_met, x0_queue, x0_totals) p1 p2) (fun r => (AI 0 99 r.2.2)) := by
  unfold fX7_change
  dsimp only [u35]
  refine Sf.bind (sX7_isPlace ) ?_
  intro v1 hr1
  have hx_v1 : ((v1 = 1 ∧ 0 ≤ p1 ∧ p1 ≤ 11) ∨ (v1 = 0 ∧ (p1 < 0 ∨ 11 < p1))) := hr1
  refine Sf.ite (fun hc2 => ?_) (fun hc2 => ?_)
  · refine Sf.bind (sX7_refuse h_x0_shelf h_x0_rowSize h_x0_tapeSize h_x0_lines h_x0_line h_x0_changes h_x0_coins h_x0_goods h_x0_good h_x0_works h_x0_work h_x0_years h_x0_from h_x0_far h_x0_way h_x0_steps h_x0_queue (by decide)) ?_
    rintro ⟨v3, g4⟩ hr3
    have hx_v3 : (v3 = (-2)) := hr3
    dsimp only [u2]
    exact Sf.ok (show (AI 0 99 x0_changes) from h_x0_changes)
  · refine Sf.bind (s_inq p2 0 99 (by decide) (by decide)) ?_
    intro v6 hr_v6
    refine Sf.ite (fun hc4 => ?_) (fun hc4 => ?_)
    · refine Sf.bind (sX7_refuse h_x0_shelf h_x0_rowSize h_x0_tapeSize h_x0_lines h_x0_line h_x0_changes h_x0_coins h_x0_goods h_x0_good h_x0_works h_x0_work h_x0_years h_x0_from h_x0_far h_x0_way h_x0_steps h_x0_queue (by decide)) ?_
      rintro ⟨v10, g11⟩ hr5
      have hx_v10 : (v10 = (-2)) := hr5
      dsimp only [u2]
      exact Sf.ok (show (AI 0 99 x0_changes) from h_x0_changes)
    · refine Sf.rdI 12 rfl h_x0_changes (by grind) (fun v8 h_v8 e_v8 => ?_)
      clear e_v8
      refine Sf.wrI 12 rfl h_x0_changes (by grind) (by grind) (fun f9 h_f9 e_f9 => ?_)
      clear e_f9
      exact Sf.ok (show (AI 0 99 f9) from h_f9)
set_option maxHeartbeats 1000000 in
theorem sX7_coin {x0_shelf x0_rowSort x0_rowSize : (Nat → Int32)} {x0_rows : (Nat → Nat → Int64)} {x0_moved : (Nat → Int64)} {x0_shown x0_tape : (Nat → Int32)} {x0_tapeSize : Int32} {x0_refused : (Nat → Int32)} {x0_lines : Int32} {x0_line : (Nat → Nat → Int32)} {x0_changes x0_coins : (Nat → Int32)} {x0_goods : Int32} {x0_good : (Nat → Nat → Int32)} {x0_works : Int32} {x0_work : (Nat → Nat → Int32)} {x0_years x0_gone x0_spent x0_at x0_token x0_from : Int32} {x0_figures : Int64} {x0_fault : Int32} {x0_numbers : (Nat → Int32)} {x0_statements : Int32} {x0_left x0_far : (Nat → Int32)} {x0_tons : Int32} {x0_way : (Nat → Int32)} {x0_steps : Int32} {x0_met : Int64} {x0_queue x0_totals : (Nat → Int32)} {p1 p2 : Int32}  (h_x0_shelf : (AI 0 2 x0_shelf)) (h_x0_rowSize : (AI 0 40 x0_rowSize)) (h_x0_tapeSize : (0 ≤ x0_tapeSize ∧ x0_tapeSize ≤ 250)) (h_x0_lines : (0 ≤ x0_lines ∧ x0_lines ≤ 20)) (h_x0_line : (LnM x0_line)) (h_x0_changes : (AI 0 99 x0_changes)) (h_x0_coins : (AI 0 9 x0_coins)) (h_x0_goods : (0 ≤ x0_goods ∧ x0_goods ≤ 8)) (h_x0_good : (GdM x0_good)) (h_x0_works : (0 ≤ x0_works ∧ x0_works ≤ 7)) (h_x0_work : (WkM x0_work)) (h_x0_years : (1 ≤ x0_years ∧ x0_years ≤ 30)) (h_x0_from : (0 ≤ x0_from ∧ x0_from ≤ 250)) (h_x0_far : (AI 0 1000000000 x0_far)) (h_x0_way : (AI 0 22 x0_way)) (h_x0_steps : (0 ≤ x0_steps ∧ x0_steps ≤ 37)) (h_x0_queue : (AI 0 35 x0_queue)) : Sf (fX7_coin (x0_shelf, x0_rowSort, x0_rowSize, x0_rows, x0_moved, x0_shown, x0_tape, x0_tapeSize, x0_refused, x0_lines, x0_line, x0_changes, x0_coins, x0_goods, x0_good, x0_works, x0_work, x0_years, x0_gone, x0_spent, x0_at, x0_token, x0_from, x0_figures, x0_fault, x0_numbers, x0_statements, x0_left, x0_far, x0_tons, x0_way, x0_steps, x0_met, x0_queue, x0_totals) p1 p2) (fun r => (AI 0 9 r.2.2)) := by
  unfold fX7_coin
  dsimp only [u35]
  refine Sf.bind (s_inq p1 0 2 (by decide) (by decide)) ?_
  intro v1 hr_v1
  refine Sf.ite (fun hc1 => ?_) (fun hc1 => ?_)
  · refine Sf.bind (sX7_refuse h_x0_shelf h_x0_rowSize h_x0_tapeSize h_x0_lines h_x0_line h_x0_changes h_x0_coins h_x0_goods h_x0_good h_x0_works h_x0_work h_x0_years h_x0_from h_x0_far h_x0_way h_x0_steps h_x0_queue (by decide)) ?_
    rintro ⟨v3, g4⟩ hr2
    have hx_v3 : (v3 = (-2)) := hr2
    dsimp only [u2]
    exact Sf.ok (show (AI 0 9 x0_coins) from h_x0_coins)
  · refine Sf.bind (s_inq p2 0 9 (by decide) (by decide)) ?_
    intro v6 hr_v6
    refine Sf.ite (fun hc3 => ?_) (fun hc3 => ?_)
    · refine Sf.bind (sX7_refuse h_x0_shelf h_x0_rowSize h_x0_tapeSize h_x0_lines h_x0_line h_x0_changes h_x0_coins h_x0_goods h_x0_good h_x0_works h_x0_work h_x0_years h_x0_from h_x0_far h_x0_way h_x0_steps h_x0_queue (by decide)) ?_
      rintro ⟨v10, g11⟩ hr4
      have hx_v10 : (v10 = (-2)) := hr4
      dsimp only [u2]
      exact Sf.ok (show (AI 0 9 x0_coins) from h_x0_coins)
    · refine Sf.rdI 3 rfl h_x0_coins (by grind) (fun v8 h_v8 e_v8 => ?_)
      clear e_v8
      refine Sf.wrI 3 rfl h_x0_coins (by grind) (by grind) (fun f9 h_f9 e_f9 => ?_)
      clear e_f9
      exact Sf.ok (show (AI 0 9 f9) from h_f9)
set_option maxHeartbeats 1000000 in
theorem sX7_years {x0_shelf x0_rowSort x0_rowSize : (Nat → Int32)} {x0_rows : (Nat → Nat → Int64)} {x0_moved : (Nat → Int64)} {x0_shown x0_tape : (Nat → Int32)} {x0_tapeSize : Int32} {x0_refused : (Nat → Int32)} {x0_lines : Int32} {x0_line : (Nat → Nat → Int32)} {x0_changes x0_coins : (Nat → Int32)} {x0_goods : Int32} {x0_good : (Nat → Nat → Int32)} {x0_works : Int32} {x0_work : (Nat → Nat → Int32)} {x0_years x0_gone x0_spent x0_at x0_token x0_from : Int32} {x0_figures : Int64} {x0_fault : Int32} {x0_numbers : (Nat → Int32)} {x0_statements : Int32} {x0_left x0_far : (Nat → Int32)} {x0_tons : Int32} {x0_way : (Nat → Int32)} {x0_steps : Int32} {x0_met : Int64} {x0_queue x0_totals : (Nat → Int32)} {p1 : Int32}  (h_x0_shelf : (AI 0 2 x0_shelf)) (h_x0_rowSize : (AI 0 40 x0_rowSize)) (h_x0_tapeSize : (0 ≤ x0_tapeSize ∧ x0_tapeSize ≤ 250)) (h_x0_lines : (0 ≤ x0_lines ∧ x0_lines ≤ 20)) (h_x0_line : (LnM x0_line)) (h_x0_changes : (AI 0 99 x0_changes)) (h_x0_coins : (AI 0 9 x0_coins)) (h_x0_goods : (0 ≤ x0_goods ∧ x0_goods ≤ 8)) (h_x0_good : (GdM x0_good)) (h_x0_works : (0 ≤ x0_works ∧ x0_works ≤ 7)) (h_x0_work : (WkM x0_work)) (h_x0_years : (1 ≤ x0_years ∧ x0_years ≤ 30)) (h_x0_from : (0 ≤ x0_from ∧ x0_from ≤ 250)) (h_x0_far : (AI 0 1000000000 x0_far)) (h_x0_way : (AI 0 22 x0_way)) (h_x0_steps : (0 ≤ x0_steps ∧ x0_steps ≤ 37)) (h_x0_queue : (AI 0 35 x0_queue)) : Sf (fX7_years (x0_shelf, x0_rowSort, x0_rowSize, x0_rows, x0_moved, x0_shown, x0_tape, x0_tapeSize, x0_refused, x0_lines, x0_line, x0_changes, x0_coins, x0_goods, x0_good, x0_works, x0_work, x0_years, x0_gone, x0_spent, x0_at, x0_token, x0_from, x0_figures, x0_fault, x0_numbers, x0_statements, x0_left, x0_far, x0_tons, x0_way, x0_steps, x0_met, x0_queue, x0_totals) p1) (fun r => (1 ≤ r.2.2 ∧ r.2.2 ≤ 30)) := by
  unfold fX7_years
  dsimp only [u35]
  refine Sf.bind (s_inq p1 1 30 (by decide) (by decide)) ?_
  intro v1 hr_v1
  refine Sf.ite (fun hc1 => ?_) (fun hc1 => ?_)
  · refine Sf.bind (sX7_refuse h_x0_shelf h_x0_rowSize h_x0_tapeSize h_x0_lines h_x0_line h_x0_changes h_x0_coins h_x0_goods h_x0_good h_x0_works h_x0_work h_x0_years h_x0_from h_x0_far h_x0_way h_x0_steps h_x0_queue (by decide)) ?_
    rintro ⟨v3, g4⟩ hr2
    have hx_v3 : (v3 = (-2)) := hr2
    dsimp only [u2]
    exact Sf.ok (show (1 ≤ x0_years ∧ x0_years ≤ 30) from h_x0_years)
  · exact Sf.ok (show (1 ≤ p1 ∧ p1 ≤ 30) from (by grind))
set_option maxHeartbeats 1000000 in
theorem sX7_washed {x0_shelf x0_rowSort x0_rowSize : (Nat → Int32)} {x0_rows : (Nat → Nat → Int64)} {x0_moved : (Nat → Int64)} {x0_shown x0_tape : (Nat → Int32)} {x0_tapeSize : Int32} {x0_refused : (Nat → Int32)} {x0_lines : Int32} {x0_line : (Nat → Nat → Int32)} {x0_changes x0_coins : (Nat → Int32)} {x0_goods : Int32} {x0_good : (Nat → Nat → Int32)} {x0_works : Int32} {x0_work : (Nat → Nat → Int32)} {x0_years x0_gone x0_spent x0_at x0_token x0_from : Int32} {x0_figures : Int64} {x0_fault : Int32} {x0_numbers : (Nat → Int32)} {x0_statements : Int32} {x0_left x0_far : (Nat → Int32)} {x0_tons : Int32} {x0_way : (Nat → Int32)} {x0_steps : Int32} {x0_met : Int64} {x0_queue x0_totals : (Nat → Int32)} {p1 p2 : Int32}  (h_x0_shelf : (AI 0 2 x0_shelf)) (h_x0_rowSize : (AI 0 40 x0_rowSize)) (h_x0_tapeSize : (0 ≤ x0_tapeSize ∧ x0_tapeSize ≤ 250)) (h_x0_lines : (0 ≤ x0_lines ∧ x0_lines ≤ 20)) (h_x0_line : (LnM x0_line)) (h_x0_changes : (AI 0 99 x0_changes)) (h_x0_coins : (AI 0 9 x0_coins)) (h_x0_goods : (0 ≤ x0_goods ∧ x0_goods ≤ 8)) (h_x0_good : (GdM x0_good)) (h_x0_works : (0 ≤ x0_works ∧ x0_works ≤ 7)) (h_x0_work : (WkM x0_work)) (h_x0_years : (1 ≤ x0_years ∧ x0_years ≤ 30)) (h_x0_from : (0 ≤ x0_from ∧ x0_from ≤ 250)) (h_x0_far : (AI 0 1000000000 x0_far)) (h_x0_way : (AI 0 22 x0_way)) (h_x0_steps : (0 ≤ x0_steps ∧ x0_steps ≤ 37)) (h_x0_queue : (AI 0 35 x0_queue)) : Sf (fX7_washed (x0_shelf, x0_rowSort, x0_rowSize, x0_rows, x0_moved, x0_shown, x0_tape, x0_tapeSize, x0_refused, x0_lines, x0_line, x0_changes, x0_coins, x0_goods, x0_good, x0_works, x0_work, x0_years, x0_gone, x0_spent, x0_at, x0_token, x0_from, x0_figures, x0_fault, x0_numbers, x0_statements, x0_left, x0_far, x0_tons, x0_way, x0_steps, x0_met, x0_queue, x0_totals) p1 p2) (fun r => (LnM r.2.2)) := by
  unfold fX7_washed
  dsimp only [u35]
  refine Sf.bind (sX7_isLine h_x0_shelf h_x0_rowSize h_x0_tapeSize h_x0_lines h_x0_line h_x0_changes h_x0_coins h_x0_goods h_x0_good h_x0_works h_x0_work h_x0_years h_x0_from h_x0_far h_x0_way h_x0_steps h_x0_queue) ?_
  intro v1 hr1
  have hx_v1 : ((v1 = 1 ∧ 0 ≤ p1 ∧ p1 < x0_lines) ∨ (v1 = 0 ∧ ¬ (0 ≤ p1 ∧ p1 < x0_lines))) := hr1
  refine Sf.ite (fun hc2 => ?_) (fun hc2 => ?_)
  · refine Sf.bind (sX7_refuse h_x0_shelf h_x0_rowSize h_x0_tapeSize h_x0_lines h_x0_line h_x0_changes h_x0_coins h_x0_goods h_x0_good h_x0_works h_x0_work h_x0_years h_x0_from h_x0_far h_x0_way h_x0_steps h_x0_queue (by decide)) ?_
    rintro ⟨v10, g11⟩ hr3
    have hx_v10 : (v10 = (-2)) := hr3
    dsimp only [u2]
    exact Sf.ok (show (LnM x0_line) from h_x0_line)
  · refine Sf.ckb 20 rfl (by grind) (fun q3 e_q3 h_q3 => ?_)
    refine Sf.rdl 6 rfl rfl (fun v4 e_v4 => ?_)
    have h_v4 : 0 ≤ v4 ∧ v4 ≤ 1 := by rw [e_v4]; exact (h_x0_line q3) 6
    clear e_v4
    refine Sf.ckb 20 rfl (by grind) (fun q5 e_q5 h_q5 => ?_)
    refine Sf.ite (fun hc4 => ?_) (fun hc4 => ?_)
    · unfold fX7_washed_j42
      refine Sf.wrl 6 rfl rfl (fun f7 e_f7 => ?_)
      have h_f7 : RI lnB f7 := by rw [e_f7]; exact RI.up (h_x0_line q5) (show 0 ≤ 0 ∧ 0 ≤ 1 from (by decide))
      clear e_f7
      refine Sf.ckb 20 rfl (by grind) (fun q8 e_q8 h_q8 => ?_)
      refine Sf.rdl 6 rfl rfl (fun v9 e_v9 => ?_)
      have h_v9 : 0 ≤ v9 ∧ v9 ≤ 1 := by rw [e_v9]; exact ((GI.up h_x0_line h_f7) q8) 6
      clear e_v9
      refine Sf.ite (fun hc5 => ?_) (fun hc5 => ?_)
      · exact Sf.ok (show (LnM (va_up x0_line q5 f7)) from (GI.up h_x0_line h_f7))
      · exact Sf.ok (show (LnM (va_up x0_line q5 f7)) from (GI.up h_x0_line h_f7))
    · unfold fX7_washed_j42
      refine Sf.wrl 6 rfl rfl (fun f7 e_f7 => ?_)
      have h_f7 : RI lnB f7 := by rw [e_f7]; exact RI.up (h_x0_line q5) (show 0 ≤ 1 ∧ 1 ≤ 1 from (by decide))
      clear e_f7
      refine Sf.ckb 20 rfl (by grind) (fun q8 e_q8 h_q8 => ?_)
      refine Sf.rdl 6 rfl rfl (fun v9 e_v9 => ?_)
      have h_v9 : 0 ≤ v9 ∧ v9 ≤ 1 := by rw [e_v9]; exact ((GI.up h_x0_line h_f7) q8) 6
      clear e_v9
      refine Sf.ite (fun hc6 => ?_) (fun hc6 => ?_)
      · exact Sf.ok (show (LnM (va_up x0_line q5 f7)) from (GI.up h_x0_line h_f7))
      · exact Sf.ok (show (LnM (va_up x0_line q5 f7)) from (GI.up h_x0_line h_f7))
set_option maxHeartbeats 1000000 in
theorem sX7_wipe {x0_shelf x0_rowSort x0_rowSize : (Nat → Int32)} {x0_rows : (Nat → Nat → Int64)} {x0_moved : (Nat → Int64)} {x0_shown x0_tape : (Nat → Int32)} {x0_tapeSize : Int32} {x0_refused : (Nat → Int32)} {x0_lines : Int32} {x0_line : (Nat → Nat → Int32)} {x0_changes x0_coins : (Nat → Int32)} {x0_goods : Int32} {x0_good : (Nat → Nat → Int32)} {x0_works : Int32} {x0_work : (Nat → Nat → Int32)} {x0_years x0_gone x0_spent x0_at x0_token x0_from : Int32} {x0_figures : Int64} {x0_fault : Int32} {x0_numbers : (Nat → Int32)} {x0_statements : Int32} {x0_left x0_far : (Nat → Int32)} {x0_tons : Int32} {x0_way : (Nat → Int32)} {x0_steps : Int32} {x0_met : Int64} {x0_queue x0_totals : (Nat → Int32)}  (h_x0_shelf : (AI 0 2 x0_shelf)) (h_x0_rowSize : (AI 0 40 x0_rowSize)) (h_x0_tapeSize : (0 ≤ x0_tapeSize ∧ x0_tapeSize ≤ 250)) (h_x0_lines : (0 ≤ x0_lines ∧ x0_lines ≤ 20)) (h_x0_line : (LnM x0_line)) (h_x0_changes : (AI 0 99 x0_changes)) (h_x0_coins : (AI 0 9 x0_coins)) (h_x0_goods : (0 ≤ x0_goods ∧ x0_goods ≤ 8)) (h_x0_good : (GdM x0_good)) (h_x0_works : (0 ≤ x0_works ∧ x0_works ≤ 7)) (h_x0_work : (WkM x0_work)) (h_x0_years : (1 ≤ x0_years ∧ x0_years ≤ 30)) (h_x0_from : (0 ≤ x0_from ∧ x0_from ≤ 250)) (h_x0_far : (AI 0 1000000000 x0_far)) (h_x0_way : (AI 0 22 x0_way)) (h_x0_steps : (0 ≤ x0_steps ∧ x0_steps ≤ 37)) (h_x0_queue : (AI 0 35 x0_queue)) : Sf (fX7_wipe (x0_shelf, x0_rowSort, x0_rowSize, x0_rows, x0_moved, x0_shown, x0_tape, x0_tapeSize, x0_refused, x0_lines, x0_line, x0_changes, x0_coins, x0_goods, x0_good, x0_works, x0_work, x0_years, x0_gone, x0_spent, x0_at, x0_token, x0_from, x0_figures, x0_fault, x0_numbers, x0_statements, x0_left, x0_far, x0_tons, x0_way, x0_steps, x0_met, x0_queue, x0_totals)) (fun r => (0 ≤ r.2 ∧ r.2 ≤ 250)) := by
  unfold fX7_wipe
  dsimp only [u35]
  exact Sf.ok (show (0 ≤ 0 ∧ 0 ≤ 250) from (by decide))
end
section
set_option maxHeartbeats 1000000 in
theorem sX7_says {x0_shelf x0_rowSort x0_rowSize : (Nat → Int32)} {x0_rows : (Nat → Nat → Int64)} {x0_moved : (Nat → Int64)} {x0_shown x0_tape : (Nat → Int32)} {x0_tapeSize : Int32} {x0_refused : (Nat → Int32)} {x0_lines : Int32} {x0_line : (Nat → Nat → Int32)} {x0_changes x0_coins : (Nat → Int32)} {x0_goods : Int32} {x0_good : (Nat → Nat → Int32)} {x0_works : Int32} {x0_work : (Nat → Nat → Int32)} {x0_years x0_gone x0_spent x0_at x0_token x0_from : Int32} {x0_figures : Int64} {x0_fault : Int32} {x0_numbers : (Nat → Int32)} {x0_statements : Int32} {x0_left x0_far : (Nat → Int32)} {x0_tons : Int32} {x0_way : (Nat → Int32)} {x0_steps : Int32} {x0_met : Int64} {x0_queue x0_totals : (Nat → Int32)} {p1 p2 : Int32}  (h_x0_shelf : (AI 0 2 x0_shelf)) (h_x0_rowSize : (AI 0 40 x0_rowSize)) (h_x0_tapeSize : (0 ≤ x0_tapeSize ∧ x0_tapeSize ≤ 250)) (h_x0_lines : (0 ≤ x0_lines ∧ x0_lines ≤ 20)) (h_x0_line : (LnM x0_line)) (h_x0_changes : (AI 0 99 x0_changes)) (h_x0_coins : (AI 0 9 x0_coins)) (h_x0_goods : (0 ≤ x0_goods ∧ x0_goods ≤ 8)) (h_x0_good : (GdM x0_good)) (h_x0_works : (0 ≤ x0_works ∧ x0_works ≤ 7)) (h_x0_work : (WkM x0_work)) (h_x0_years : (1 ≤ x0_years ∧ x0_years ≤ 30)) (h_x0_from : (0 ≤ x0_from ∧ x0_from ≤ 250)) (h_x0_far : (AI 0 1000000000 x0_far)) (h_x0_way : (AI 0 22 x0_way)) (h_x0_steps : (0 ≤ x0_steps ∧ x0_steps ≤ 37)) (h_x0_queue : (AI 0 35 x0_queue)) (he_0 : ∀ k : Nat, x0_shelf k = 2 → 0 ≤ x0_shown k ∧ x0_shown k ≤ 6) : Sf (fX7_says (x0_shelf, x0_rowSort, x0_rowSize, x0_rows, x0_moved, x0_shown, x0_tape, x0_tapeSize, x0_refused, x0_lines, x0_line, x0_changes, x0_coins, x0_goods, x0_good, x0_works, x0_work, x0_years, x0_gone, x0_spent, x0_at, x0_token, x0_from, x0_figures, x0_fault, x0_numbers, x0_statements, x0_left, x0_far, x0_tons, x0_way, x0_steps, x0_met, x0_queue, x0_totals) p1 p2) (fun r => True) := by
  unfold fX7_says
  dsimp only [u35]
  refine Sf.bind (s_inq p1 0 7 (by decide) (by decide)) ?_
  intro v1 hr_v1
  refine Sf.ite (fun hc1 => ?_) (fun hc1 => ?_)
  · refine Sf.bind (sX7_refuse h_x0_shelf h_x0_rowSize h_x0_tapeSize h_x0_lines h_x0_line h_x0_changes h_x0_coins h_x0_goods h_x0_good h_x0_works h_x0_work h_x0_years h_x0_from h_x0_far h_x0_way h_x0_steps h_x0_queue (by decide)) ?_
    rintro ⟨v3, g4⟩ hr2
    have hx_v3 : (v3 = (-2)) := hr2
    dsimp only [u2]
    exact Sf.ok trivial
  · refine Sf.bind (s_inq p2 0 5 (by decide) (by decide)) ?_
    intro v6 hr_v6
    refine Sf.ite (fun hc3 => ?_) (fun hc3 => ?_)
    · refine Sf.bind (sX7_refuse h_x0_shelf h_x0_rowSize h_x0_tapeSize h_x0_lines h_x0_line h_x0_changes h_x0_coins h_x0_goods h_x0_good h_x0_works h_x0_work h_x0_years h_x0_from h_x0_far h_x0_way h_x0_steps h_x0_queue (by decide)) ?_
      rintro ⟨v31, g32⟩ hr4
      have hx_v31 : (v31 = (-2)) := hr4
      dsimp only [u2]
      exact Sf.ok trivial
    · refine Sf.rdI 8 rfl h_x0_shelf (by grind) (fun v8 h_v8 e_v8 => ?_)
      refine Sf.ite (fun hc5 => ?_) (fun hc5 => ?_)
      · refine Sf.bind (sX7_refuse h_x0_shelf h_x0_rowSize h_x0_tapeSize h_x0_lines h_x0_line h_x0_changes h_x0_coins h_x0_goods h_x0_good h_x0_works h_x0_work h_x0_years h_x0_from h_x0_far h_x0_way h_x0_steps h_x0_queue (by decide)) ?_
        rintro ⟨v9, g10⟩ hr6
        have hx_v9 : (v9 = (-3)) := hr6
        dsimp only [u2]
        exact Sf.ok trivial
      · refine Sf.rdI 8 rfl h_x0_shelf (by grind) (fun v12 h_v12 e_v12 => ?_)
        refine Sf.ite (fun hc7 => ?_) (fun hc7 => ?_)
        · refine Sf.rdb 8 rfl (by grind) (fun v23 e_v23 => ?_)
          refine Sf.ckb 7 rfl (by grind) (fun q24 e_q24 h_q24 => ?_)
          refine Sf.rdl 0 rfl rfl (fun v25 e_v25 => ?_)
          have h_v25 : 0 ≤ v25 ∧ v25 ≤ 5 := by rw [e_v25]; exact (h_x0_work.1 q24) 0
          refine Sf.bind (sX7_isUnder ) ?_
          intro v26 hr8
          refine Sf.ite (fun hc9 => ?_) (fun hc9 => ?_)
          · refine Sf.bind (sX7_refuse h_x0_shelf h_x0_rowSize h_x0_tapeSize h_x0_lines h_x0_line h_x0_changes h_x0_coins h_x0_goods h_x0_good h_x0_works h_x0_work h_x0_years h_x0_from h_x0_far h_x0_way h_x0_steps h_x0_queue (by decide)) ?_
            rintro ⟨v28, g29⟩ hr10
            have hx_v28 : (v28 = (-3)) := hr10
            dsimp only [u2]
            exact Sf.ok trivial
          · unfold fX7_says_j78
            refine Sf.rdI 8 rfl h_x0_shelf (by grind) (fun v13 h_v13 e_v13 => ?_)
            refine Sf.ite (fun hc11 => ?_) (fun hc11 => ?_)
            · refine Sf.bind (sX7_refuse h_x0_shelf h_x0_rowSize h_x0_tapeSize h_x0_lines h_x0_line h_x0_changes h_x0_coins h_x0_goods h_x0_good h_x0_works h_x0_work h_x0_years h_x0_from h_x0_far h_x0_way h_x0_steps h_x0_queue (by decide)) ?_
              rintro ⟨v20, g21⟩ hr12
              have hx_v20 : (v20 = (-4)) := hr12
              dsimp only [u2]
              exact Sf.ok trivial
            · refine Sf.rdb 8 rfl (by grind) (fun v14 e_v14 => ?_)
              refine Sf.ckb 7 rfl (by grind) (fun q15 e_q15 h_q15 => ?_)
              refine Sf.ite (fun hc13 => ?_) (fun hc13 => ?_)
              · refine Sf.rdl 3 rfl rfl (fun v19 e_v19 => ?_)
                have h_v19 : 0 ≤ v19 ∧ v19 ≤ 9999 := by rw [e_v19]; exact (h_x0_work.1 q15) 3
                exact Sf.ok trivial
              · refine Sf.ite (fun hc14 => ?_) (fun hc14 => ?_)
                · refine Sf.rdl 1 rfl rfl (fun v16 e_v16 => ?_)
                  have h_v16 : 0 ≤ v16 ∧ v16 ≤ 19 := by rw [e_v16]; exact (h_x0_work.1 q15) 1
                  refine Sf.rdl 2 rfl rfl (fun v17 e_v17 => ?_)
                  have h_v17 : 0 ≤ v17 ∧ v17 ≤ 99 := by rw [e_v17]; exact (h_x0_work.1 q15) 2
                  exact Sf.ok trivial
                · refine Sf.rdl 1 rfl rfl (fun v18 e_v18 => ?_)
                  have h_v18 : 0 ≤ v18 ∧ v18 ≤ 19 := by rw [e_v18]; exact (h_x0_work.1 q15) 1
                  exact Sf.ok trivial
        · unfold fX7_says_j78
          refine Sf.rdI 8 rfl h_x0_shelf (by grind) (fun v13 h_v13 e_v13 => ?_)
          refine Sf.ite (fun hc15 => ?_) (fun hc15 => ?_)
          · refine Sf.bind (sX7_refuse h_x0_shelf h_x0_rowSize h_x0_tapeSize h_x0_lines h_x0_line h_x0_changes h_x0_coins h_x0_goods h_x0_good h_x0_works h_x0_work h_x0_years h_x0_from h_x0_far h_x0_way h_x0_steps h_x0_queue (by decide)) ?_
            rintro ⟨v20, g21⟩ hr16
            have hx_v20 : (v20 = (-4)) := hr16
            dsimp only [u2]
            exact Sf.ok trivial
          · refine Sf.rdb 8 rfl (by grind) (fun v14 e_v14 => ?_)
            refine Sf.ckb 7 rfl (by grind) (fun q15 e_q15 h_q15 => ?_)
            refine Sf.ite (fun hc17 => ?_) (fun hc17 => ?_)
            · refine Sf.rdl 3 rfl rfl (fun v19 e_v19 => ?_)
              have h_v19 : 0 ≤ v19 ∧ v19 ≤ 9999 := by rw [e_v19]; exact (h_x0_work.1 q15) 3
              exact Sf.ok trivial
            · refine Sf.ite (fun hc18 => ?_) (fun hc18 => ?_)
              · refine Sf.rdl 1 rfl rfl (fun v16 e_v16 => ?_)
                have h_v16 : 0 ≤ v16 ∧ v16 ≤ 19 := by rw [e_v16]; exact (h_x0_work.1 q15) 1
                refine Sf.rdl 2 rfl rfl (fun v17 e_v17 => ?_)
                have h_v17 : 0 ≤ v17 ∧ v17 ≤ 99 := by rw [e_v17]; exact (h_x0_work.1 q15) 2
                exact Sf.ok trivial
              · refine Sf.rdl 1 rfl rfl (fun v18 e_v18 => ?_)
                have h_v18 : 0 ≤ v18 ∧ v18 ≤ 19 := by rw [e_v18]; exact (h_x0_work.1 q15) 1
                exact Sf.ok trivial
set_option maxHeartbeats 1000000 in
theorem sX7_work {x0_shelf x0_rowSort x0_rowSize : (Nat → Int32)} {x0_rows : (Nat → Nat → Int64)} {x0_moved : (Nat → Int64)} {x0_shown x0_tape : (Nat → Int32)} {x0_tapeSize : Int32} {x0_refused : (Nat → Int32)} {x0_lines : Int32} {x0_line : (Nat → Nat → Int32)} {x0_changes x0_coins : (Nat → Int32)} {x0_goods : Int32} {x0_good : (Nat → Nat → Int32)} {x0_works : Int32} {x0_work : (Nat → Nat → Int32)} {x0_years x0_gone x0_spent x0_at x0_token x0_from : Int32} {x0_figures : Int64} {x0_fault : Int32} {x0_numbers : (Nat → Int32)} {x0_statements : Int32} {x0_left x0_far : (Nat → Int32)} {x0_tons : Int32} {x0_way : (Nat → Int32)} {x0_steps : Int32} {x0_met : Int64} {x0_queue x0_totals : (Nat → Int32)} {p1 p2 p3 p4 : Int32}  (h_x0_shelf : (AI 0 2 x0_shelf)) (h_x0_rowSize : (AI 0 40 x0_rowSize)) (h_x0_tapeSize : (0 ≤ x0_tapeSize ∧ x0_tapeSize ≤ 250)) (h_x0_lines : (0 ≤ x0_lines ∧ x0_lines ≤ 20)) (h_x0_line : (LnM x0_line)) (h_x0_changes : (AI 0 99 x0_changes)) (h_x0_coins : (AI 0 9 x0_coins)) (h_x0_goods : (0 ≤ x0_goods ∧ x0_goods ≤ 8)) (h_x0_good : (GdM x0_good)) (h_x0_works : (0 ≤ x0_works ∧ x0_works ≤ 7)) (h_x0_work : (WkM x0_work)) (h_x0_years : (1 ≤ x0_years ∧ x0_years ≤ 30)) (h_x0_from : (0 ≤ x0_from ∧ x0_from ≤ 250)) (h_x0_far : (AI 0 1000000000 x0_far)) (h_x0_way : (AI 0 22 x0_way)) (h_x0_steps : (0 ≤ x0_steps ∧ x0_steps ≤ 37)) (h_x0_queue : (AI 0 35 x0_queue)) : Sf (fX7_work (x0_shelf, x0_rowSort, x0_rowSize, x0_rows, x0_moved, x0_shown, x0_tape, x0_tapeSize, x0_refused, x0_lines, x0_line, x0_changes, x0_coins, x0_goods, x0_good, x0_works, x0_work, x0_years, x0_gone, x0_spent, x0_at, x0_token, x0_from, x0_figures, x0_fault, x0_numbers, x0_statements, x0_left, x0_far, x0_tons, x0_way, x0_steps, x0_met, x0_queue, x0_totals) p1 p2 p3 p4) (fun r => (0 ≤ r.2.2.1 ∧ r.2.2.1 ≤ 7) ∧ (WkM r.2.2.2)) := by
  unfold fX7_work
  dsimp only [u35]
  simp only [va_up_self, va_up_up]
  refine Sf.bind (s_inq p1 1 5 (by decide) (by decide)) ?_
  intro v1 hr_v1
  refine Sf.ite (fun hc1 => ?_) (fun hc1 => ?_)
  · refine Sf.bind (sX7_refuse h_x0_shelf h_x0_rowSize h_x0_tapeSize h_x0_lines h_x0_line h_x0_changes h_x0_coins h_x0_goods h_x0_good h_x0_works h_x0_work h_x0_years h_x0_from h_x0_far h_x0_way h_x0_steps h_x0_queue (by decide)) ?_
    rintro ⟨v3, g4⟩ hr2
    have hx_v3 : (v3 = (-2)) := hr2
    dsimp only [u2]
    exact Sf.ok (show (0 ≤ x0_works ∧ x0_works ≤ 7) ∧ (WkM x0_work) from ⟨h_x0_works, h_x0_work⟩)
  · refine Sf.bind (sX7_mayBeFirst h_x0_shelf h_x0_rowSize h_x0_tapeSize h_x0_lines h_x0_line h_x0_changes h_x0_coins h_x0_goods h_x0_good h_x0_works h_x0_work h_x0_years h_x0_from h_x0_far h_x0_way h_x0_steps h_x0_queue) ?_
    intro v6 hr3
    obtain ⟨h_v6, hx_v6⟩ : (0 ≤ v6 ∧ v6 ≤ 1) ∧ (v6 = 0 ∨ (0 ≤ p2 ∧ p2 ≤ 19 ∧ (p1 = 1 ∨ p1 = 2 ∨ p2 ≤ 11))) := hr3
    refine Sf.ite (fun hc4 => ?_) (fun hc4 => ?_)
    · refine Sf.bind (sX7_refuse h_x0_shelf h_x0_rowSize h_x0_tapeSize h_x0_lines h_x0_line h_x0_changes h_x0_coins h_x0_goods h_x0_good h_x0_works h_x0_work h_x0_years h_x0_from h_x0_far h_x0_way h_x0_steps h_x0_queue (by decide)) ?_
      rintro ⟨v8, g9⟩ hr5
      have hx_v8 : (v8 = (-2)) := hr5
      dsimp only [u2]
      exact Sf.ok (show (0 ≤ x0_works ∧ x0_works ≤ 7) ∧ (WkM x0_work) from ⟨h_x0_works, h_x0_work⟩)
    · refine Sf.bind (sX7_mayBeSecond ) ?_
      intro v11 hr6
      obtain ⟨h_v11, hx_v11⟩ : (0 ≤ v11 ∧ v11 ≤ 1) ∧ (v11 = 0 ∨ (0 ≤ p3 ∧ p3 ≤ 99 ∧ (p1 = 1 ∨ p1 = 2 → p3 ≤ 2) ∧ (p1 = 1 ∨ p1 = 2 ∨ p1 = 3 ∨ p3 ≤ 11))) := hr6
      refine Sf.ite (fun hc7 => ?_) (fun hc7 => ?_)
      · refine Sf.bind (sX7_refuse h_x0_shelf h_x0_rowSize h_x0_tapeSize h_x0_lines h_x0_line h_x0_changes h_x0_coins h_x0_goods h_x0_good h_x0_works h_x0_work h_x0_years h_x0_from h_x0_far h_x0_way h_x0_steps h_x0_queue (by decide)) ?_
        rintro ⟨v13, g14⟩ hr8
        have hx_v13 : (v13 = (-2)) := hr8
        dsimp only [u2]
        exact Sf.ok (show (0 ≤ x0_works ∧ x0_works ≤ 7) ∧ (WkM x0_work) from ⟨h_x0_works, h_x0_work⟩)
      · refine Sf.bind (s_inq p4 0 9999 (by decide) (by decide)) ?_
        intro v16 hr_v16
        refine Sf.ite (fun hc9 => ?_) (fun hc9 => ?_)
        · refine Sf.bind (sX7_refuse h_x0_shelf h_x0_rowSize h_x0_tapeSize h_x0_lines h_x0_line h_x0_changes h_x0_coins h_x0_goods h_x0_good h_x0_works h_x0_work h_x0_years h_x0_from h_x0_far h_x0_way h_x0_steps h_x0_queue (by decide)) ?_
          rintro ⟨v27, g28⟩ hr10
          have hx_v27 : (v27 = (-2)) := hr10
          dsimp only [u2]
          exact Sf.ok (show (0 ≤ x0_works ∧ x0_works ≤ 7) ∧ (WkM x0_work) from ⟨h_x0_works, h_x0_work⟩)
        · refine Sf.ite (fun hc11 => ?_) (fun hc11 => ?_)
          · refine Sf.bind (sX7_refuse h_x0_shelf h_x0_rowSize h_x0_tapeSize h_x0_lines h_x0_line h_x0_changes h_x0_coins h_x0_goods h_x0_good h_x0_works h_x0_work h_x0_years h_x0_from h_x0_far h_x0_way h_x0_steps h_x0_queue (by decide)) ?_
            rintro ⟨v24, g25⟩ hr12
            have hx_v24 : (v24 = (-6)) := hr12
            dsimp only [u2]
            exact Sf.ok (show (0 ≤ x0_works ∧ x0_works ≤ 7) ∧ (WkM x0_work) from ⟨h_x0_works, h_x0_work⟩)
          · refine Sf.ckb 7 rfl (by grind) (fun q18 e_q18 h_q18 => ?_)
            refine Sf.wrl 0 rfl rfl (fun f19 e_f19 => ?_)
            have h_f19 : RI wkB f19 := by rw [e_f19]; exact RI.up (h_x0_work.1 q18) (show 0 ≤ p1 ∧ p1 ≤ 5 from (by grind))
            refine Sf.wrl 1 rfl rfl (fun f20 e_f20 => ?_)
            have h_f20 : RI wkB f20 := by rw [e_f20]; exact RI.up h_f19 (show 0 ≤ p2 ∧ p2 ≤ 19 from (by grind))
            refine Sf.wrl 2 rfl rfl (fun f21 e_f21 => ?_)
            have h_f21 : RI wkB f21 := by rw [e_f21]; exact RI.up h_f20 (show 0 ≤ p3 ∧ p3 ≤ 99 from (by grind))
            refine Sf.wrl 3 rfl rfl (fun f22 e_f22 => ?_)
            have h_f22 : RI wkB f22 := by rw [e_f22]; exact RI.up h_f21 (show 0 ≤ p4 ∧ p4 ≤ 9999 from (by grind))
            refine Sf.wrl 4 rfl rfl (fun f23 e_f23 => ?_)
            have h_f23 : RI wkB f23 := by rw [e_f23]; exact RI.up h_f22 (show 0 ≤ 0 ∧ 0 ≤ 1 from (by decide))
            exact Sf.ok (show (0 ≤ (x0_works + 1) ∧ (x0_works + 1) ≤ 7) ∧ (WkM (va_up x0_work q18 f23)) from ⟨(by grind), (WkM.up h_x0_work h_f23 (by rw [e_f23, e_f22, e_f21, e_f20, e_f19]; exact (show WkRm p1 p2 p3 by clear e_f23 e_f22 e_f21 e_f20 e_f19; unfold WkRm; grind)))⟩)
theorem TX7_feed_s42 {p1 z4 : Int32} {z5 : (Nat → Int32)} {z6 : Int32}  (h_z4 : ((-1) ≤ z4 ∧ z4 ≤ 3)) (h_z6 : (0 ≤ z6 ∧ z6 ≤ 250)) (hi_0 : z6 + z4 ≤ 249) : Sf (fX7_feed_s42 p1 z4 z5 z6) (LQ (fun (e : Int32 × (Nat → Int32) × Int32) => ((-1) ≤ e.1 ∧ e.1 ≤ 3) ∧ (0 ≤ e.2.2 ∧ e.2.2 ≤ 250) ∧ (e.2.2 + e.1 ≤ 249)) (fun (e : Int32 × (Nat → Int32) × Int32) => muDe e.1) (muDe z4) (fun e => (0 ≤ e.2 ∧ e.2 ≤ 250))) := by
  unfold fX7_feed_s42
  refine Sf.ite (fun hc1 => ?_) (fun hc1 => ?_)
  · exact Sf.inr (show (0 ≤ z6 ∧ z6 ≤ 250) from h_z6)
  · refine Sf.someb (fun t10 e_t10 => ?_)
    refine Sf.wrb 250 rfl (by grind) (fun f11 e_f11 => ?_)
    clear e_f11
    exact Sf.inl (show ((-1) ≤ (z4 + (-1)) ∧ (z4 + (-1)) ≤ 3) ∧ (0 ≤ (z6 + 1) ∧ (z6 + 1) ≤ 250) ∧ ((z6 + 1) + (z4 + (-1)) ≤ 249) from ⟨(by grind), (by grind), (by grind)⟩) (muDe_lta hc1)
theorem LX7_feed_s42 {n : Nat} {p1 z4 : Int32} {z5 : (Nat → Int32)} {z6 : Int32} (hn : 1000000000000 ≤ n) (h_z4 : ((-1) ≤ z4 ∧ z4 ≤ 3)) (h_z6 : (0 ≤ z6 ∧ z6 ≤ 250)) (hi_0 : z6 + z4 ≤ 249) : Sf (lp (u3 (fX7_feed_s42 p1)) n (z4, z5, z6)) (fun e => (0 ≤ e.2 ∧ e.2 ≤ 250)) :=
  Sf.loop (fun (e : Int32 × (Nat → Int32) × Int32) => ((-1) ≤ e.1 ∧ e.1 ≤ 3) ∧ (0 ≤ e.2.2 ∧ e.2.2 ≤ 250) ∧ (e.2.2 + e.1 ≤ 249)) (fun (e : Int32 × (Nat → Int32) × Int32) => muDe e.1) (fun s h => by rw [u3_def]; exact TX7_feed_s42 h.1 h.2.1 h.2.2) n _ (show ((-1) ≤ z4 ∧ z4 ≤ 3) ∧ (0 ≤ z6 ∧ z6 ≤ 250) ∧ (z6 + z4 ≤ 249) from ⟨h_z4, h_z6, hi_0⟩) (muDe_n hn)
set_option maxHeartbeats 1000000 in
theorem sX7_feed {n : Nat} {x0_shelf x0_rowSort x0_rowSize : (Nat → Int32)} {x0_rows : (Nat → Nat → Int64)} {x0_moved : (Nat → Int64)} {x0_shown x0_tape : (Nat → Int32)} {x0_tapeSize : Int32} {x0_refused : (Nat → Int32)} {x0_lines : Int32} {x0_line : (Nat → Nat → Int32)} {x0_changes x0_coins : (Nat → Int32)} {x0_goods : Int32} {x0_good : (Nat → Nat → Int32)} {x0_works : Int32} {x0_work : (Nat → Nat → Int32)} {x0_years x0_gone x0_spent x0_at x0_token x0_from : Int32} {x0_figures : Int64} {x0_fault : Int32} {x0_numbers : (Nat → Int32)} {x0_statements : Int32} {x0_left x0_far : (Nat → Int32)} {x0_tons : Int32} {x0_way : (Nat → Int32)} {x0_steps : Int32} {x0_met : Int64} {x0_queue x0_totals : (Nat → Int32)} {p1 p2 : Int32} (hn : 1000000000000 ≤ n) (h_x0_shelf : (AI 0 2 x0_shelf)) (h_x0_rowSize : (AI 0 40 x0_rowSize)) (h_x0_tapeSize : (0 ≤ x0_tapeSize ∧ x0_tapeSize ≤ 250)) (h_x0_lines : (0 ≤ x0_lines ∧ x0_lines ≤ 20)) (h_x0_line : (LnM x0_line)) (h_x0_changes : (AI 0 99 x0_changes)) (h_x0_coins : (AI 0 9 x0_coins)) (h_x0_goods : (0 ≤ x0_goods ∧ x0_goods ≤ 8)) (h_x0_good : (GdM x0_good)) (h_x0_works : (0 ≤ x0_works ∧ x0_works ≤ 7)) (h_x0_work : (WkM x0_work)) (h_x0_years : (1 ≤ x0_years ∧ x0_years ≤ 30)) (h_x0_from : (0 ≤ x0_from ∧ x0_from ≤ 250)) (h_x0_far : (AI 0 1000000000 x0_far)) (h_x0_way : (AI 0 22 x0_way)) (h_x0_steps : (0 ≤ x0_steps ∧ x0_steps ≤ 37)) (h_x0_queue : (AI 0 35 x0_queue)) : Sf (fX7_feed n (x0_shelf, x0_rowSort, x0_rowSize, x0_rows, x0_moved, x0_shown, x0_tape, x0_tapeSize, x0_refused, x0_lines, x0_line, x0_changes, x0_coins, x0_goods, x0_good, x0_works, x0_work, x0_years, x0_gone, x0_spent, x0_at, x0_token, x0_from, x0_figures, x0_fault, x0_numbers, x0_statements, x0_left, x0_far, x0_tons, x0_way, x0_steps, x0_met, x0_queue, x0_totals) p1 p2) (fun r => (0 ≤ r.2.2.1 ∧ r.2.2.1 ≤ 250)) := by
  unfold fX7_feed
  dsimp only [u35]
  refine Sf.bind (s_inq p2 1 4 (by decide) (by decide)) ?_
  intro v1 hr_v1
  refine Sf.ite (fun hc1 => ?_) (fun hc1 => ?_)
  · refine Sf.bind (sX7_refuse h_x0_shelf h_x0_rowSize h_x0_tapeSize h_x0_lines h_x0_line h_x0_changes h_x0_coins h_x0_goods h_x0_good h_x0_works h_x0_work h_x0_years h_x0_from h_x0_far h_x0_way h_x0_steps h_x0_queue (by decide)) ?_
    rintro ⟨v15, g16⟩ hr2
    have hx_v15 : (v15 = (-2)) := hr2
    exact Sf.ok (show (0 ≤ x0_tapeSize ∧ x0_tapeSize ≤ 250) from h_x0_tapeSize)
  · refine Sf.ite (fun hc3 => ?_) (fun hc3 => ?_)
    · refine Sf.bind (LX7_feed_s42 hn (by grind) h_x0_tapeSize (by grind)) ?_
      rintro ⟨w8, w9⟩ hr4
      have h_w9 : (0 ≤ w9 ∧ w9 ≤ 250) := hr4
      exact Sf.ok (show (0 ≤ w9 ∧ w9 ≤ 250) from h_w9)
    · refine Sf.bind (sX7_refuse h_x0_shelf h_x0_rowSize h_x0_tapeSize h_x0_lines h_x0_line h_x0_changes h_x0_coins h_x0_goods h_x0_good h_x0_works h_x0_work h_x0_years h_x0_from h_x0_far h_x0_way h_x0_steps h_x0_queue (by decide)) ?_
      rintro ⟨v12, g13⟩ hr5
      have hx_v12 : (v12 = (-6)) := hr5
      exact Sf.ok (show (0 ≤ x0_tapeSize ∧ x0_tapeSize ≤ 250) from h_x0_tapeSize)
set_option maxHeartbeats 1000000 in
theorem sX7_does {x0_shelf x0_rowSort x0_rowSize : (Nat → Int32)} {x0_rows : (Nat → Nat → Int64)} {x0_moved : (Nat → Int64)} {x0_shown x0_tape : (Nat → Int32)} {x0_tapeSize : Int32} {x0_refused : (Nat → Int32)} {x0_lines : Int32} {x0_line : (Nat → Nat → Int32)} {x0_changes x0_coins : (Nat → Int32)} {x0_goods : Int32} {x0_good : (Nat → Nat → Int32)} {x0_works : Int32} {x0_work : (Nat → Nat → Int32)} {x0_years x0_gone x0_spent x0_at x0_token x0_from : Int32} {x0_figures : Int64} {x0_fault : Int32} {x0_numbers : (Nat → Int32)} {x0_statements : Int32} {x0_left x0_far : (Nat → Int32)} {x0_tons : Int32} {x0_way : (Nat → Int32)} {x0_steps : Int32} {x0_met : Int64} {x0_queue x0_totals : (Nat → Int32)} {p1 : Int32}  (h_x0_shelf : (AI 0 2 x0_shelf)) (h_x0_rowSize : (AI 0 40 x0_rowSize)) (h_x0_tapeSize : (0 ≤ x0_tapeSize ∧ x0_tapeSize ≤ 250)) (h_x0_lines : (0 ≤ x0_lines ∧ x0_lines ≤ 20)) (h_x0_line : (LnM x0_line)) (h_x0_changes : (AI 0 99 x0_changes)) (h_x0_coins : (AI 0 9 x0_coins)) (h_x0_goods : (0 ≤ x0_goods ∧ x0_goods ≤ 8)) (h_x0_good : (GdM x0_good)) (h_x0_works : (0 ≤ x0_works ∧ x0_works ≤ 7)) (h_x0_work : (WkM x0_work)) (h_x0_years : (1 ≤ x0_years ∧ x0_years ≤ 30)) (h_x0_from : (0 ≤ x0_from ∧ x0_from ≤ 250)) (h_x0_far : (AI 0 1000000000 x0_far)) (h_x0_way : (AI 0 22 x0_way)) (h_x0_steps : (0 ≤ x0_steps ∧ x0_steps ≤ 37)) (h_x0_queue : (AI 0 35 x0_queue)) (h_p1 : (0 ≤ p1 ∧ p1 ≤ 6)) : Sf (fX7_does (x0_shelf, x0_rowSort, x0_rowSize, x0_rows, x0_moved, x0_shown, x0_tape, x0_tapeSize, x0_refused, x0_lines, x0_line, x0_changes, x0_coins, x0_goods, x0_good, x0_works, x0_work, x0_years, x0_gone, x0_spent, x0_at, x0_token, x0_from, x0_figures, x0_fault, x0_numbers, x0_statements, x0_left, x0_far, x0_tons, x0_way, x0_steps, x0_met, x0_queue, x0_totals) p1) (fun r => (0 ≤ r.1 ∧ r.1 ≤ 20) ∧ (LnM r.2.1) ∧ (AI 0 99 r.2.2.1) ∧ (WkM r.2.2.2) ∧ (r.2.2.2 = va_up x0_work (p1 : Int32).toNatClampNeg (va_up (x0_work (p1 : Int32).toNatClampNeg) 4 1))) := by
  unfold fX7_does
  dsimp only [u35]
  simp only [va_up_self, va_up_up]
  refine Sf.ckb 7 rfl (by grind) (fun q1 e_q1 h_q1 => ?_)
  refine Sf.wrl 4 rfl rfl (fun f2 e_f2 => ?_)
  have h_f2 : RI wkB f2 := by rw [e_f2]; exact RI.up (h_x0_work.1 q1) (show 0 ≤ 1 ∧ 1 ≤ 1 from (by decide))
  have hRR : WkRm (f2 0) (f2 1) (f2 2) := by rw [e_f2]; exact h_x0_work.2 q1 h_q1
  have hRR2 := hRR
  unfold WkRm at hRR2
  refine Sf.rdl 0 rfl rfl (fun v3 e_v3 => ?_)
  have h_v3 : 0 ≤ v3 ∧ v3 ≤ 5 := by rw [e_v3]; exact h_f2 0
  refine Sf.ite (fun hc1 => ?_) (fun hc1 => ?_)
  · refine Sf.rdl 1 rfl rfl (fun v4 e_v4 => ?_)
    have h_v4 : 0 ≤ v4 ∧ v4 ≤ 19 := by rw [e_v4]; exact h_f2 1
    refine Sf.ckb 20 rfl (by grind) (fun q5 e_q5 h_q5 => ?_)
    refine Sf.rdl 2 rfl rfl (fun v6 e_v6 => ?_)
    have h_v6 : 0 ≤ v6 ∧ v6 ≤ 99 := by rw [e_v6]; exact h_f2 2
    refine Sf.someb (fun t7 e_t7 => ?_)
    have h_t7 : 0 ≤ t7 ∧ t7 ≤ 7 := by rw [e_t7]; exact sh_w (by grind)
    refine Sf.wrl 2 rfl rfl (fun f8 e_f8 => ?_)
    have h_f8 : RI lnB f8 := by rw [e_f8]; exact RI.up (h_x0_line q5) (show 0 ≤ t7 ∧ t7 ≤ 7 from h_t7)
    exact Sf.ok (show (0 ≤ x0_lines ∧ x0_lines ≤ 20) ∧ (LnM (va_up x0_line q5 f8)) ∧ (AI 0 99 x0_changes) ∧ (WkM (va_up x0_work q1 f2)) ∧ ((va_up x0_work q1 f2) = va_up x0_work (p1 : Int32).toNatClampNeg (va_up (x0_work (p1 : Int32).toNatClampNeg) 4 1)) from ⟨h_x0_lines, (GI.up h_x0_line h_f8), h_x0_changes, (WkM.up h_x0_work h_f2 (by exact hRR)), (by rw [e_f2, e_q1])⟩)
  · refine Sf.ite (fun hc2 => ?_) (fun hc2 => ?_)
    · refine Sf.rdl 1 rfl rfl (fun v9 e_v9 => ?_)
      have h_v9 : 0 ≤ v9 ∧ v9 ≤ 19 := by rw [e_v9]; exact h_f2 1
      refine Sf.ckb 20 rfl (by grind) (fun q10 e_q10 h_q10 => ?_)
      refine Sf.rdl 2 rfl rfl (fun v11 e_v11 => ?_)
      have h_v11 : 0 ≤ v11 ∧ v11 ≤ 7 := by rw [e_v11]; exact (h_x0_line q10) 2
      refine Sf.rdl 2 rfl rfl (fun v12 e_v12 => ?_)
      have h_v12 : 0 ≤ v12 ∧ v12 ≤ 99 := by rw [e_v12]; exact h_f2 2
      refine Sf.someb (fun t13 e_t13 => ?_)
      have h_t13 : 0 ≤ t13 ∧ t13 ≤ 7 := by rw [e_t13]; exact or_w h_v11 (by grind)
      refine Sf.wrl 2 rfl rfl (fun f14 e_f14 => ?_)
      have h_f14 : RI lnB f14 := by rw [e_f14]; exact RI.up (h_x0_line q10) (show 0 ≤ t13 ∧ t13 ≤ 7 from h_t13)
      exact Sf.ok (show (0 ≤ x0_lines ∧ x0_lines ≤ 20) ∧ (LnM (va_up x0_line q10 f14)) ∧ (AI 0 99 x0_changes) ∧ (WkM (va_up x0_work q1 f2)) ∧ ((va_up x0_work q1 f2) = va_up x0_work (p1 : Int32).toNatClampNeg (va_up (x0_work (p1 : Int32).toNatClampNeg) 4 1)) from ⟨h_x0_lines, (GI.up h_x0_line h_f14), h_x0_changes, (WkM.up h_x0_work h_f2 (by exact hRR)), (by rw [e_f2, e_q1])⟩)
    · refine Sf.ite (fun hc3 => ?_) (fun hc3 => ?_)
      · refine Sf.rdl 1 rfl rfl (fun v15 e_v15 => ?_)
        have h_v15 : 0 ≤ v15 ∧ v15 ≤ 19 := by rw [e_v15]; exact h_f2 1
        refine Sf.rdl 2 rfl rfl (fun v16 e_v16 => ?_)
        have h_v16 : 0 ≤ v16 ∧ v16 ≤ 99 := by rw [e_v16]; exact h_f2 2
        refine Sf.wrI 12 rfl h_x0_changes (by grind) h_v16 (fun f17 h_f17 e_f17 => ?_)
        exact Sf.ok (show (0 ≤ x0_lines ∧ x0_lines ≤ 20) ∧ (LnM x0_line) ∧ (AI 0 99 f17) ∧ (WkM (va_up x0_work q1 f2)) ∧ ((va_up x0_work q1 f2) = va_up x0_work (p1 : Int32).toNatClampNeg (va_up (x0_work (p1 : Int32).toNatClampNeg) 4 1)) from ⟨h_x0_lines, h_x0_line, h_f17, (WkM.up h_x0_work h_f2 (by exact hRR)), (by rw [e_f2, e_q1])⟩)
      · refine Sf.ite (fun hc4 => ?_) (fun hc4 => ?_)
        · exact Sf.ok (show (0 ≤ x0_lines ∧ x0_lines ≤ 20) ∧ (LnM x0_line) ∧ (AI 0 99 x0_changes) ∧ (WkM (va_up x0_work q1 f2)) ∧ ((va_up x0_work q1 f2) = va_up x0_work (p1 : Int32).toNatClampNeg (va_up (x0_work (p1 : Int32).toNatClampNeg) 4 1)) from ⟨h_x0_lines, h_x0_line, h_x0_changes, (WkM.up h_x0_work h_f2 (by exact hRR)), (by rw [e_f2, e_q1])⟩)
        · refine Sf.rdl 1 rfl rfl (fun v18 e_v18 => ?_)
          have h_v18 : 0 ≤ v18 ∧ v18 ≤ 19 := by rw [e_v18]; exact h_f2 1
          refine Sf.rdl 2 rfl rfl (fun v19 e_v19 => ?_)
          have h_v19 : 0 ≤ v19 ∧ v19 ≤ 99 := by rw [e_v19]; exact h_f2 2
          refine Sf.bind (sX7_newLine h_x0_shelf h_x0_rowSize h_x0_tapeSize h_x0_lines h_x0_line h_x0_changes h_x0_coins h_x0_goods h_x0_good h_x0_works (WkM.up h_x0_work h_f2 (by exact hRR)) h_x0_years h_x0_from h_x0_far h_x0_way h_x0_steps h_x0_queue (by grind) (by grind) (by grind)) ?_
          intro g20 hr5
          have h_g20 : (LnM g20) := hr5
          refine Sf.ckb 20 rfl (by grind) (fun q22 e_q22 h_q22 => ?_)
          refine Sf.rdl 0 rfl rfl (fun v23 e_v23 => ?_)
          have h_v23 : 0 ≤ v23 ∧ v23 ≤ 5 := by rw [e_v23]; exact h_f2 0
          refine Sf.ite (fun hc6 => ?_) (fun hc6 => ?_)
          · unfold fX7_does_j137
            refine Sf.wrl 4 rfl rfl (fun f25 e_f25 => ?_)
            have h_f25 : RI lnB f25 := by rw [e_f25]; exact RI.up (h_g20 q22) (show 0 ≤ 99 ∧ 99 ≤ 999 from (by decide))
            exact Sf.ok (show (0 ≤ (x0_lines + 1) ∧ (x0_lines + 1) ≤ 20) ∧ (LnM (va_up g20 q22 f25)) ∧ (AI 0 99 x0_changes) ∧ (WkM (va_up x0_work q1 f2)) ∧ ((va_up x0_work q1 f2) = va_up x0_work (p1 : Int32).toNatClampNeg (va_up (x0_work (p1 : Int32).toNatClampNeg) 4 1)) from ⟨(by grind), (GI.up h_g20 h_f25), h_x0_changes, (WkM.up h_x0_work h_f2 (by exact hRR)), (by rw [e_f2, e_q1])⟩)
          · unfold fX7_does_j137
            refine Sf.wrl 4 rfl rfl (fun f25 e_f25 => ?_)
            have h_f25 : RI lnB f25 := by rw [e_f25]; exact RI.up (h_g20 q22) (show 0 ≤ 198 ∧ 198 ≤ 999 from (by decide))
            exact Sf.ok (show (0 ≤ (x0_lines + 1) ∧ (x0_lines + 1) ≤ 20) ∧ (LnM (va_up g20 q22 f25)) ∧ (AI 0 99 x0_changes) ∧ (WkM (va_up x0_work q1 f2)) ∧ ((va_up x0_work q1 f2) = va_up x0_work (p1 : Int32).toNatClampNeg (va_up (x0_work (p1 : Int32).toNatClampNeg) 4 1)) from ⟨(by grind), (GI.up h_g20 h_f25), h_x0_changes, (WkM.up h_x0_work h_f2 (by exact hRR)), (by rw [e_f2, e_q1])⟩)
end
section
set_option maxHeartbeats 1000000 in
theorem sX7_isLetter {p0 : Int32}   : Sf (fX7_isLetter p0) (fun r => True) := by
  unfold fX7_isLetter
  refine Sf.ite (fun hc1 => ?_) (fun hc1 => ?_)
  · exact Sf.ok trivial
  · refine Sf.ite (fun hc2 => ?_) (fun hc2 => ?_)
    · exact Sf.ok trivial
    · exact Sf.ok trivial
set_option maxHeartbeats 1000000 in
theorem sX7_isDigit {p0 : Int32}   : Sf (fX7_isDigit p0) (fun r => True) := by
  unfold fX7_isDigit
  refine Sf.ite (fun hc1 => ?_) (fun hc1 => ?_)
  · exact Sf.ok trivial
  · refine Sf.ite (fun hc2 => ?_) (fun hc2 => ?_)
    · exact Sf.ok trivial
    · exact Sf.ok trivial
theorem TX7_look_s0 {x0_tape : (Nat → Int32)} {x0_tapeSize z2 a0 : Int32}  (h_x0_tapeSize : (0 ≤ x0_tapeSize ∧ x0_tapeSize ≤ 250)) (h_z2 : (0 ≤ z2)) (hi_0 : a0 ≤ z2 ∧ z2 ≤ x0_tapeSize) : Sf (fX7_look_s0 x0_tape x0_tapeSize z2) (LQ (fun (e : Int32) => (0 ≤ e) ∧ (a0 ≤ e ∧ e ≤ x0_tapeSize)) (fun (e : Int32) => muUp e) (muUp z2) (fun e => (0 ≤ e) ∧ (a0 ≤ e ∧ e ≤ x0_tapeSize))) := by
  unfold fX7_look_s0
  refine Sf.ite (fun hc1 => ?_) (fun hc1 => ?_)
  · exact Sf.inr (show (0 ≤ z2) ∧ (a0 ≤ z2 ∧ z2 ≤ x0_tapeSize) from ⟨h_z2, (by grind)⟩)
  · refine Sf.rdb 250 rfl (by grind) (fun v31 e_v31 => ?_)
    clear e_v31
    refine Sf.ite (fun hc2 => ?_) (fun hc2 => ?_)
    · exact Sf.inl (show (0 ≤ (z2 + 1)) ∧ (a0 ≤ (z2 + 1) ∧ (z2 + 1) ≤ x0_tapeSize) from ⟨(by grind), (by grind)⟩) (muUp_lt hc1)
    · exact Sf.inr (show (0 ≤ z2) ∧ (a0 ≤ z2 ∧ z2 ≤ x0_tapeSize) from ⟨h_z2, (by grind)⟩)
theorem LX7_look_s0 {n : Nat} {x0_tape : (Nat → Int32)} {x0_tapeSize z2 a0 : Int32} (hn : 1000000000000 ≤ n) (h_x0_tapeSize : (0 ≤ x0_tapeSize ∧ x0_tapeSize ≤ 250)) (h_z2 : (0 ≤ z2)) (hi_0 : a0 ≤ z2 ∧ z2 ≤ x0_tapeSize) : Sf (lp (fX7_look_s0 x0_tape x0_tapeSize) n z2) (fun e => (0 ≤ e) ∧ (a0 ≤ e ∧ e ≤ x0_tapeSize)) :=
  Sf.loop (fun e => (0 ≤ e) ∧ (a0 ≤ e ∧ e ≤ x0_tapeSize)) (fun e => muUp e) (fun e h => TX7_look_s0 h_x0_tapeSize h.1 h.2) n _ (show (0 ≤ z2) ∧ (a0 ≤ z2 ∧ z2 ≤ x0_tapeSize) from ⟨h_z2, hi_0⟩) (muUp_n hn)
theorem TX7_look_s149 {x0_tape : (Nat → Int32)} {x0_tapeSize w4 z14 : Int32} {z15 : Int64} {a0 : Int32}  (h_x0_tapeSize : (0 ≤ x0_tapeSize ∧ x0_tapeSize ≤ 250)) (h_w4 : (0 ≤ w4 ∧ w4 ≤ 250)) (h_z14 : (0 ≤ z14)) (hi_0 : a0 ≤ z14 ∧ z14 ≤ x0_tapeSize) : Sf (fX7_look_s149 x0_tape x0_tapeSize w4 z14 z15) (LQ (u2 (fun z14 z15 => (0 ≤ z14) ∧ (a0 ≤ z14 ∧ z14 ≤ x0_tapeSize))) (u2 (fun z14 z15 => muUp z14)) (muUp z14) (fun e => (0 ≤ e.1) ∧ (a0 ≤ e.1 ∧ e.1 ≤ x0_tapeSize))) := by
  unfold fX7_look_s149
  refine Sf.ite (fun hc1 => ?_) (fun hc1 => ?_)
  · exact Sf.inr (show (0 ≤ z14) ∧ (a0 ≤ z14 ∧ z14 ≤ x0_tapeSize) from ⟨h_z14, (by grind)⟩)
  · refine Sf.rdb 250 rfl (by grind) (fun v19 e_v19 => ?_)
    refine Sf.bind (sX7_isDigit ) ?_
    intro v20 hr2
    refine Sf.ite (fun hc3 => ?_) (fun hc3 => ?_)
    · exact Sf.inr (show (0 ≤ z14) ∧ (a0 ≤ z14 ∧ z14 ≤ x0_tapeSize) from ⟨h_z14, (by grind)⟩)
    · refine Sf.ite (fun hc4 => ?_) (fun hc4 => ?_)
      · clear hc4
        unfold fX7_look_j218
        exact Sf.inl (show (0 ≤ (z14 + 1)) ∧ (a0 ≤ (z14 + 1) ∧ (z14 + 1) ≤ x0_tapeSize) from ⟨(by grind), (by grind)⟩) (muUp_lt hc1)
      · clear hc4
        refine Sf.rdb 250 rfl (by grind) (fun v23 e_v23 => ?_)
        have hs5 : v23 = v19 := e_v23.trans e_v19.symm
        clear e_v23
        unfold fX7_look_j218
        exact Sf.inl (show (0 ≤ (z14 + 1)) ∧ (a0 ≤ (z14 + 1) ∧ (z14 + 1) ≤ x0_tapeSize) from ⟨(by grind), (by grind)⟩) (muUp_lt hc1)
theorem LX7_look_s149 {n : Nat} {x0_tape : (Nat → Int32)} {x0_tapeSize w4 z14 : Int32} {z15 : Int64} {a0 : Int32} (hn : 1000000000000 ≤ n) (h_x0_tapeSize : (0 ≤ x0_tapeSize ∧ x0_tapeSize ≤ 250)) (h_w4 : (0 ≤ w4 ∧ w4 ≤ 250)) (h_z14 : (0 ≤ z14)) (hi_0 : a0 ≤ z14 ∧ z14 ≤ x0_tapeSize) : Sf (lp (u2 (fX7_look_s149 x0_tape x0_tapeSize w4)) n (z14, z15)) (fun e => (0 ≤ e.1) ∧ (a0 ≤ e.1 ∧ e.1 ≤ x0_tapeSize)) :=
  Sf.loop2 (fun z14 z15 => (0 ≤ z14) ∧ (a0 ≤ z14 ∧ z14 ≤ x0_tapeSize)) (fun z14 z15 => muUp z14) (fun z14 z15 h => TX7_look_s149 h_x0_tapeSize h_w4 h.1 h.2) (show (0 ≤ z14) ∧ (a0 ≤ z14 ∧ z14 ≤ x0_tapeSize) from ⟨h_z14, hi_0⟩) (muUp_n hn)
theorem TX7_look_s90 {x0_tape : (Nat → Int32)} {x0_tapeSize z25 a0 : Int32}  (h_x0_tapeSize : (0 ≤ x0_tapeSize ∧ x0_tapeSize ≤ 250)) (h_z25 : (0 ≤ z25)) (hi_0 : a0 ≤ z25 ∧ z25 ≤ x0_tapeSize) : Sf (fX7_look_s90 x0_tape x0_tapeSize z25) (LQ (fun (e : Int32) => (0 ≤ e) ∧ (a0 ≤ e ∧ e ≤ x0_tapeSize)) (fun (e : Int32) => muUp e) (muUp z25) (fun e => (0 ≤ e) ∧ (a0 ≤ e ∧ e ≤ x0_tapeSize))) := by
  unfold fX7_look_s90
  refine Sf.ite (fun hc1 => ?_) (fun hc1 => ?_)
  · exact Sf.inr (show (0 ≤ z25) ∧ (a0 ≤ z25 ∧ z25 ≤ x0_tapeSize) from ⟨h_z25, (by grind)⟩)
  · refine Sf.rdb 250 rfl (by grind) (fun v28 e_v28 => ?_)
    clear e_v28
    refine Sf.bind (sX7_isLetter ) ?_
    intro v29 hr2
    refine Sf.ite (fun hc3 => ?_) (fun hc3 => ?_)
    · exact Sf.inr (show (0 ≤ z25) ∧ (a0 ≤ z25 ∧ z25 ≤ x0_tapeSize) from ⟨h_z25, (by grind)⟩)
    · exact Sf.inl (show (0 ≤ (z25 + 1)) ∧ (a0 ≤ (z25 + 1) ∧ (z25 + 1) ≤ x0_tapeSize) from ⟨(by grind), (by grind)⟩) (muUp_lt hc1)
theorem LX7_look_s90 {n : Nat} {x0_tape : (Nat → Int32)} {x0_tapeSize z25 a0 : Int32} (hn : 1000000000000 ≤ n) (h_x0_tapeSize : (0 ≤ x0_tapeSize ∧ x0_tapeSize ≤ 250)) (h_z25 : (0 ≤ z25)) (hi_0 : a0 ≤ z25 ∧ z25 ≤ x0_tapeSize) : Sf (lp (fX7_look_s90 x0_tape x0_tapeSize) n z25) (fun e => (0 ≤ e) ∧ (a0 ≤ e ∧ e ≤ x0_tapeSize)) :=
  Sf.loop (fun e => (0 ≤ e) ∧ (a0 ≤ e ∧ e ≤ x0_tapeSize)) (fun e => muUp e) (fun e h => TX7_look_s90 h_x0_tapeSize h.1 h.2) n _ (show (0 ≤ z25) ∧ (a0 ≤ z25 ∧ z25 ≤ x0_tapeSize) from ⟨h_z25, hi_0⟩) (muUp_n hn)
set_option maxHeartbeats 1000000 in
theorem sX7_look {n : Nat} {x0_shelf x0_rowSort x0_rowSize : (Nat → Int32)} {x0_rows : (Nat → Nat → Int64)} {x0_moved : (Nat → Int64)} {x0_shown x0_tape : (Nat → Int32)} {x0_tapeSize : Int32} {x0_refused : (Nat → Int32)} {x0_lines : Int32} {x0_line : (Nat → Nat → Int32)} {x0_changes x0_coins : (Nat → Int32)} {x0_goods : Int32} {x0_good : (Nat → Nat → Int32)} {x0_works : Int32} {x0_work : (Nat → Nat → Int32)} {x0_years x0_gone x0_spent x0_at x0_token x0_from : Int32} {x0_figures : Int64} {x0_fault : Int32} {x0_numbers : (Nat → Int32)} {x0_statements : Int32} {x0_left x0_far : (Nat → Int32)} {x0_tons : Int32} {x0_way : (Nat → Int32)} {x0_steps : Int32} {x0_met : Int64} {x0_queue x0_totals : (Nat → Int32)} (hn : 1000000000000 ≤ n) (h_x0_shelf : (AI 0 2 x0_shelf)) (h_x0_rowSize : (AI 0 40 x0_rowSize)) (h_x0_tapeSize : (0 ≤ x0_tapeSize ∧ x0_tapeSize ≤ 250)) (h_x0_lines : (0 ≤ x0_lines ∧ x0_lines ≤ 20)) (h_x0_line : (LnM x0_line)) (h_x0_changes : (AI 0 99 x0_changes)) (h_x0_coins : (AI 0 9 x0_coins)) (h_x0_goods : (0 ≤ x0_goods ∧ x0_goods ≤ 8)) (h_x0_good : (GdM x0_good)) (h_x0_works : (0 ≤ x0_works ∧ x0_works ≤ 7)) (h_x0_work : (WkM x0_work)) (h_x0_years : (1 ≤ x0_years ∧ x0_years ≤ 30)) (h_x0_at : (0 ≤ x0_at)) (h_x0_from : (0 ≤ x0_from ∧ x0_from ≤ 250)) (h_x0_far : (AI 0 1000000000 x0_far)) (h_x0_way : (AI 0 22 x0_way)) (h_x0_steps : (0 ≤ x0_steps ∧ x0_steps ≤ 37)) (h_x0_queue : (AI 0 35 x0_queue)) (he_0 : x0_at ≤ x0_tapeSize) : Sf (fX7_look n (x0_shelf, x0_rowSort, x0_rowSize, x0_rows, x0_moved, x0_shown, x0_tape, x0_tapeSize, x0_refused, x0_lines, x0_line, x0_changes, x0_coins, x0_goods, x0_good, x0_works, x0_work, x0_years, x0_gone, x0_spent, x0_at, x0_token, x0_from, x0_figures, x0_fault, x0_numbers, x0_statements, x0_left, x0_far, x0_tons, x0_way, x0_steps, x0_met, x0_queue, x0_totals)) (fun r => (0 ≤ r.2.2.1 ∧ r.2.2.1 ≤ 250) ∧ ((0 ≤ r.1 ∧ r.1 ≤ x0_tapeSize) ∧ x0_at ≤ r.1 ∧ (r.2.1 ≠ 3 ∨ x0_at < r.1))) := by
  unfold fX7_look
  dsimp only [u35]
  refine Sf.bind (LX7_look_s0 (a0 := x0_at) hn h_x0_tapeSize h_x0_at (by grind)) ?_
  intro w4 hr1
  obtain ⟨h_w4, hx_w4⟩ : (0 ≤ w4) ∧ (x0_at ≤ w4 ∧ w4 ≤ x0_tapeSize) := hr1
  refine Sf.ite (fun hc2 => ?_) (fun hc2 => ?_)
  · exact Sf.ok (show (0 ≤ w4 ∧ w4 ≤ 250) ∧ ((0 ≤ w4 ∧ w4 ≤ x0_tapeSize) ∧ x0_at ≤ w4 ∧ (0 ≠ 3 ∨ x0_at < w4)) from ⟨(by grind), (by grind)⟩)
  · refine Sf.rdb 250 rfl (by grind) (fun v5 e_v5 => ?_)
    refine Sf.bind (sX7_isLetter ) ?_
    intro v6 hr3
    refine Sf.ite (fun hc4 => ?_) (fun hc4 => ?_)
    · refine Sf.rdb 250 rfl (by grind) (fun v8 e_v8 => ?_)
      have hs5 : v8 = v5 := e_v8.trans e_v5.symm
      clear e_v8
      refine Sf.bind (sX7_isDigit ) ?_
      intro v9 hr6
      refine Sf.ite (fun hc7 => ?_) (fun hc7 => ?_)
      · refine Sf.rdb 250 rfl (by grind) (fun v11 e_v11 => ?_)
        have hs8 : v11 = v5 := e_v11.trans e_v5.symm
        clear e_v11
        refine Sf.ite (fun hc9 => ?_) (fun hc9 => ?_)
        · unfold fX7_look_j254
          exact Sf.ok (show (0 ≤ w4 ∧ w4 ≤ 250) ∧ ((0 ≤ (w4 + 1) ∧ (w4 + 1) ≤ x0_tapeSize) ∧ x0_at ≤ (w4 + 1) ∧ (3 ≠ 3 ∨ x0_at < (w4 + 1))) from ⟨(by grind), (by grind)⟩)
        · unfold fX7_look_j254
          exact Sf.ok (show (0 ≤ w4 ∧ w4 ≤ 250) ∧ ((0 ≤ (w4 + 1) ∧ (w4 + 1) ≤ x0_tapeSize) ∧ x0_at ≤ (w4 + 1) ∧ (4 ≠ 3 ∨ x0_at < (w4 + 1))) from ⟨(by grind), (by grind)⟩)
      · refine Sf.bind (LX7_look_s149 (a0 := w4) hn h_x0_tapeSize (by grind) h_w4 (by grind)) ?_
        rintro ⟨w17, w18⟩ hr10
        obtain ⟨h_w17, hx_w17⟩ : (0 ≤ w17) ∧ (w4 ≤ w17 ∧ w17 ≤ x0_tapeSize) := hr10
        dsimp only [u2]
        exact Sf.ok (show (0 ≤ w4 ∧ w4 ≤ 250) ∧ ((0 ≤ w17 ∧ w17 ≤ x0_tapeSize) ∧ x0_at ≤ w17 ∧ (2 ≠ 3 ∨ x0_at < w17)) from ⟨(by grind), (by grind)⟩)
    · refine Sf.bind (LX7_look_s90 (a0 := w4) hn h_x0_tapeSize h_w4 (by grind)) ?_
      intro w27 hr11
      obtain ⟨h_w27, hx_w27⟩ : (0 ≤ w27) ∧ (w4 ≤ w27 ∧ w27 ≤ x0_tapeSize) := hr11
      exact Sf.ok (show (0 ≤ w4 ∧ w4 ≤ 250) ∧ ((0 ≤ w27 ∧ w27 ≤ x0_tapeSize) ∧ x0_at ≤ w27 ∧ (1 ≠ 3 ∨ x0_at < w27)) from ⟨(by grind), (by grind)⟩)
set_option maxHeartbeats 1000000 in
theorem sX7_wrong {x0_shelf x0_rowSort x0_rowSize : (Nat → Int32)} {x0_rows : (Nat → Nat → Int64)} {x0_moved : (Nat → Int64)} {x0_shown x0_tape : (Nat → Int32)} {x0_tapeSize : Int32} {x0_refused : (Nat → Int32)} {x0_lines : Int32} {x0_line : (Nat → Nat → Int32)} {x0_changes x0_coins : (Nat → Int32)} {x0_goods : Int32} {x0_good : (Nat → Nat → Int32)} {x0_works : Int32} {x0_work : (Nat → Nat → Int32)} {x0_years x0_gone x0_spent x0_at x0_token x0_from : Int32} {x0_figures : Int64} {x0_fault : Int32} {x0_numbers : (Nat → Int32)} {x0_statements : Int32} {x0_left x0_far : (Nat → Int32)} {x0_tons : Int32} {x0_way : (Nat → Int32)} {x0_steps : Int32} {x0_met : Int64} {x0_queue x0_totals : (Nat → Int32)}  (h_x0_shelf : (AI 0 2 x0_shelf)) (h_x0_rowSize : (AI 0 40 x0_rowSize)) (h_x0_tapeSize : (0 ≤ x0_tapeSize ∧ x0_tapeSize ≤ 250)) (h_x0_lines : (0 ≤ x0_lines ∧ x0_lines ≤ 20)) (h_x0_line : (LnM x0_line)) (h_x0_changes : (AI 0 99 x0_changes)) (h_x0_coins : (AI 0 9 x0_coins)) (h_x0_goods : (0 ≤ x0_goods ∧ x0_goods ≤ 8)) (h_x0_good : (GdM x0_good)) (h_x0_works : (0 ≤ x0_works ∧ x0_works ≤ 7)) (h_x0_work : (WkM x0_work)) (h_x0_years : (1 ≤ x0_years ∧ x0_years ≤ 30)) (h_x0_from : (0 ≤ x0_from ∧ x0_from ≤ 250)) (h_x0_far : (AI 0 1000000000 x0_far)) (h_x0_way : (AI 0 22 x0_way)) (h_x0_steps : (0 ≤ x0_steps ∧ x0_steps ≤ 37)) (h_x0_queue : (AI 0 35 x0_queue)) : Sf (fX7_wrong (x0_shelf, x0_rowSort, x0_rowSize, x0_rows, x0_moved, x0_shown, x0_tape, x0_tapeSize, x0_refused, x0_lines, x0_line, x0_changes, x0_coins, x0_goods, x0_good, x0_works, x0_work, x0_years, x0_gone, x0_spent, x0_at, x0_token, x0_from, x0_figures, x0_fault, x0_numbers, x0_statements, x0_left, x0_far, x0_tons, x0_way, x0_steps, x0_met, x0_queue, x0_totals)) (fun r => (0 ≤ r.1 ∧ r.1 ≤ 0)) := by
  unfold fX7_wrong
  dsimp only [u35]
  exact Sf.ok (show (0 ≤ 0 ∧ 0 ≤ 0) from (by decide))
end
section
theorem TX7_isWord_s28 {p1 : Nat} {x0_tape : Nat → Int32} {x0_from z3 L : Int32} (hL : slen p1 = some L) (hLb : 0 ≤ L ∧ L ≤ 6) (hc : ∀ z : Int32, 0 ≤ z → z < L → ∃ c, schar p1 z = some c) (hs : 0 ≤ x0_from ∧ x0_from ≤ 250) (hb : x0_from + L ≤ 250) (hz : 0 ≤ z3) : Sf (fX7_isWord_s28 p1 x0_tape x0_from z3) (LQ (fun e => 0 ≤ e) (fun e => muUp e) (muUp z3) (fun _ => True)) := by
  unfold fX7_isWord_s28
  rw [hL]
  refine Sf.someb (fun v5 e5 => ?_)
  subst e5
  refine Sf.ite (fun h => Sf.inr trivial) (fun h => ?_)
  have h1 : z3 < v5 := Int32.not_le.mp h
  have hi : 0 ≤ x0_from + z3 ∧ x0_from + z3 < 250 := by grind
  refine Sf.rdb 250 rfl hi (fun v6 _ => ?_)
  obtain ⟨c, ec⟩ := hc z3 hz h1
  rw [ec]
  refine Sf.someb (fun v7 _ => ?_)
  refine Sf.ite (fun _ => Sf.inl (show 0 ≤ z3 + 1 by grind) (muUp_lt h)) (fun _ => Sf.inr trivial)
theorem sX7_isWord {n : Nat} {x0_shelf x0_rowSort x0_rowSize : (Nat → Int32)} {x0_rows : (Nat → Nat → Int64)} {x0_moved : (Nat → Int64)} {x0_shown x0_tape : (Nat → Int32)} {x0_tapeSize : Int32} {x0_refused : (Nat → Int32)} {x0_lines : Int32} {x0_line : (Nat → Nat → Int32)} {x0_changes x0_coins : (Nat → Int32)} {x0_goods : Int32} {x0_good : (Nat → Nat → Int32)} {x0_works : Int32} {x0_work : (Nat → Nat → Int32)} {x0_years x0_gone x0_spent x0_at x0_token x0_from : Int32} {x0_figures : Int64} {x0_fault : Int32} {x0_numbers : (Nat → Int32)} {x0_statements : Int32} {x0_left x0_far : (Nat → Int32)} {x0_tons : Int32} {x0_way : (Nat → Int32)} {x0_steps : Int32} {x0_met : Int64} {x0_queue x0_totals : (Nat → Int32)} {p1 : Nat} (hn : 1000000000000 ≤ n) (h_x0_at : (0 ≤ x0_at ∧ x0_at ≤ 250)) (h_x0_from : (0 ≤ x0_from ∧ x0_from ≤ 250)) (he_0 : p1 < 20) : Sf (fX7_isWord n (x0_shelf, x0_rowSort, x0_rowSize, x0_rows, x0_moved, x0_shown, x0_tape, x0_tapeSize, x0_refused, x0_lines, x0_line, x0_changes, x0_coins, x0_goods, x0_good, x0_works, x0_work, x0_years, x0_gone, x0_spent, x0_at, x0_token, x0_from, x0_figures, x0_fault, x0_numbers, x0_statements, x0_left, x0_far, x0_tons, x0_way, x0_steps, x0_met, x0_queue, x0_totals) p1) (fun r => (0 ≤ r ∧ r ≤ 1) ∧ (r = 0 ∨ x0_token = 1)) := by
  unfold fX7_isWord
  dsimp only [u35]
  have m0 : ((0 : Int32) ≤ 0 ∧ (0 : Int32) ≤ 1) ∧ ((0 : Int32) = 0 ∨ x0_token = 1) := ⟨by decide, Or.inl rfl⟩
  refine Sf.ite (fun ht => ?_) (fun _ => Sf.ok m0)
  have m1 : ((0 : Int32) ≤ 1 ∧ (1 : Int32) ≤ 1) ∧ ((1 : Int32) = 0 ∨ x0_token = 1) := ⟨by decide, Or.inr ht⟩
  obtain ⟨L, eL, hL, hc⟩ := slen_ok he_0
  rw [eL]
  refine Sf.someb (fun v1 e1 => ?_)
  subst e1
  refine Sf.ite (fun h => ?_) (fun _ => Sf.ok m0)
  have hb : x0_from + v1 ≤ 250 := by grind
  refine Sf.bind (Sf.loop (Q := fun _ => True) (fun e => 0 ≤ e) (fun e => muUp e) (fun e he => TX7_isWord_s28 eL hL hc h_x0_from hb he) n 0 (by decide) (muUp_n hn)) (fun r _ => ?_)
  cases r with
  | inl a => exact Sf.ok m0
  | inr a => exact Sf.ok m1
end
section
def wkC : Nat → Int32 := fun k => ([5, 99, 99, 9999, 1] : List Int32).getD k 0
theorem wkC_le : ∀ k : Nat, wkB k ≤ wkC k := by
  intro k
  match k with
  | 0 => decide
  | 1 => decide
  | 2 => decide
  | 3 => decide
  | 4 => decide
  | k + 5 => exact Int32.le_refl _
theorem wkC_of {f : Nat → Int32} (h : RI wkB f) : RI wkC f := fun c => ⟨(h c).1, Int32.le_trans (h c).2 (wkC_le c)⟩
theorem s_in64 {a b c : Int64} : Sf (fX7_in a b c) (fun r => (r = 1 ∧ b ≤ a ∧ a ≤ c) ∨ (r = 0 ∧ (a < b ∨ c < a))) := by
  unfold fX7_in
  simp only [lgc_lt, lgc_gt]
  refine Sf.ite (fun h => Sf.ok (Or.inr ⟨rfl, Or.inl h⟩)) (fun h => Sf.ite (fun h2 => Sf.ok (Or.inr ⟨rfl, Or.inr h2⟩)) (fun h2 => Sf.ok (Or.inl ⟨rfl, Int64.not_lt.mp h, Int64.not_lt.mp h2⟩)))
theorem i64_rng {x : Int64} {a b : Int32} (h0 : a.toInt64 ≤ x) (h1 : x ≤ b.toInt64) : a ≤ x.toInt32 ∧ x.toInt32 ≤ b := by
  have p := Int64.le_iff_toInt_le.mp h0
  have q := Int64.le_iff_toInt_le.mp h1
  rw [Int32.toInt_toInt64] at p q
  have hb : b.toInt < 2147483648 := Int32.toInt_lt b
  have ha : -2147483648 ≤ a.toInt := Int32.le_toInt a
  have e : x.toInt32.toInt = x.toInt := by
    rw [Int64.toInt_toInt32]
    exact bm (by omega) (by omega)
  exact ⟨Int32.le_iff_toInt_le.mpr (by rw [e]; exact p), Int32.le_iff_toInt_le.mpr (by rw [e]; exact q)⟩
theorem sX7_number {n : Nat} {x0_shelf x0_rowSort x0_rowSize : (Nat → Int32)} {x0_rows : (Nat → Nat → Int64)} {x0_moved : (Nat → Int64)} {x0_shown x0_tape : (Nat → Int32)} {x0_tapeSize : Int32} {x0_refused : (Nat → Int32)} {x0_lines : Int32} {x0_line : (Nat → Nat → Int32)} {x0_changes x0_coins : (Nat → Int32)} {x0_goods : Int32} {x0_good : (Nat → Nat → Int32)} {x0_works : Int32} {x0_work : (Nat → Nat → Int32)} {x0_years x0_gone x0_spent x0_at x0_token x0_from : Int32} {x0_figures : Int64} {x0_fault : Int32} {x0_numbers : (Nat → Int32)} {x0_statements : Int32} {x0_left x0_far : (Nat → Int32)} {x0_tons : Int32} {x0_way : (Nat → Int32)} {x0_steps : Int32} {x0_met : Int64} {x0_queue x0_totals : (Nat → Int32)} {m1 : Nat} {p1 : (Nat → Int32)} {p2 p3 p4 : Int32} (hn : 1000000000000 ≤ n) {M : Int32} {B : Nat → Int32} (h_x0_shelf : (AI 0 2 x0_shelf)) (h_x0_rowSize : (AI 0 40 x0_rowSize)) (h_x0_tapeSize : (0 ≤ x0_tapeSize ∧ x0_tapeSize ≤ 250)) (h_x0_lines : (0 ≤ x0_lines ∧ x0_lines ≤ 20)) (h_x0_line : (LnM x0_line)) (h_x0_changes : (AI 0 99 x0_changes)) (h_x0_coins : (AI 0 9 x0_coins)) (h_x0_goods : (0 ≤ x0_goods ∧ x0_goods ≤ 8)) (h_x0_good : (GdM x0_good)) (h_x0_works : (0 ≤ x0_works ∧ x0_works ≤ 7)) (h_x0_work : (WkM x0_work)) (h_x0_years : (1 ≤ x0_years ∧ x0_years ≤ 30)) (h_x0_at : (0 ≤ x0_at)) (h_x0_from : (0 ≤ x0_from ∧ x0_from ≤ 250)) (h_x0_far : (AI 0 1000000000 x0_far)) (h_x0_way : (AI 0 22 x0_way)) (h_x0_steps : (0 ≤ x0_steps ∧ x0_steps ≤ 37)) (h_x0_queue : (AI 0 35 x0_queue)) (h_p1 : (RI B p1)) (he_0 : M.toInt = (m1 : Int)) (he_1 : 0 ≤ p2 ∧ p2 < M) (he_2 : 0 ≤ p3 ∧ p4 ≤ B p2.toNatClampNeg) (he_3 : x0_at ≤ x0_tapeSize) : Sf (fX7_number n (x0_shelf, x0_rowSort, x0_rowSize, x0_rows, x0_moved, x0_shown, x0_tape, x0_tapeSize, x0_refused, x0_lines, x0_line, x0_changes, x0_coins, x0_goods, x0_good, x0_works, x0_work, x0_years, x0_gone, x0_spent, x0_at, x0_token, x0_from, x0_figures, x0_fault, x0_numbers, x0_statements, x0_left, x0_far, x0_tons, x0_way, x0_steps, x0_met, x0_queue, x0_totals) m1 p1 p2 p3 p4) (fun r => (0 ≤ r.2.1.2.2.1 ∧ r.2.1.2.2.1 ≤ 250) ∧ (RI B r.2.2) ∧ ((r.1 = 0 ∨ r.1 = 1) ∧ (0 ≤ r.2.1.1 ∧ r.2.1.1 ≤ x0_tapeSize) ∧ x0_at ≤ r.2.1.1 ∧ (r.1 = 0 ∨ r.2.1.2.1 ≠ 3 ∨ x0_at < r.2.1.1) ∧ (r.1 = 0 ∨ r.2.2 = va_up p1 (p2 : Int32).toNatClampNeg x0_figures.toInt32) ∧ (r.1 = 1 ∨ x0_token ≠ 2 ∨ x0_figures < (p3 : Int32).toInt64 ∨ (p4 : Int32).toInt64 < x0_figures))) := by
  unfold fX7_number
  dsimp only [u35]
  have bad : ∀ v : Int32, v = 0 → (x0_token ≠ 2 ∨ x0_figures < p3.toInt64 ∨ p4.toInt64 < x0_figures) → Sf ((zb v).bind fun v16 => some (v16, (x0_at, x0_token, x0_from, x0_figures, x0_from), p1)) (fun r => (0 ≤ r.2.1.2.2.1 ∧ r.2.1.2.2.1 ≤ 250) ∧ (RI B r.2.2) ∧ ((r.1 = 0 ∨ r.1 = 1) ∧ (0 ≤ r.2.1.1 ∧ r.2.1.1 ≤ x0_tapeSize) ∧ x0_at ≤ r.2.1.1 ∧ (r.1 = 0 ∨ r.2.1.2.1 ≠ 3 ∨ x0_at < r.2.1.1) ∧ (r.1 = 0 ∨ r.2.2 = va_up p1 p2.toNatClampNeg x0_figures.toInt32) ∧ (r.1 = 1 ∨ x0_token ≠ 2 ∨ x0_figures < p3.toInt64 ∨ p4.toInt64 < x0_figures))) := by
    intro v hv hq
    refine Sf.zbb (Or.inl hv) (fun r hr => ?_)
    subst hr
    exact Sf.ok ⟨h_x0_from, h_p1, Or.inl hv, ⟨h_x0_at, he_3⟩, Int32.le_refl _, Or.inl hv, Or.inl hv, Or.inr hq⟩
  refine Sf.ite (fun ht => ?_) (fun ht => ?_)
  · refine Sf.bind s_in64 (fun v5 h5 => ?_)
    refine Sf.ite (fun h0 => ?_) (fun h0 => ?_)
    · unfold fX7_wrong
      dsimp only [u35]
      refine bad 0 rfl (Or.inr ?_)
      rcases h5 with h5 | h5
      · rw [h0] at h5; exact absurd h5.1 (by decide)
      · exact h5.2
    · have h6 : p3.toInt64 ≤ x0_figures ∧ x0_figures ≤ p4.toInt64 := by
        rcases h5 with h5 | h5
        · exact h5.2
        · exact absurd h5.1 h0
      have h7 := i64_rng h6.1 h6.2
      refine Sf.wrb M he_0 he_1 (fun f7 e7 => ?_)
      have hf7 : RI B f7 := by
        rw [e7]
        exact RI.up h_p1 ⟨Int32.le_trans he_2.1 h7.1, Int32.le_trans h7.2 he_2.2⟩
      refine Sf.bind (sX7_look hn h_x0_shelf h_x0_rowSize h_x0_tapeSize h_x0_lines h_x0_line h_x0_changes h_x0_coins h_x0_goods h_x0_good h_x0_works h_x0_work h_x0_years h_x0_at h_x0_from h_x0_far h_x0_way h_x0_steps h_x0_queue he_3) ?_
      rintro ⟨g8, g9, g10, g11⟩ hr
      obtain ⟨hg10, hg8⟩ : (0 ≤ g10 ∧ g10 ≤ 250) ∧ ((0 ≤ g8 ∧ g8 ≤ x0_tapeSize) ∧ x0_at ≤ g8 ∧ (g9 ≠ 3 ∨ x0_at < g8)) := hr
      exact Sf.ok ⟨hg10, hf7, Or.inr rfl, hg8.1, hg8.2.1, Or.inr hg8.2.2, Or.inr e7, Or.inl rfl⟩
  · unfold fX7_wrong
    dsimp only [u35]
    exact bad 0 rfl (Or.inl ht)
set_option maxHeartbeats 1000000 in
theorem sX7_told {n : Nat} {x0_shelf x0_rowSort x0_rowSize : (Nat → Int32)} {x0_rows : (Nat → Nat → Int64)} {x0_moved : (Nat → Int64)} {x0_shown x0_tape : (Nat → Int32)} {x0_tapeSize : Int32} {x0_refused : (Nat → Int32)} {x0_lines : Int32} {x0_line : (Nat → Nat → Int32)} {x0_changes x0_coins : (Nat → Int32)} {x0_goods : Int32} {x0_good : (Nat → Nat → Int32)} {x0_works : Int32} {x0_work : (Nat → Nat → Int32)} {x0_years x0_gone x0_spent x0_at x0_token x0_from : Int32} {x0_figures : Int64} {x0_fault : Int32} {x0_numbers : (Nat → Int32)} {x0_statements : Int32} {x0_left x0_far : (Nat → Int32)} {x0_tons : Int32} {x0_way : (Nat → Int32)} {x0_steps : Int32} {x0_met : Int64} {x0_queue x0_totals : (Nat → Int32)} {p1 m2 : Nat} {p2 : (Nat → Int32)} {p3 p4 p5 : Int32} (hn : 1000000000000 ≤ n) {M : Int32} {B : Nat → Int32} (h_x0_shelf : (AI 0 2 x0_shelf)) (h_x0_rowSize : (AI 0 40 x0_rowSize)) (h_x0_tapeSize : (0 ≤ x0_tapeSize ∧ x0_tapeSize ≤ 250)) (h_x0_lines : (0 ≤ x0_lines ∧ x0_lines ≤ 20)) (h_x0_line : (LnM x0_line)) (h_x0_changes : (AI 0 99 x0_changes)) (h_x0_coins : (AI 0 9 x0_coins)) (h_x0_goods : (0 ≤ x0_goods ∧ x0_goods ≤ 8)) (h_x0_good : (GdM x0_good)) (h_x0_works : (0 ≤ x0_works ∧ x0_works ≤ 7)) (h_x0_work : (WkM x0_work)) (h_x0_years : (1 ≤ x0_years ∧ x0_years ≤ 30)) (h_x0_at : (0 ≤ x0_at)) (h_x0_from : (0 ≤ x0_from ∧ x0_from ≤ 250)) (h_x0_far : (AI 0 1000000000 x0_far)) (h_x0_way : (AI 0 22 x0_way)) (h_x0_steps : (0 ≤ x0_steps ∧ x0_steps ≤ 37)) (h_x0_queue : (AI 0 35 x0_queue)) (h_p2 : (RI B p2)) (he_0 : M.toInt = (m2 : Int)) (he_1 : 0 ≤ p3 ∧ p3 < M) (he_2 : 0 ≤ p4 ∧ p5 ≤ B p3.toNatClampNeg) (he_3 : x0_at ≤ x0_tapeSize) (he_4 : p1 < 20) : Sf (fX7_told n (x0_shelf, x0_rowSort, x0_rowSize, x0_rows, x0_moved, x0_shown, x0_tape, x0_tapeSize, x0_refused, x0_lines, x0_line, x0_changes, x0_coins, x0_goods, x0_good, x0_works, x0_work, x0_years, x0_gone, x0_spent, x0_at, x0_token, x0_from, x0_figures, x0_fault, x0_numbers, x0_statements, x0_left, x0_far, x0_tons, x0_way, x0_steps, x0_met, x0_queue, x0_totals) p1 m2 p2 p3 p4 p5) (fun r => (0 ≤ r.2.1.2.2.1 ∧ r.2.1.2.2.1 ≤ 250) ∧ (RI B r.2.2) ∧ ((r.1 = 0 ∨ r.1 = 1) ∧ (0 ≤ r.2.1.1 ∧ r.2.1.1 ≤ x0_tapeSize) ∧ x0_at ≤ r.2.1.1 ∧ (r.1 = 0 ∨ r.2.1.2.1 ≠ 3 ∨ x0_at < r.2.1.1) ∧ (r.1 = 0 ∨ x0_token = 1))) := by
  unfold fX7_told
  dsimp only [u35]
  refine Sf.bind (sX7_isWord hn (by grind) h_x0_from (by first | assumption | decide)) ?_
  intro v1 hr1
  obtain ⟨h_v1, hx_v1⟩ : (0 ≤ v1 ∧ v1 ≤ 1) ∧ (v1 = 0 ∨ x0_token = 1) := hr1
  refine Sf.ite (fun hc2 => ?_) (fun hc2 => ?_)
  · refine Sf.bind (sX7_wrong h_x0_shelf h_x0_rowSize h_x0_tapeSize h_x0_lines h_x0_line h_x0_changes h_x0_coins h_x0_goods h_x0_good h_x0_works h_x0_work h_x0_years h_x0_from h_x0_far h_x0_way h_x0_steps h_x0_queue) ?_
    rintro ⟨v18, g19⟩ hr3
    have h_v18 : (0 ≤ v18 ∧ v18 ≤ 0) := hr3
    dsimp only [u2]
    refine Sf.zbb (by grind) (fun v21 e_v21 => ?_)
    exact Sf.ok (show (0 ≤ x0_from ∧ x0_from ≤ 250) ∧ (RI B p2) ∧ ((v21 = 0 ∨ v21 = 1) ∧ (0 ≤ x0_at ∧ x0_at ≤ x0_tapeSize) ∧ x0_at ≤ x0_at ∧ (v21 = 0 ∨ x0_token ≠ 3 ∨ x0_at < x0_at) ∧ (v21 = 0 ∨ x0_token = 1)) from ⟨h_x0_from, h_p2, (by grind)⟩)
  · refine Sf.bind (sX7_look hn h_x0_shelf h_x0_rowSize h_x0_tapeSize h_x0_lines h_x0_line h_x0_changes h_x0_coins h_x0_goods h_x0_good h_x0_works h_x0_work h_x0_years h_x0_at h_x0_from h_x0_far h_x0_way h_x0_steps h_x0_queue (by grind)) ?_
    rintro ⟨g3, g4, g5, g6⟩ hr4
    obtain ⟨h_g5, hx_g3⟩ : (0 ≤ g5 ∧ g5 ≤ 250) ∧ ((0 ≤ g3 ∧ g3 ≤ x0_tapeSize) ∧ x0_at ≤ g3 ∧ (g4 ≠ 3 ∨ x0_at < g3)) := hr4
    dsimp only [u4]
    refine Sf.bind (sX7_number (M := M) (B := B) hn h_x0_shelf h_x0_rowSize h_x0_tapeSize h_x0_lines h_x0_line h_x0_changes h_x0_coins h_x0_goods h_x0_good h_x0_works h_x0_work h_x0_years (by grind) h_g5 h_x0_far h_x0_way h_x0_steps h_x0_queue h_p2 (by first | assumption | rfl | decide | grind) (by first | assumption | rfl | decide | grind) (by first | assumption | rfl | decide | grind) (by first | assumption | rfl | decide | grind)) ?_
    rintro ⟨v8, ⟨g10, g11, g12, g13, g14⟩, g15⟩ hr5
    obtain ⟨h_g12, h_g15, hx_v8⟩ : (0 ≤ g12 ∧ g12 ≤ 250) ∧ (RI B g15) ∧ ((v8 = 0 ∨ v8 = 1) ∧ (0 ≤ g10 ∧ g10 ≤ x0_tapeSize) ∧ g3 ≤ g10 ∧ (v8 = 0 ∨ g11 ≠ 3 ∨ g3 < g10) ∧ (v8 = 0 ∨ g15 = va_up p2 (p3 : Int32).toNatClampNeg g6.toInt32) ∧ (v8 = 1 ∨ g4 ≠ 2 ∨ g6 < (p4 : Int32).toInt64 ∨ (p5 : Int32).toInt64 < g6)) := hr5
    dsimp only [u3, u5]
    refine Sf.zbb (by grind) (fun v17 e_v17 => ?_)
    exact Sf.ok (show (0 ≤ g12 ∧ g12 ≤ 250) ∧ (RI B g15) ∧ ((v17 = 0 ∨ v17 = 1) ∧ (0 ≤ g10 ∧ g10 ≤ x0_tapeSize) ∧ x0_at ≤ g10 ∧ (v17 = 0 ∨ g11 ≠ 3 ∨ x0_at < g10) ∧ (v17 = 0 ∨ x0_token = 1)) from ⟨h_g12, h_g15, (by grind)⟩)
set_option maxHeartbeats 1000000 in
theorem sX7_perhaps {n : Nat} {x0_shelf x0_rowSort x0_rowSize : (Nat → Int32)} {x0_rows : (Nat → Nat → Int64)} {x0_moved : (Nat → Int64)} {x0_shown x0_tape : (Nat → Int32)} {x0_tapeSize : Int32} {x0_refused : (Nat → Int32)} {x0_lines : Int32} {x0_line : (Nat → Nat → Int32)} {x0_changes x0_coins : (Nat → Int32)} {x0_goods : Int32} {x0_good : (Nat → Nat → Int32)} {x0_works : Int32} {x0_work : (Nat → Nat → Int32)} {x0_years x0_gone x0_spent x0_at x0_token x0_from : Int32} {x0_figures : Int64} {x0_fault : Int32} {x0_numbers : (Nat → Int32)} {x0_statements : Int32} {x0_left x0_far : (Nat → Int32)} {x0_tons : Int32} {x0_way : (Nat → Int32)} {x0_steps : Int32} {x0_met : Int64} {x0_queue x0_totals : (Nat → Int32)} {p1 m2 : Nat} {p2 : (Nat → Int32)} {p3 p4 p5 : Int32} (hn : 1000000000000 ≤ n) {M : Int32} {B : Nat → Int32} (h_x0_shelf : (AI 0 2 x0_shelf)) (h_x0_rowSize : (AI 0 40 x0_rowSize)) (h_x0_tapeSize : (0 ≤ x0_tapeSize ∧ x0_tapeSize ≤ 250)) (h_x0_lines : (0 ≤ x0_lines ∧ x0_lines ≤ 20)) (h_x0_line : (LnM x0_line)) (h_x0_changes : (AI 0 99 x0_changes)) (h_x0_coins : (AI 0 9 x0_coins)) (h_x0_goods : (0 ≤ x0_goods ∧ x0_goods ≤ 8)) (h_x0_good : (GdM x0_good)) (h_x0_works : (0 ≤ x0_works ∧ x0_works ≤ 7)) (h_x0_work : (WkM x0_work)) (h_x0_years : (1 ≤ x0_years ∧ x0_years ≤ 30)) (h_x0_at : (0 ≤ x0_at)) (h_x0_from : (0 ≤ x0_from ∧ x0_from ≤ 250)) (h_x0_far : (AI 0 1000000000 x0_far)) (h_x0_way : (AI 0 22 x0_way)) (h_x0_steps : (0 ≤ x0_steps ∧ x0_steps ≤ 37)) (h_x0_queue : (AI 0 35 x0_queue)) (h_p2 : (RI B p2)) (he_0 : M.toInt = (m2 : Int)) (he_1 : 0 ≤ p3 ∧ p3 < M) (he_2 : 0 ≤ p4 ∧ p5 ≤ B p3.toNatClampNeg) (he_3 : x0_at ≤ x0_tapeSize) (he_4 : p1 < 20) : Sf (fX7_perhaps n (x0_shelf, x0_rowSort, x0_rowSize, x0_rows, x0_moved, x0_shown, x0_tape, x0_tapeSize, x0_refused, x0_lines, x0_line, x0_changes, x0_coins, x0_goods, x0_good, x0_works, x0_work, x0_years, x0_gone, x0_spent, x0_at, x0_token, x0_from, x0_figures, x0_fault, x0_numbers, x0_statements, x0_left, x0_far, x0_tons, x0_way, x0_steps, x0_met, x0_queue, x0_totals) p1 m2 p2 p3 p4 p5) (fun r => (0 ≤ r.2.1.2.2.1 ∧ r.2.1.2.2.1 ≤ 250) ∧ (RI B r.2.2) ∧ ((r.1 = 0 ∨ r.1 = 1) ∧ (0 ≤ r.2.1.1 ∧ r.2.1.1 ≤ x0_tapeSize) ∧ x0_at ≤ r.2.1.1 ∧ (r.1 = 0 ∨ (r.2.1.1 = x0_at ∧ r.2.1.2.1 = x0_token) ∨ r.2.1.2.1 ≠ 3 ∨ x0_at < r.2.1.1))) := by
  unfold fX7_perhaps
  dsimp only [u35]
  refine Sf.bind (sX7_isWord hn (by grind) h_x0_from (by first | assumption | decide)) ?_
  intro v1 hr1
  obtain ⟨h_v1, hx_v1⟩ : (0 ≤ v1 ∧ v1 ≤ 1) ∧ (v1 = 0 ∨ x0_token = 1) := hr1
  refine Sf.ite (fun hc2 => ?_) (fun hc2 => ?_)
  · exact Sf.ok (show (0 ≤ x0_from ∧ x0_from ≤ 250) ∧ (RI B p2) ∧ ((1 = 0 ∨ 1 = 1) ∧ (0 ≤ x0_at ∧ x0_at ≤ x0_tapeSize) ∧ x0_at ≤ x0_at ∧ (1 = 0 ∨ (x0_at = x0_at ∧ x0_token = x0_token) ∨ x0_token ≠ 3 ∨ x0_at < x0_at)) from ⟨h_x0_from, h_p2, (by grind)⟩)
  · refine Sf.bind (sX7_told (M := M) (B := B) hn h_x0_shelf h_x0_rowSize h_x0_tapeSize h_x0_lines h_x0_line h_x0_changes h_x0_coins h_x0_goods h_x0_good h_x0_works h_x0_work h_x0_years h_x0_at h_x0_from h_x0_far h_x0_way h_x0_steps h_x0_queue h_p2 (by first | assumption | rfl | decide | grind) (by first | assumption | rfl | decide | grind) (by first | assumption | rfl | decide | grind) (by first | assumption | rfl | decide | grind) (by first | assumption | rfl | decide | grind)) ?_
    rintro ⟨v3, ⟨g5, g6, g7, g8, g9⟩, g10⟩ hr3
    obtain ⟨h_g7, h_g10, hx_v3⟩ : (0 ≤ g7 ∧ g7 ≤ 250) ∧ (RI B g10) ∧ ((v3 = 0 ∨ v3 = 1) ∧ (0 ≤ g5 ∧ g5 ≤ x0_tapeSize) ∧ x0_at ≤ g5 ∧ (v3 = 0 ∨ g6 ≠ 3 ∨ x0_at < g5) ∧ (v3 = 0 ∨ x0_token = 1)) := hr3
    dsimp only [u3, u5]
    refine Sf.ite (fun hc4 => ?_) (fun hc4 => ?_)
    · exact Sf.ok (show (0 ≤ g7 ∧ g7 ≤ 250) ∧ (RI B g10) ∧ ((0 = 0 ∨ 0 = 1) ∧ (0 ≤ g5 ∧ g5 ≤ x0_tapeSize) ∧ x0_at ≤ g5 ∧ (0 = 0 ∨ (g5 = x0_at ∧ g6 = x0_token) ∨ g6 ≠ 3 ∨ x0_at < g5)) from ⟨h_g7, h_g10, (by grind)⟩)
    · exact Sf.ok (show (0 ≤ g7 ∧ g7 ≤ 250) ∧ (RI B g10) ∧ ((1 = 0 ∨ 1 = 1) ∧ (0 ≤ g5 ∧ g5 ≤ x0_tapeSize) ∧ x0_at ≤ g5 ∧ (1 = 0 ∨ (g5 = x0_at ∧ g6 = x0_token) ∨ g6 ≠ 3 ∨ x0_at < g5)) from ⟨h_g7, h_g10, (by grind)⟩)
set_option maxHeartbeats 1000000 in
theorem sX7_two {n : Nat} {x0_shelf x0_rowSort x0_rowSize : (Nat → Int32)} {x0_rows : (Nat → Nat → Int64)} {x0_moved : (Nat → Int64)} {x0_shown x0_tape : (Nat → Int32)} {x0_tapeSize : Int32} {x0_refused : (Nat → Int32)} {x0_lines : Int32} {x0_line : (Nat → Nat → Int32)} {x0_changes x0_coins : (Nat → Int32)} {x0_goods : Int32} {x0_good : (Nat → Nat → Int32)} {x0_works : Int32} {x0_work : (Nat → Nat → Int32)} {x0_years x0_gone x0_spent x0_at x0_token x0_from : Int32} {x0_figures : Int64} {x0_fault : Int32} {x0_numbers : (Nat → Int32)} {x0_statements : Int32} {x0_left x0_far : (Nat → Int32)} {x0_tons : Int32} {x0_way : (Nat → Int32)} {x0_steps : Int32} {x0_met : Int64} {x0_queue x0_totals : (Nat → Int32)} {m1 : Nat} {p1 : (Nat → Int32)} (hn : 1000000000000 ≤ n) {M : Int32} {B : Nat → Int32} (h_x0_shelf : (AI 0 2 x0_shelf)) (h_x0_rowSize : (AI 0 40 x0_rowSize)) (h_x0_tapeSize : (0 ≤ x0_tapeSize ∧ x0_tapeSize ≤ 250)) (h_x0_lines : (0 ≤ x0_lines ∧ x0_lines ≤ 20)) (h_x0_line : (LnM x0_line)) (h_x0_changes : (AI 0 99 x0_changes)) (h_x0_coins : (AI 0 9 x0_coins)) (h_x0_goods : (0 ≤ x0_goods ∧ x0_goods ≤ 8)) (h_x0_good : (GdM x0_good)) (h_x0_works : (0 ≤ x0_works ∧ x0_works ≤ 7)) (h_x0_work : (WkM x0_work)) (h_x0_years : (1 ≤ x0_years ∧ x0_years ≤ 30)) (h_x0_at : (0 ≤ x0_at)) (h_x0_from : (0 ≤ x0_from ∧ x0_from ≤ 250)) (h_x0_far : (AI 0 1000000000 x0_far)) (h_x0_way : (AI 0 22 x0_way)) (h_x0_steps : (0 ≤ x0_steps ∧ x0_steps ≤ 37)) (h_x0_queue : (AI 0 35 x0_queue)) (h_p1 : (RI B p1)) (he_0 : M.toInt = (m1 : Int)) (he_1 : 1 < M) (he_2 : 11 ≤ B 0 ∧ 11 ≤ B 1) (he_3 : x0_at ≤ x0_tapeSize) : Sf (fX7_two n (x0_shelf, x0_rowSort, x0_rowSize, x0_rows, x0_moved, x0_shown, x0_tape, x0_tapeSize, x0_refused, x0_lines, x0_line, x0_changes, x0_coins, x0_goods, x0_good, x0_works, x0_work, x0_years, x0_gone, x0_spent, x0_at, x0_token, x0_from, x0_figures, x0_fault, x0_numbers, x0_statements, x0_left, x0_far, x0_tons, x0_way, x0_steps, x0_met, x0_queue, x0_totals) m1 p1) (fun r => (0 ≤ r.2.1.2.2.1 ∧ r.2.1.2.2.1 ≤ 250) ∧ (RI B r.2.2) ∧ ((r.1 = 0 ∨ r.1 = 1) ∧ (0 ≤ r.2.1.1 ∧ r.2.1.1 ≤ x0_tapeSize) ∧ x0_at ≤ r.2.1.1 ∧ (r.1 = 0 ∨ r.2.1.2.1 ≠ 3 ∨ x0_at < r.2.1.1))) := by
  unfold fX7_two
  dsimp only [u35]
  refine Sf.bind (sX7_look hn h_x0_shelf h_x0_rowSize h_x0_tapeSize h_x0_lines h_x0_line h_x0_changes h_x0_coins h_x0_goods h_x0_good h_x0_works h_x0_work h_x0_years h_x0_at h_x0_from h_x0_far h_x0_way h_x0_steps h_x0_queue (by grind)) ?_
  rintro ⟨g1, g2, g3, g4⟩ hr1
  obtain ⟨h_g3, hx_g1⟩ : (0 ≤ g3 ∧ g3 ≤ 250) ∧ ((0 ≤ g1 ∧ g1 ≤ x0_tapeSize) ∧ x0_at ≤ g1 ∧ (g2 ≠ 3 ∨ x0_at < g1)) := hr1
  dsimp only [u4]
  refine Sf.bind (sX7_number (M := M) (B := B) hn h_x0_shelf h_x0_rowSize h_x0_tapeSize h_x0_lines h_x0_line h_x0_changes h_x0_coins h_x0_goods h_x0_good h_x0_works h_x0_work h_x0_years (by grind) h_g3 h_x0_far h_x0_way h_x0_steps h_x0_queue h_p1 (by first | assumption | rfl | decide | grind) (by first | assumption | rfl | decide | grind) (by first | assumption | rfl | decide | grind) (by first | assumption | rfl | decide | grind)) ?_
  rintro ⟨v6, ⟨g8, g9, g10, g11, g12⟩, g13⟩ hr2
  obtain ⟨h_g10, h_g13, hx_v6⟩ : (0 ≤ g10 ∧ g10 ≤ 250) ∧ (RI B g13) ∧ ((v6 = 0 ∨ v6 = 1) ∧ (0 ≤ g8 ∧ g8 ≤ x0_tapeSize) ∧ g1 ≤ g8 ∧ (v6 = 0 ∨ g9 ≠ 3 ∨ g1 < g8) ∧ (v6 = 0 ∨ g13 = va_up p1 (0 : Int32).toNatClampNeg g4.toInt32) ∧ (v6 = 1 ∨ g2 ≠ 2 ∨ g4 < (0 : Int32).toInt64 ∨ (11 : Int32).toInt64 < g4)) := hr2
  dsimp only [u3, u5]
  refine Sf.ite (fun hc3 => ?_) (fun hc3 => ?_)
  · exact Sf.ok (show (0 ≤ g10 ∧ g10 ≤ 250) ∧ (RI B g13) ∧ ((0 = 0 ∨ 0 = 1) ∧ (0 ≤ g8 ∧ g8 ≤ x0_tapeSize) ∧ x0_at ≤ g8 ∧ (0 = 0 ∨ g9 ≠ 3 ∨ x0_at < g8)) from ⟨h_g10, h_g13, (by grind)⟩)
  · refine Sf.ite (fun hc4 => ?_) (fun hc4 => ?_)
    · refine Sf.rdb M he_0 (by grind) (fun v25 e_v25 => ?_)
      clear e_v25
      refine Sf.ite (fun hc5 => ?_) (fun hc5 => ?_)
      · refine Sf.bind (sX7_wrong h_x0_shelf h_x0_rowSize h_x0_tapeSize h_x0_lines h_x0_line h_x0_changes h_x0_coins h_x0_goods h_x0_good h_x0_works h_x0_work h_x0_years h_g10 h_x0_far h_x0_way h_x0_steps h_x0_queue) ?_
        rintro ⟨v26, g27⟩ hr6
        have h_v26 : (0 ≤ v26 ∧ v26 ≤ 0) := hr6
        dsimp only [u2]
        refine Sf.zbb (by grind) (fun v29 e_v29 => ?_)
        exact Sf.ok (show (0 ≤ g10 ∧ g10 ≤ 250) ∧ (RI B g13) ∧ ((v29 = 0 ∨ v29 = 1) ∧ (0 ≤ g8 ∧ g8 ≤ x0_tapeSize) ∧ x0_at ≤ g8 ∧ (v29 = 0 ∨ g9 ≠ 3 ∨ x0_at < g8)) from ⟨h_g10, h_g13, (by grind)⟩)
      · unfold fX7_two_j43
        refine Sf.bind (sX7_number (M := M) (B := B) hn h_x0_shelf h_x0_rowSize h_x0_tapeSize h_x0_lines h_x0_line h_x0_changes h_x0_coins h_x0_goods h_x0_good h_x0_works h_x0_work h_x0_years (by grind) h_g10 h_x0_far h_x0_way h_x0_steps h_x0_queue h_g13 (by first | assumption | rfl | decide | grind) (by first | assumption | rfl | decide | grind) (by first | assumption | rfl | decide | grind) (by first | assumption | rfl | decide | grind)) ?_
        rintro ⟨v15, ⟨g17, g18, g19, g20, g21⟩, g22⟩ hr7
        obtain ⟨h_g19, h_g22, hx_v15⟩ : (0 ≤ g19 ∧ g19 ≤ 250) ∧ (RI B g22) ∧ ((v15 = 0 ∨ v15 = 1) ∧ (0 ≤ g17 ∧ g17 ≤ x0_tapeSize) ∧ g8 ≤ g17 ∧ (v15 = 0 ∨ g18 ≠ 3 ∨ g8 < g17) ∧ (v15 = 0 ∨ g22 = va_up g13 (1 : Int32).toNatClampNeg g11.toInt32) ∧ (v15 = 1 ∨ g9 ≠ 2 ∨ g11 < (0 : Int32).toInt64 ∨ (11 : Int32).toInt64 < g11)) := hr7
        dsimp only [u3, u5]
        refine Sf.zbb (by grind) (fun v24 e_v24 => ?_)
        exact Sf.ok (show (0 ≤ g19 ∧ g19 ≤ 250) ∧ (RI B g22) ∧ ((v24 = 0 ∨ v24 = 1) ∧ (0 ≤ g17 ∧ g17 ≤ x0_tapeSize) ∧ x0_at ≤ g17 ∧ (v24 = 0 ∨ g18 ≠ 3 ∨ x0_at < g17)) from ⟨h_g19, h_g22, (by grind)⟩)
    · unfold fX7_two_j43
      refine Sf.bind (sX7_number (M := M) (B := B) hn h_x0_shelf h_x0_rowSize h_x0_tapeSize h_x0_lines h_x0_line h_x0_changes h_x0_coins h_x0_goods h_x0_good h_x0_works h_x0_work h_x0_years (by grind) h_g10 h_x0_far h_x0_way h_x0_steps h_x0_queue h_g13 (by first | assumption | rfl | decide | grind) (by first | assumption | rfl | decide | grind) (by first | assumption | rfl | decide | grind) (by first | assumption | rfl | decide | grind)) ?_
      rintro ⟨v15, ⟨g17, g18, g19, g20, g21⟩, g22⟩ hr8
      obtain ⟨h_g19, h_g22, hx_v15⟩ : (0 ≤ g19 ∧ g19 ≤ 250) ∧ (RI B g22) ∧ ((v15 = 0 ∨ v15 = 1) ∧ (0 ≤ g17 ∧ g17 ≤ x0_tapeSize) ∧ g8 ≤ g17 ∧ (v15 = 0 ∨ g18 ≠ 3 ∨ g8 < g17) ∧ (v15 = 0 ∨ g22 = va_up g13 (1 : Int32).toNatClampNeg g11.toInt32) ∧ (v15 = 1 ∨ g9 ≠ 2 ∨ g11 < (0 : Int32).toInt64 ∨ (11 : Int32).toInt64 < g11)) := hr8
      dsimp only [u3, u5]
      refine Sf.zbb (by grind) (fun v24 e_v24 => ?_)
      exact Sf.ok (show (0 ≤ g19 ∧ g19 ≤ 250) ∧ (RI B g22) ∧ ((v24 = 0 ∨ v24 = 1) ∧ (0 ≤ g17 ∧ g17 ≤ x0_tapeSize) ∧ x0_at ≤ g17 ∧ (v24 = 0 ∨ g18 ≠ 3 ∨ x0_at < g17)) from ⟨h_g19, h_g22, (by grind)⟩)
theorem sX7_numberN {n : Nat} {x0_shelf x0_rowSort x0_rowSize : (Nat → Int32)} {x0_rows : (Nat → Nat → Int64)} {x0_moved : (Nat → Int64)} {x0_shown x0_tape : (Nat → Int32)} {x0_tapeSize : Int32} {x0_refused : (Nat → Int32)} {x0_lines : Int32} {x0_line : (Nat → Nat → Int32)} {x0_changes x0_coins : (Nat → Int32)} {x0_goods : Int32} {x0_good : (Nat → Nat → Int32)} {x0_works : Int32} {x0_work : (Nat → Nat → Int32)} {x0_years x0_gone x0_spent x0_at x0_token x0_from : Int32} {x0_figures : Int64} {x0_fault : Int32} {x0_numbers : (Nat → Int32)} {x0_statements : Int32} {x0_left x0_far : (Nat → Int32)} {x0_tons : Int32} {x0_way : (Nat → Int32)} {x0_steps : Int32} {x0_met : Int64} {x0_queue x0_totals : (Nat → Int32)} {p2 p3 p4 : Int32} (hn : 1000000000000 ≤ n) (h_x0_shelf : (AI 0 2 x0_shelf)) (h_x0_rowSize : (AI 0 40 x0_rowSize)) (h_x0_tapeSize : (0 ≤ x0_tapeSize ∧ x0_tapeSize ≤ 250)) (h_x0_lines : (0 ≤ x0_lines ∧ x0_lines ≤ 20)) (h_x0_line : (LnM x0_line)) (h_x0_changes : (AI 0 99 x0_changes)) (h_x0_coins : (AI 0 9 x0_coins)) (h_x0_goods : (0 ≤ x0_goods ∧ x0_goods ≤ 8)) (h_x0_good : (GdM x0_good)) (h_x0_works : (0 ≤ x0_works ∧ x0_works ≤ 7)) (h_x0_work : (WkM x0_work)) (h_x0_years : (1 ≤ x0_years ∧ x0_years ≤ 30)) (h_x0_at : (0 ≤ x0_at)) (h_x0_from : (0 ≤ x0_from ∧ x0_from ≤ 250)) (h_x0_far : (AI 0 1000000000 x0_far)) (h_x0_way : (AI 0 22 x0_way)) (h_x0_steps : (0 ≤ x0_steps ∧ x0_steps ≤ 37)) (h_x0_queue : (AI 0 35 x0_queue)) (he_0 : p2 = 0) (he_1 : x0_at ≤ x0_tapeSize) : Sf (fX7_numberN n (x0_shelf, x0_rowSort, x0_rowSize, x0_rows, x0_moved, x0_shown, x0_tape, x0_tapeSize, x0_refused, x0_lines, x0_line, x0_changes, x0_coins, x0_goods, x0_good, x0_works, x0_work, x0_years, x0_gone, x0_spent, x0_at, x0_token, x0_from, x0_figures, x0_fault, x0_numbers, x0_statements, x0_left, x0_far, x0_tons, x0_way, x0_steps, x0_met, x0_queue, x0_totals) p2 p3 p4) (fun r => (0 ≤ r.2.2.2.1 ∧ r.2.2.2.1 ≤ 250) ∧ ((r.1 = 0 ∨ r.1 = 1) ∧ (0 ≤ r.2.1 ∧ r.2.1 ≤ x0_tapeSize) ∧ x0_at ≤ r.2.1 ∧ (r.1 = 0 ∨ r.2.2.1 ≠ 3 ∨ x0_at < r.2.1) ∧ (r.1 = 0 ∨ (p3 ≤ r.2.2.2.2.2.2 0 ∧ r.2.2.2.2.2.2 0 ≤ p4)))) := by
  unfold fX7_numberN
  dsimp only [u35]
  have bad : ∀ v : Int32, v = 0 → Sf ((zb v).bind fun v16 => some (v16, (x0_at, x0_token, x0_from, x0_figures, x0_from, x0_numbers))) (fun r => (0 ≤ r.2.2.2.1 ∧ r.2.2.2.1 ≤ 250) ∧ ((r.1 = 0 ∨ r.1 = 1) ∧ (0 ≤ r.2.1 ∧ r.2.1 ≤ x0_tapeSize) ∧ x0_at ≤ r.2.1 ∧ (r.1 = 0 ∨ r.2.2.1 ≠ 3 ∨ x0_at < r.2.1) ∧ (r.1 = 0 ∨ (p3 ≤ r.2.2.2.2.2.2 0 ∧ r.2.2.2.2.2.2 0 ≤ p4)))) := by
    intro v hv
    refine Sf.zbb (Or.inl hv) (fun r hr => ?_)
    subst hr
    exact Sf.ok ⟨h_x0_from, Or.inl hv, ⟨h_x0_at, he_1⟩, Int32.le_refl _, Or.inl hv, Or.inl hv⟩
  refine Sf.ite (fun ht => ?_) (fun ht => ?_)
  · refine Sf.bind s_in64 (fun v5 h5 => ?_)
    refine Sf.ite (fun h0 => ?_) (fun h0 => ?_)
    · unfold fX7_wrong
      dsimp only [u35]
      exact bad 0 rfl
    · have h6 : p3.toInt64 ≤ x0_figures ∧ x0_figures ≤ p4.toInt64 := by
        rcases h5 with h5 | h5
        · exact h5.2
        · exact absurd h5.1 h0
      have h7 := i64_rng h6.1 h6.2
      subst he_0
      refine Sf.wrl 0 rfl rfl (fun f7 e7 => ?_)
      have hf7 : p3 ≤ f7 0 ∧ f7 0 ≤ p4 := by
        rw [e7]
        exact h7
      refine Sf.bind (sX7_look hn h_x0_shelf h_x0_rowSize h_x0_tapeSize h_x0_lines h_x0_line h_x0_changes h_x0_coins h_x0_goods h_x0_good h_x0_works h_x0_work h_x0_years h_x0_at h_x0_from h_x0_far h_x0_way h_x0_steps h_x0_queue he_1) ?_
      rintro ⟨g8, g9, g10, g11⟩ hr
      obtain ⟨hg10, hg8⟩ : (0 ≤ g10 ∧ g10 ≤ 250) ∧ ((0 ≤ g8 ∧ g8 ≤ x0_tapeSize) ∧ x0_at ≤ g8 ∧ (g9 ≠ 3 ∨ x0_at < g8)) := hr
      exact Sf.ok ⟨hg10, Or.inr rfl, hg8.1, hg8.2.1, Or.inr hg8.2.2, Or.inr hf7⟩
  · unfold fX7_wrong
    dsimp only [u35]
    exact bad 0 rfl
theorem sX7_numberC {n : Nat} {x0_shelf x0_rowSort x0_rowSize : (Nat → Int32)} {x0_rows : (Nat → Nat → Int64)} {x0_moved : (Nat → Int64)} {x0_shown x0_tape : (Nat → Int32)} {x0_tapeSize : Int32} {x0_refused : (Nat → Int32)} {x0_lines : Int32} {x0_line : (Nat → Nat → Int32)} {x0_changes x0_coins : (Nat → Int32)} {x0_goods : Int32} {x0_good : (Nat → Nat → Int32)} {x0_works : Int32} {x0_work : (Nat → Nat → Int32)} {x0_years x0_gone x0_spent x0_at x0_token x0_from : Int32} {x0_figures : Int64} {x0_fault : Int32} {x0_numbers : (Nat → Int32)} {x0_statements : Int32} {x0_left x0_far : (Nat → Int32)} {x0_tons : Int32} {x0_way : (Nat → Int32)} {x0_steps : Int32} {x0_met : Int64} {x0_queue x0_totals : (Nat → Int32)} {p2 p3 p4 : Int32} (hn : 1000000000000 ≤ n) (h_x0_shelf : (AI 0 2 x0_shelf)) (h_x0_rowSize : (AI 0 40 x0_rowSize)) (h_x0_tapeSize : (0 ≤ x0_tapeSize ∧ x0_tapeSize ≤ 250)) (h_x0_lines : (0 ≤ x0_lines ∧ x0_lines ≤ 20)) (h_x0_line : (LnM x0_line)) (h_x0_changes : (AI 0 99 x0_changes)) (h_x0_coins : (AI 0 9 x0_coins)) (h_x0_goods : (0 ≤ x0_goods ∧ x0_goods ≤ 8)) (h_x0_good : (GdM x0_good)) (h_x0_works : (0 ≤ x0_works ∧ x0_works ≤ 7)) (h_x0_work : (WkM x0_work)) (h_x0_years : (1 ≤ x0_years ∧ x0_years ≤ 30)) (h_x0_at : (0 ≤ x0_at)) (h_x0_from : (0 ≤ x0_from ∧ x0_from ≤ 250)) (h_x0_far : (AI 0 1000000000 x0_far)) (h_x0_way : (AI 0 22 x0_way)) (h_x0_steps : (0 ≤ x0_steps ∧ x0_steps ≤ 37)) (h_x0_queue : (AI 0 35 x0_queue)) (he_0 : 0 ≤ p2 ∧ p2 < 12) (he_1 : 0 ≤ p3 ∧ p4 ≤ 99) (he_2 : x0_at ≤ x0_tapeSize) : Sf (fX7_numberC n (x0_shelf, x0_rowSort, x0_rowSize, x0_rows, x0_moved, x0_shown, x0_tape, x0_tapeSize, x0_refused, x0_lines, x0_line, x0_changes, x0_coins, x0_goods, x0_good, x0_works, x0_work, x0_years, x0_gone, x0_spent, x0_at, x0_token, x0_from, x0_figures, x0_fault, x0_numbers, x0_statements, x0_left, x0_far, x0_tons, x0_way, x0_steps, x0_met, x0_queue, x0_totals) p2 p3 p4) (fun r => (AI 0 99 r.2.1) ∧ (0 ≤ r.2.2.2.2.1 ∧ r.2.2.2.2.1 ≤ 250) ∧ ((r.1 = 0 ∨ r.1 = 1) ∧ (0 ≤ r.2.2.1 ∧ r.2.2.1 ≤ x0_tapeSize) ∧ x0_at ≤ r.2.2.1 ∧ (r.1 = 0 ∨ r.2.2.2.1 ≠ 3 ∨ x0_at < r.2.2.1))) := by
  unfold fX7_numberC
  dsimp only [u35]
  have bad : ∀ v : Int32, v = 0 → Sf ((zb v).bind fun v16 => some (v16, (x0_changes, x0_at, x0_token, x0_from, x0_figures, x0_from))) (fun r => (AI 0 99 r.2.1) ∧ (0 ≤ r.2.2.2.2.1 ∧ r.2.2.2.2.1 ≤ 250) ∧ ((r.1 = 0 ∨ r.1 = 1) ∧ (0 ≤ r.2.2.1 ∧ r.2.2.1 ≤ x0_tapeSize) ∧ x0_at ≤ r.2.2.1 ∧ (r.1 = 0 ∨ r.2.2.2.1 ≠ 3 ∨ x0_at < r.2.2.1))) := by
    intro v hv
    refine Sf.zbb (Or.inl hv) (fun r hr => ?_)
    subst hr
    exact Sf.ok ⟨h_x0_changes, h_x0_from, Or.inl hv, ⟨h_x0_at, he_2⟩, Int32.le_refl _, Or.inl hv⟩
  refine Sf.ite (fun ht => ?_) (fun ht => ?_)
  · refine Sf.bind s_in64 (fun v5 h5 => ?_)
    refine Sf.ite (fun h0 => ?_) (fun h0 => ?_)
    · unfold fX7_wrong
      dsimp only [u35]
      exact bad 0 rfl
    · have h6 : p3.toInt64 ≤ x0_figures ∧ x0_figures ≤ p4.toInt64 := by
        rcases h5 with h5 | h5
        · exact h5.2
        · exact absurd h5.1 h0
      have h7 := i64_rng h6.1 h6.2
      refine Sf.wrI 12 rfl h_x0_changes he_0 ⟨Int32.le_trans he_1.1 h7.1, Int32.le_trans h7.2 he_1.2⟩ (fun f7 hf7 e7 => ?_)
      refine Sf.bind (sX7_look hn h_x0_shelf h_x0_rowSize h_x0_tapeSize h_x0_lines h_x0_line hf7 h_x0_coins h_x0_goods h_x0_good h_x0_works h_x0_work h_x0_years h_x0_at h_x0_from h_x0_far h_x0_way h_x0_steps h_x0_queue he_2) ?_
      rintro ⟨g8, g9, g10, g11⟩ hr
      obtain ⟨hg10, hg8⟩ : (0 ≤ g10 ∧ g10 ≤ 250) ∧ ((0 ≤ g8 ∧ g8 ≤ x0_tapeSize) ∧ x0_at ≤ g8 ∧ (g9 ≠ 3 ∨ x0_at < g8)) := hr
      exact Sf.ok ⟨hf7, hg10, Or.inr rfl, hg8.1, hg8.2.1, Or.inr hg8.2.2⟩
  · unfold fX7_wrong
    dsimp only [u35]
    exact bad 0 rfl
theorem sX7_numberO {n : Nat} {x0_shelf x0_rowSort x0_rowSize : (Nat → Int32)} {x0_rows : (Nat → Nat → Int64)} {x0_moved : (Nat → Int64)} {x0_shown x0_tape : (Nat → Int32)} {x0_tapeSize : Int32} {x0_refused : (Nat → Int32)} {x0_lines : Int32} {x0_line : (Nat → Nat → Int32)} {x0_changes x0_coins : (Nat → Int32)} {x0_goods : Int32} {x0_good : (Nat → Nat → Int32)} {x0_works : Int32} {x0_work : (Nat → Nat → Int32)} {x0_years x0_gone x0_spent x0_at x0_token x0_from : Int32} {x0_figures : Int64} {x0_fault : Int32} {x0_numbers : (Nat → Int32)} {x0_statements : Int32} {x0_left x0_far : (Nat → Int32)} {x0_tons : Int32} {x0_way : (Nat → Int32)} {x0_steps : Int32} {x0_met : Int64} {x0_queue x0_totals : (Nat → Int32)} {p2 p3 p4 : Int32} (hn : 1000000000000 ≤ n) (h_x0_shelf : (AI 0 2 x0_shelf)) (h_x0_rowSize : (AI 0 40 x0_rowSize)) (h_x0_tapeSize : (0 ≤ x0_tapeSize ∧ x0_tapeSize ≤ 250)) (h_x0_lines : (0 ≤ x0_lines ∧ x0_lines ≤ 20)) (h_x0_line : (LnM x0_line)) (h_x0_changes : (AI 0 99 x0_changes)) (h_x0_coins : (AI 0 9 x0_coins)) (h_x0_goods : (0 ≤ x0_goods ∧ x0_goods ≤ 8)) (h_x0_good : (GdM x0_good)) (h_x0_works : (0 ≤ x0_works ∧ x0_works ≤ 7)) (h_x0_work : (WkM x0_work)) (h_x0_years : (1 ≤ x0_years ∧ x0_years ≤ 30)) (h_x0_at : (0 ≤ x0_at)) (h_x0_from : (0 ≤ x0_from ∧ x0_from ≤ 250)) (h_x0_far : (AI 0 1000000000 x0_far)) (h_x0_way : (AI 0 22 x0_way)) (h_x0_steps : (0 ≤ x0_steps ∧ x0_steps ≤ 37)) (h_x0_queue : (AI 0 35 x0_queue)) (he_0 : 0 ≤ p2 ∧ p2 < 3) (he_1 : 0 ≤ p3 ∧ p4 ≤ 9) (he_2 : x0_at ≤ x0_tapeSize) : Sf (fX7_numberO n (x0_shelf, x0_rowSort, x0_rowSize, x0_rows, x0_moved, x0_shown, x0_tape, x0_tapeSize, x0_refused, x0_lines, x0_line, x0_changes, x0_coins, x0_goods, x0_good, x0_works, x0_work, x0_years, x0_gone, x0_spent, x0_at, x0_token, x0_from, x0_figures, x0_fault, x0_numbers, x0_statements, x0_left, x0_far, x0_tons, x0_way, x0_steps, x0_met, x0_queue, x0_totals) p2 p3 p4) (fun r => (AI 0 9 r.2.1) ∧ (0 ≤ r.2.2.2.2.1 ∧ r.2.2.2.2.1 ≤ 250) ∧ ((r.1 = 0 ∨ r.1 = 1) ∧ (0 ≤ r.2.2.1 ∧ r.2.2.1 ≤ x0_tapeSize) ∧ x0_at ≤ r.2.2.1 ∧ (r.1 = 0 ∨ r.2.2.2.1 ≠ 3 ∨ x0_at < r.2.2.1))) := by
  unfold fX7_numberO
  dsimp only [u35]
  have bad : ∀ v : Int32, v = 0 → Sf ((zb v).bind fun v16 => some (v16, (x0_coins, x0_at, x0_token, x0_from, x0_figures, x0_from))) (fun r => (AI 0 9 r.2.1) ∧ (0 ≤ r.2.2.2.2.1 ∧ r.2.2.2.2.1 ≤ 250) ∧ ((r.1 = 0 ∨ r.1 = 1) ∧ (0 ≤ r.2.2.1 ∧ r.2.2.1 ≤ x0_tapeSize) ∧ x0_at ≤ r.2.2.1 ∧ (r.1 = 0 ∨ r.2.2.2.1 ≠ 3 ∨ x0_at < r.2.2.1))) := by
    intro v hv
    refine Sf.zbb (Or.inl hv) (fun r hr => ?_)
    subst hr
    exact Sf.ok ⟨h_x0_coins, h_x0_from, Or.inl hv, ⟨h_x0_at, he_2⟩, Int32.le_refl _, Or.inl hv⟩
  refine Sf.ite (fun ht => ?_) (fun ht => ?_)
  · refine Sf.bind s_in64 (fun v5 h5 => ?_)
    refine Sf.ite (fun h0 => ?_) (fun h0 => ?_)
    · unfold fX7_wrong
      dsimp only [u35]
      exact bad 0 rfl
    · have h6 : p3.toInt64 ≤ x0_figures ∧ x0_figures ≤ p4.toInt64 := by
        rcases h5 with h5 | h5
        · exact h5.2
        · exact absurd h5.1 h0
      have h7 := i64_rng h6.1 h6.2
      refine Sf.wrI 3 rfl h_x0_coins he_0 ⟨Int32.le_trans he_1.1 h7.1, Int32.le_trans h7.2 he_1.2⟩ (fun f7 hf7 e7 => ?_)
      refine Sf.bind (sX7_look hn h_x0_shelf h_x0_rowSize h_x0_tapeSize h_x0_lines h_x0_line h_x0_changes hf7 h_x0_goods h_x0_good h_x0_works h_x0_work h_x0_years h_x0_at h_x0_from h_x0_far h_x0_way h_x0_steps h_x0_queue he_2) ?_
      rintro ⟨g8, g9, g10, g11⟩ hr
      obtain ⟨hg10, hg8⟩ : (0 ≤ g10 ∧ g10 ≤ 250) ∧ ((0 ≤ g8 ∧ g8 ≤ x0_tapeSize) ∧ x0_at ≤ g8 ∧ (g9 ≠ 3 ∨ x0_at < g8)) := hr
      exact Sf.ok ⟨hf7, hg10, Or.inr rfl, hg8.1, hg8.2.1, Or.inr hg8.2.2⟩
  · unfold fX7_wrong
    dsimp only [u35]
    exact bad 0 rfl
set_option maxHeartbeats 1000000 in
theorem sX7_toldN {n : Nat} {x0_shelf x0_rowSort x0_rowSize : (Nat → Int32)} {x0_rows : (Nat → Nat → Int64)} {x0_moved : (Nat → Int64)} {x0_shown x0_tape : (Nat → Int32)} {x0_tapeSize : Int32} {x0_refused : (Nat → Int32)} {x0_lines : Int32} {x0_line : (Nat → Nat → Int32)} {x0_changes x0_coins : (Nat → Int32)} {x0_goods : Int32} {x0_good : (Nat → Nat → Int32)} {x0_works : Int32} {x0_work : (Nat → Nat → Int32)} {x0_years x0_gone x0_spent x0_at x0_token x0_from : Int32} {x0_figures : Int64} {x0_fault : Int32} {x0_numbers : (Nat → Int32)} {x0_statements : Int32} {x0_left x0_far : (Nat → Int32)} {x0_tons : Int32} {x0_way : (Nat → Int32)} {x0_steps : Int32} {x0_met : Int64} {x0_queue x0_totals : (Nat → Int32)} {p1 : Nat} {p3 p4 p5 : Int32} (hn : 1000000000000 ≤ n) (h_x0_shelf : (AI 0 2 x0_shelf)) (h_x0_rowSize : (AI 0 40 x0_rowSize)) (h_x0_tapeSize : (0 ≤ x0_tapeSize ∧ x0_tapeSize ≤ 250)) (h_x0_lines : (0 ≤ x0_lines ∧ x0_lines ≤ 20)) (h_x0_line : (LnM x0_line)) (h_x0_changes : (AI 0 99 x0_changes)) (h_x0_coins : (AI 0 9 x0_coins)) (h_x0_goods : (0 ≤ x0_goods ∧ x0_goods ≤ 8)) (h_x0_good : (GdM x0_good)) (h_x0_works : (0 ≤ x0_works ∧ x0_works ≤ 7)) (h_x0_work : (WkM x0_work)) (h_x0_years : (1 ≤ x0_years ∧ x0_years ≤ 30)) (h_x0_at : (0 ≤ x0_at)) (h_x0_from : (0 ≤ x0_from ∧ x0_from ≤ 250)) (h_x0_far : (AI 0 1000000000 x0_far)) (h_x0_way : (AI 0 22 x0_way)) (h_x0_steps : (0 ≤ x0_steps ∧ x0_steps ≤ 37)) (h_x0_queue : (AI 0 35 x0_queue)) (he_0 : p3 = 0) (he_1 : x0_at ≤ x0_tapeSize) (he_2 : p1 < 20) : Sf (fX7_toldN n (x0_shelf, x0_rowSort, x0_rowSize, x0_rows, x0_moved, x0_shown, x0_tape, x0_tapeSize, x0_refused, x0_lines, x0_line, x0_changes, x0_coins, x0_goods, x0_good, x0_works, x0_work, x0_years, x0_gone, x0_spent, x0_at, x0_token, x0_from, x0_figures, x0_fault, x0_numbers, x0_statements, x0_left, x0_far, x0_tons, x0_way, x0_steps, x0_met, x0_queue, x0_totals) p1 p3 p4 p5) (fun r => (0 ≤ r.2.2.2.1 ∧ r.2.2.2.1 ≤ 250) ∧ ((r.1 = 0 ∨ r.1 = 1) ∧ (0 ≤ r.2.1 ∧ r.2.1 ≤ x0_tapeSize) ∧ x0_at ≤ r.2.1 ∧ (r.1 = 0 ∨ r.2.2.1 ≠ 3 ∨ x0_at < r.2.1) ∧ (r.1 = 0 ∨ (p4 ≤ r.2.2.2.2.2.2 0 ∧ r.2.2.2.2.2.2 0 ≤ p5)) ∧ (r.1 = 0 ∨ x0_token = 1))) := by
  unfold fX7_toldN
  dsimp only [u35]
  refine Sf.bind (sX7_isWord hn (by grind) h_x0_from (by first | assumption | decide)) ?_
  intro v1 hr1
  obtain ⟨h_v1, hx_v1⟩ : (0 ≤ v1 ∧ v1 ≤ 1) ∧ (v1 = 0 ∨ x0_token = 1) := hr1
  refine Sf.ite (fun hc2 => ?_) (fun hc2 => ?_)
  · refine Sf.bind (sX7_wrong h_x0_shelf h_x0_rowSize h_x0_tapeSize h_x0_lines h_x0_line h_x0_changes h_x0_coins h_x0_goods h_x0_good h_x0_works h_x0_work h_x0_years h_x0_from h_x0_far h_x0_way h_x0_steps h_x0_queue) ?_
    rintro ⟨v18, g19⟩ hr3
    have h_v18 : (0 ≤ v18 ∧ v18 ≤ 0) := hr3
    dsimp only [u2]
    refine Sf.zbb (by grind) (fun v21 e_v21 => ?_)
    exact Sf.ok (show (0 ≤ x0_from ∧ x0_from ≤ 250) ∧ ((v21 = 0 ∨ v21 = 1) ∧ (0 ≤ x0_at ∧ x0_at ≤ x0_tapeSize) ∧ x0_at ≤ x0_at ∧ (v21 = 0 ∨ x0_token ≠ 3 ∨ x0_at < x0_at) ∧ (v21 = 0 ∨ (p4 ≤ x0_numbers 0 ∧ x0_numbers 0 ≤ p5)) ∧ (v21 = 0 ∨ x0_token = 1)) from ⟨h_x0_from, (by grind)⟩)
  · refine Sf.bind (sX7_look hn h_x0_shelf h_x0_rowSize h_x0_tapeSize h_x0_lines h_x0_line h_x0_changes h_x0_coins h_x0_goods h_x0_good h_x0_works h_x0_work h_x0_years h_x0_at h_x0_from h_x0_far h_x0_way h_x0_steps h_x0_queue (by grind)) ?_
    rintro ⟨g3, g4, g5, g6⟩ hr4
    obtain ⟨h_g5, hx_g3⟩ : (0 ≤ g5 ∧ g5 ≤ 250) ∧ ((0 ≤ g3 ∧ g3 ≤ x0_tapeSize) ∧ x0_at ≤ g3 ∧ (g4 ≠ 3 ∨ x0_at < g3)) := hr4
    dsimp only [u4]
    refine Sf.bind (sX7_numberN hn h_x0_shelf h_x0_rowSize h_x0_tapeSize h_x0_lines h_x0_line h_x0_changes h_x0_coins h_x0_goods h_x0_good h_x0_works h_x0_work h_x0_years (by grind) h_g5 h_x0_far h_x0_way h_x0_steps h_x0_queue (by first | assumption | rfl | decide | grind) (by first | assumption | rfl | decide | grind)) ?_
    rintro ⟨v8, ⟨g10, g11, g12, g13, g14, g15⟩⟩ hr5
    obtain ⟨h_g12, hx_v8⟩ : (0 ≤ g12 ∧ g12 ≤ 250) ∧ ((v8 = 0 ∨ v8 = 1) ∧ (0 ≤ g10 ∧ g10 ≤ x0_tapeSize) ∧ g3 ≤ g10 ∧ (v8 = 0 ∨ g11 ≠ 3 ∨ g3 < g10) ∧ (v8 = 0 ∨ (p4 ≤ g15 0 ∧ g15 0 ≤ p5))) := hr5
    dsimp only [u2, u6]
    refine Sf.zbb (by grind) (fun v17 e_v17 => ?_)
    exact Sf.ok (show (0 ≤ g12 ∧ g12 ≤ 250) ∧ ((v17 = 0 ∨ v17 = 1) ∧ (0 ≤ g10 ∧ g10 ≤ x0_tapeSize) ∧ x0_at ≤ g10 ∧ (v17 = 0 ∨ g11 ≠ 3 ∨ x0_at < g10) ∧ (v17 = 0 ∨ (p4 ≤ g15 0 ∧ g15 0 ≤ p5)) ∧ (v17 = 0 ∨ x0_token = 1)) from ⟨h_g12, (by grind)⟩)
set_option maxHeartbeats 1000000 in
theorem sX7_workTold {n : Nat} {x0_shelf x0_rowSort x0_rowSize : (Nat → Int32)} {x0_rows : (Nat → Nat → Int64)} {x0_moved : (Nat → Int64)} {x0_shown x0_tape : (Nat → Int32)} {x0_tapeSize : Int32} {x0_refused : (Nat → Int32)} {x0_lines : Int32} {x0_line : (Nat → Nat → Int32)} {x0_changes x0_coins : (Nat → Int32)} {x0_goods : Int32} {x0_good : (Nat → Nat → Int32)} {x0_works : Int32} {x0_work : (Nat → Nat → Int32)} {x0_years x0_gone x0_spent x0_at x0_token x0_from : Int32} {x0_figures : Int64} {x0_fault : Int32} {x0_numbers : (Nat → Int32)} {x0_statements : Int32} {x0_left x0_far : (Nat → Int32)} {x0_tons : Int32} {x0_way : (Nat → Int32)} {x0_steps : Int32} {x0_met : Int64} {x0_queue x0_totals p1 : (Nat → Int32)} (hn : 1000000000000 ≤ n) (h_x0_shelf : (AI 0 2 x0_shelf)) (h_x0_rowSize : (AI 0 40 x0_rowSize)) (h_x0_tapeSize : (0 ≤ x0_tapeSize ∧ x0_tapeSize ≤ 250)) (h_x0_lines : (0 ≤ x0_lines ∧ x0_lines ≤ 20)) (h_x0_line : (LnM x0_line)) (h_x0_changes : (AI 0 99 x0_changes)) (h_x0_coins : (AI 0 9 x0_coins)) (h_x0_goods : (0 ≤ x0_goods ∧ x0_goods ≤ 8)) (h_x0_good : (GdM x0_good)) (h_x0_works : (0 ≤ x0_works ∧ x0_works ≤ 7)) (h_x0_work : (WkM x0_work)) (h_x0_years : (1 ≤ x0_years ∧ x0_years ≤ 30)) (h_x0_at : (0 ≤ x0_at)) (h_x0_from : (0 ≤ x0_from ∧ x0_from ≤ 250)) (h_x0_far : (AI 0 1000000000 x0_far)) (h_x0_way : (AI 0 22 x0_way)) (h_x0_steps : (0 ≤ x0_steps ∧ x0_steps ≤ 37)) (h_x0_queue : (AI 0 35 x0_queue)) (h_p1 : (RI wkB p1)) (he_0 : x0_works < 7) (he_1 : x0_at ≤ x0_tapeSize) : Sf (fX7_workTold n (x0_shelf, x0_rowSort, x0_rowSize, x0_rows, x0_moved, x0_shown, x0_tape, x0_tapeSize, x0_refused, x0_lines, x0_line, x0_changes, x0_coins, x0_goods, x0_good, x0_works, x0_work, x0_years, x0_gone, x0_spent, x0_at, x0_token, x0_from, x0_figures, x0_fault, x0_numbers, x0_statements, x0_left, x0_far, x0_tons, x0_way, x0_steps, x0_met, x0_queue, x0_totals) 5 p1) (fun r => (0 ≤ r.2.1.1 ∧ r.2.1.1 ≤ 7) ∧ (0 ≤ r.2.1.2.2.2.1 ∧ r.2.1.2.2.2.1 ≤ 250) ∧ (RI wkB r.2.2) ∧ ((r.1 = 0 ∨ r.1 = 1) ∧ (0 ≤ r.2.1.2.1 ∧ r.2.1.2.1 ≤ x0_tapeSize) ∧ x0_at ≤ r.2.1.2.1 ∧ (r.1 = 0 ∨ r.2.1.2.2.1 ≠ 3 ∨ x0_at < r.2.1.2.1) ∧ (r.1 = 0 ∨ (x0_token = 1 ∧ WkRm (r.2.2 0) (r.2.2 1) (r.2.2 2))))) := by
  unfold fX7_workTold
  dsimp only [u35]
  refine Sf.wrl 4 rfl rfl (fun f1 e_f1 => ?_)
  have h_f1 : RI wkB f1 := by rw [e_f1]; exact RI.up h_p1 (show 0 ≤ 0 ∧ 0 ≤ 1 from (by decide))
  refine Sf.bind (sX7_told (M := 5) (B := wkB) hn h_x0_shelf h_x0_rowSize h_x0_tapeSize h_x0_lines h_x0_line h_x0_changes h_x0_coins h_x0_goods h_x0_good h_x0_works h_x0_work h_x0_years h_x0_at h_x0_from h_x0_far h_x0_way h_x0_steps h_x0_queue h_f1 (by first | assumption | rfl | decide | grind) (by first | assumption | rfl | decide | grind) (by first | assumption | rfl | decide | grind) (by first | assumption | rfl | decide | grind) (by first | assumption | rfl | decide | grind)) ?_
  rintro ⟨v2, ⟨g4, g5, g6, g7, g8⟩, g9⟩ hr1
  obtain ⟨h_g6, h_g9, hx_v2⟩ : (0 ≤ g6 ∧ g6 ≤ 250) ∧ (RI wkB g9) ∧ ((v2 = 0 ∨ v2 = 1) ∧ (0 ≤ g4 ∧ g4 ≤ x0_tapeSize) ∧ x0_at ≤ g4 ∧ (v2 = 0 ∨ g5 ≠ 3 ∨ x0_at < g4) ∧ (v2 = 0 ∨ x0_token = 1)) := hr1
  dsimp only [u3, u5]
  have i0 : (0 : Int32).toInt64 = 0 := rfl
  have i99 : (99 : Int32).toInt64 = 99 := rfl
  refine Sf.ite (fun hc2 => ?_) (fun hc2 => ?_)
  · exact Sf.ok (show (0 ≤ x0_works ∧ x0_works ≤ 7) ∧ (0 ≤ g6 ∧ g6 ≤ 250) ∧ (RI wkB g9) ∧ ((0 = 0 ∨ 0 = 1) ∧ (0 ≤ g4 ∧ g4 ≤ x0_tapeSize) ∧ x0_at ≤ g4 ∧ (0 = 0 ∨ g5 ≠ 3 ∨ x0_at < g4) ∧ (0 = 0 ∨ (x0_token = 1 ∧ WkRm (g9 0) (g9 1) (g9 2)))) from ⟨h_x0_works, h_g6, h_g9, (by grind)⟩)
  · refine Sf.ite (fun hc3 => ?_) (fun hc3 => ?_)
    · refine Sf.bind s_in64 ?_
      intro v15 hr_v15
      refine Sf.ite (fun hc4 => ?_) (fun hc4 => ?_)
      · refine Sf.bind (sX7_wrong h_x0_shelf h_x0_rowSize h_x0_tapeSize h_x0_lines h_x0_line h_x0_changes h_x0_coins h_x0_goods h_x0_good h_x0_works h_x0_work h_x0_years h_g6 h_x0_far h_x0_way h_x0_steps h_x0_queue) ?_
        rintro ⟨v17, g18⟩ hr5
        have h_v17 : (0 ≤ v17 ∧ v17 ≤ 0) := hr5
        dsimp only [u2]
        refine Sf.zbb (by grind) (fun v20 e_v20 => ?_)
        exact Sf.ok (show (0 ≤ x0_works ∧ x0_works ≤ 7) ∧ (0 ≤ g6 ∧ g6 ≤ 250) ∧ (RI wkB g9) ∧ ((v20 = 0 ∨ v20 = 1) ∧ (0 ≤ g4 ∧ g4 ≤ x0_tapeSize) ∧ x0_at ≤ g4 ∧ (v20 = 0 ∨ g5 ≠ 3 ∨ x0_at < g4) ∧ (v20 = 0 ∨ (x0_token = 1 ∧ WkRm (g9 0) (g9 1) (g9 2)))) from ⟨h_x0_works, h_g6, h_g9, (by grind)⟩)
      · refine Sf.rdl 0 rfl rfl (fun v21 e_v21 => ?_)
        have h_v21 : 0 ≤ v21 ∧ v21 ≤ 5 := by rw [e_v21]; exact h_g9 0
        refine Sf.bind (sX7_mayBeFirst h_x0_shelf h_x0_rowSize h_x0_tapeSize h_x0_lines h_x0_line h_x0_changes h_x0_coins h_x0_goods h_x0_good h_x0_works h_x0_work h_x0_years h_g6 h_x0_far h_x0_way h_x0_steps h_x0_queue) ?_
        intro v22 hr6
        obtain ⟨h_v22, hx_v22⟩ : (0 ≤ v22 ∧ v22 ≤ 1) ∧ (v22 = 0 ∨ (0 ≤ (g7).toInt32 ∧ (g7).toInt32 ≤ 19 ∧ (v21 = 1 ∨ v21 = 2 ∨ (g7).toInt32 ≤ 11))) := hr6
        refine Sf.ite (fun hc7 => ?_) (fun hc7 => ?_)
        · refine Sf.bind (sX7_wrong h_x0_shelf h_x0_rowSize h_x0_tapeSize h_x0_lines h_x0_line h_x0_changes h_x0_coins h_x0_goods h_x0_good h_x0_works h_x0_work h_x0_years h_g6 h_x0_far h_x0_way h_x0_steps h_x0_queue) ?_
          rintro ⟨v69, g70⟩ hr8
          have h_v69 : (0 ≤ v69 ∧ v69 ≤ 0) := hr8
          dsimp only [u2]
          refine Sf.zbb (by grind) (fun v72 e_v72 => ?_)
          exact Sf.ok (show (0 ≤ x0_works ∧ x0_works ≤ 7) ∧ (0 ≤ g6 ∧ g6 ≤ 250) ∧ (RI wkB g9) ∧ ((v72 = 0 ∨ v72 = 1) ∧ (0 ≤ g4 ∧ g4 ≤ x0_tapeSize) ∧ x0_at ≤ g4 ∧ (v72 = 0 ∨ g5 ≠ 3 ∨ x0_at < g4) ∧ (v72 = 0 ∨ (x0_token = 1 ∧ WkRm (g9 0) (g9 1) (g9 2)))) from ⟨h_x0_works, h_g6, h_g9, (by grind)⟩)
        · refine Sf.bind (sX7_number (M := 5) (B := wkC) hn h_x0_shelf h_x0_rowSize h_x0_tapeSize h_x0_lines h_x0_line h_x0_changes h_x0_coins h_x0_goods h_x0_good h_x0_works h_x0_work h_x0_years (by grind) h_g6 h_x0_far h_x0_way h_x0_steps h_x0_queue (wkC_of h_g9) (by first | assumption | rfl | decide | grind) (by first | assumption | rfl | decide | grind) (by first | assumption | rfl | decide | grind) (by first | assumption | rfl | decide | grind)) ?_
          rintro ⟨v24, ⟨g26, g27, g28, g29, g30⟩, g31⟩ hr9
          obtain ⟨h_g28, h_g31, hx_v24⟩ : (0 ≤ g28 ∧ g28 ≤ 250) ∧ (RI wkC g31) ∧ ((v24 = 0 ∨ v24 = 1) ∧ (0 ≤ g26 ∧ g26 ≤ x0_tapeSize) ∧ g4 ≤ g26 ∧ (v24 = 0 ∨ g27 ≠ 3 ∨ g4 < g26) ∧ (v24 = 0 ∨ g31 = va_up g9 (1 : Int32).toNatClampNeg g7.toInt32) ∧ (v24 = 1 ∨ g5 ≠ 2 ∨ g7 < (0 : Int32).toInt64 ∨ (99 : Int32).toInt64 < g7)) := hr9
          dsimp only [u3, u5]
          have k24 : v24 = 1 := by grind
          have r31 : g31 = va_up g9 1 g7.toInt32 := by
            rcases hx_v24.2.2.2.2.1 with h | h
            · rw [k24] at h; exact absurd h (by decide)
            · exact h
          have h_g31 : RI wkB g31 := by rw [r31]; exact RI.up h_g9 (show 0 ≤ g7.toInt32 ∧ g7.toInt32 ≤ 19 by grind)
          refine Sf.ite (fun hc10 => ?_) (fun hc10 => ?_)
          · refine Sf.bind s_in64 ?_
            intro v37 hr_v37
            refine Sf.ite (fun hc11 => ?_) (fun hc11 => ?_)
            · refine Sf.bind (sX7_wrong h_x0_shelf h_x0_rowSize h_x0_tapeSize h_x0_lines h_x0_line h_x0_changes h_x0_coins h_x0_goods h_x0_good h_x0_works h_x0_work h_x0_years h_g28 h_x0_far h_x0_way h_x0_steps h_x0_queue) ?_
              rintro ⟨v39, g40⟩ hr12
              have h_v39 : (0 ≤ v39 ∧ v39 ≤ 0) := hr12
              dsimp only [u2]
              refine Sf.zbb (by grind) (fun v42 e_v42 => ?_)
              exact Sf.ok (show (0 ≤ x0_works ∧ x0_works ≤ 7) ∧ (0 ≤ g28 ∧ g28 ≤ 250) ∧ (RI wkB g31) ∧ ((v42 = 0 ∨ v42 = 1) ∧ (0 ≤ g26 ∧ g26 ≤ x0_tapeSize) ∧ x0_at ≤ g26 ∧ (v42 = 0 ∨ g27 ≠ 3 ∨ x0_at < g26) ∧ (v42 = 0 ∨ (x0_token = 1 ∧ WkRm (g31 0) (g31 1) (g31 2)))) from ⟨h_x0_works, h_g28, h_g31, (by grind)⟩)
            · refine Sf.rdl 0 rfl rfl (fun v43 e_v43 => ?_)
              have h_v43 : 0 ≤ v43 ∧ v43 ≤ 5 := by rw [e_v43]; exact h_g31 0
              refine Sf.rdl 1 rfl rfl (fun v44 e_v44 => ?_)
              have h_v44 : 0 ≤ v44 ∧ v44 ≤ 19 := by rw [e_v44]; exact h_g31 1
              refine Sf.bind (sX7_mayBeSecond ) ?_
              intro v45 hr13
              obtain ⟨h_v45, hx_v45⟩ : (0 ≤ v45 ∧ v45 ≤ 1) ∧ (v45 = 0 ∨ (0 ≤ (g29).toInt32 ∧ (g29).toInt32 ≤ 99 ∧ (v43 = 1 ∨ v43 = 2 → (g29).toInt32 ≤ 2) ∧ (v43 = 1 ∨ v43 = 2 ∨ v43 = 3 ∨ (g29).toInt32 ≤ 11))) := hr13
              refine Sf.ite (fun hc14 => ?_) (fun hc14 => ?_)
              · refine Sf.bind (sX7_wrong h_x0_shelf h_x0_rowSize h_x0_tapeSize h_x0_lines h_x0_line h_x0_changes h_x0_coins h_x0_goods h_x0_good h_x0_works h_x0_work h_x0_years h_g28 h_x0_far h_x0_way h_x0_steps h_x0_queue) ?_
                rintro ⟨v65, g66⟩ hr15
                have h_v65 : (0 ≤ v65 ∧ v65 ≤ 0) := hr15
                dsimp only [u2]
                refine Sf.zbb (by grind) (fun v68 e_v68 => ?_)
                exact Sf.ok (show (0 ≤ x0_works ∧ x0_works ≤ 7) ∧ (0 ≤ g28 ∧ g28 ≤ 250) ∧ (RI wkB g31) ∧ ((v68 = 0 ∨ v68 = 1) ∧ (0 ≤ g26 ∧ g26 ≤ x0_tapeSize) ∧ x0_at ≤ g26 ∧ (v68 = 0 ∨ g27 ≠ 3 ∨ x0_at < g26) ∧ (v68 = 0 ∨ (x0_token = 1 ∧ WkRm (g31 0) (g31 1) (g31 2)))) from ⟨h_x0_works, h_g28, h_g31, (by grind)⟩)
              · refine Sf.bind (sX7_number (M := 5) (B := wkB) hn h_x0_shelf h_x0_rowSize h_x0_tapeSize h_x0_lines h_x0_line h_x0_changes h_x0_coins h_x0_goods h_x0_good h_x0_works h_x0_work h_x0_years (by grind) h_g28 h_x0_far h_x0_way h_x0_steps h_x0_queue h_g31 (by first | assumption | rfl | decide | grind) (by first | assumption | rfl | decide | grind) (by first | assumption | rfl | decide | grind) (by first | assumption | rfl | decide | grind)) ?_
                rintro ⟨v47, ⟨g49, g50, g51, g52, g53⟩, g54⟩ hr16
                obtain ⟨h_g51, h_g54, hx_v47⟩ : (0 ≤ g51 ∧ g51 ≤ 250) ∧ (RI wkB g54) ∧ ((v47 = 0 ∨ v47 = 1) ∧ (0 ≤ g49 ∧ g49 ≤ x0_tapeSize) ∧ g26 ≤ g49 ∧ (v47 = 0 ∨ g50 ≠ 3 ∨ g26 < g49) ∧ (v47 = 0 ∨ g54 = va_up g31 (2 : Int32).toNatClampNeg g29.toInt32) ∧ (v47 = 1 ∨ g27 ≠ 2 ∨ g29 < (0 : Int32).toInt64 ∨ (99 : Int32).toInt64 < g29)) := hr16
                dsimp only [u3, u5]
                have k47 : v47 = 1 := by grind
                have r54 : g54 = va_up g31 2 g29.toInt32 := by
                  rcases hx_v47.2.2.2.2.1 with h | h
                  · rw [k47] at h; exact absurd h (by decide)
                  · exact h
                have q43 : v43 = v21 := by rw [e_v43, r31, e_v21]; rfl
                have hWR : WkRm v21 g7.toInt32 g29.toInt32 := by unfold WkRm; grind
                refine Sf.bind (sX7_number (M := 5) (B := wkB) hn h_x0_shelf h_x0_rowSize h_x0_tapeSize h_x0_lines h_x0_line h_x0_changes h_x0_coins h_x0_goods h_x0_good h_x0_works h_x0_work h_x0_years (by grind) h_g51 h_x0_far h_x0_way h_x0_steps h_x0_queue h_g54 (by first | assumption | rfl | decide | grind) (by first | assumption | rfl | decide | grind) (by first | assumption | rfl | decide | grind) (by first | assumption | rfl | decide | grind)) ?_
                rintro ⟨v56, ⟨g58, g59, g60, g61, g62⟩, g63⟩ hr17
                obtain ⟨h_g60, h_g63, hx_v56⟩ : (0 ≤ g60 ∧ g60 ≤ 250) ∧ (RI wkB g63) ∧ ((v56 = 0 ∨ v56 = 1) ∧ (0 ≤ g58 ∧ g58 ≤ x0_tapeSize) ∧ g49 ≤ g58 ∧ (v56 = 0 ∨ g59 ≠ 3 ∨ g49 < g58) ∧ (v56 = 0 ∨ g63 = va_up g54 (3 : Int32).toNatClampNeg g52.toInt32) ∧ (v56 = 1 ∨ g50 ≠ 2 ∨ g52 < (0 : Int32).toInt64 ∨ (999 : Int32).toInt64 < g52)) := hr17
                dsimp only [u3, u5]
                have W : v56 = 0 ∨ WkRm (g63 0) (g63 1) (g63 2) := by
                  rcases hx_v56.2.2.2.2.1 with h | h
                  · exact Or.inl h
                  · refine Or.inr ?_
                    rw [h, r54, r31]
                    show WkRm (g9 0) g7.toInt32 g29.toInt32
                    rw [← e_v21]
                    exact hWR
                clear r54 r31 hWR e_v21 e_v43 e_v44 q43
                refine Sf.ite (fun hc18 => ?_) (fun hc18 => ?_)
                · exact Sf.ok (show (0 ≤ x0_works ∧ x0_works ≤ 7) ∧ (0 ≤ g60 ∧ g60 ≤ 250) ∧ (RI wkB g63) ∧ ((0 = 0 ∨ 0 = 1) ∧ (0 ≤ g58 ∧ g58 ≤ x0_tapeSize) ∧ x0_at ≤ g58 ∧ (0 = 0 ∨ g59 ≠ 3 ∨ x0_at < g58) ∧ (0 = 0 ∨ (x0_token = 1 ∧ WkRm (g63 0) (g63 1) (g63 2)))) from ⟨h_x0_works, h_g60, h_g63, (by grind)⟩)
                · exact Sf.ok (show (0 ≤ (x0_works + 1) ∧ (x0_works + 1) ≤ 7) ∧ (0 ≤ g60 ∧ g60 ≤ 250) ∧ (RI wkB g63) ∧ ((1 = 0 ∨ 1 = 1) ∧ (0 ≤ g58 ∧ g58 ≤ x0_tapeSize) ∧ x0_at ≤ g58 ∧ (1 = 0 ∨ g59 ≠ 3 ∨ x0_at < g58) ∧ (1 = 0 ∨ (x0_token = 1 ∧ WkRm (g63 0) (g63 1) (g63 2)))) from ⟨(by grind), h_g60, h_g63, (by grind)⟩)
          · refine Sf.bind (sX7_wrong h_x0_shelf h_x0_rowSize h_x0_tapeSize h_x0_lines h_x0_line h_x0_changes h_x0_coins h_x0_goods h_x0_good h_x0_works h_x0_work h_x0_years h_g28 h_x0_far h_x0_way h_x0_steps h_x0_queue) ?_
            rintro ⟨v33, g34⟩ hr19
            have h_v33 : (0 ≤ v33 ∧ v33 ≤ 0) := hr19
            dsimp only [u2]
            refine Sf.zbb (by grind) (fun v36 e_v36 => ?_)
            exact Sf.ok (show (0 ≤ x0_works ∧ x0_works ≤ 7) ∧ (0 ≤ g28 ∧ g28 ≤ 250) ∧ (RI wkB g31) ∧ ((v36 = 0 ∨ v36 = 1) ∧ (0 ≤ g26 ∧ g26 ≤ x0_tapeSize) ∧ x0_at ≤ g26 ∧ (v36 = 0 ∨ g27 ≠ 3 ∨ x0_at < g26) ∧ (v36 = 0 ∨ (x0_token = 1 ∧ WkRm (g31 0) (g31 1) (g31 2)))) from ⟨h_x0_works, h_g28, h_g31, (by grind)⟩)
    · refine Sf.bind (sX7_wrong h_x0_shelf h_x0_rowSize h_x0_tapeSize h_x0_lines h_x0_line h_x0_changes h_x0_coins h_x0_goods h_x0_good h_x0_works h_x0_work h_x0_years h_g6 h_x0_far h_x0_way h_x0_steps h_x0_queue) ?_
      rintro ⟨v11, g12⟩ hr20
      have h_v11 : (0 ≤ v11 ∧ v11 ≤ 0) := hr20
      dsimp only [u2]
      refine Sf.zbb (by grind) (fun v14 e_v14 => ?_)
      exact Sf.ok (show (0 ≤ x0_works ∧ x0_works ≤ 7) ∧ (0 ≤ g6 ∧ g6 ≤ 250) ∧ (RI wkB g9) ∧ ((v14 = 0 ∨ v14 = 1) ∧ (0 ≤ g4 ∧ g4 ≤ x0_tapeSize) ∧ x0_at ≤ g4 ∧ (v14 = 0 ∨ g5 ≠ 3 ∨ x0_at < g4) ∧ (v14 = 0 ∨ (x0_token = 1 ∧ WkRm (g9 0) (g9 1) (g9 2)))) from ⟨h_x0_works, h_g6, h_g9, (by grind)⟩)
end
section
set_option maxHeartbeats 1000000 in
theorem sX7_statement {n : Nat} {x0_shelf x0_rowSort x0_rowSize : (Nat → Int32)} {x0_rows : (Nat → Nat → Int64)} {x0_moved : (Nat → Int64)} {x0_shown x0_tape : (Nat → Int32)} {x0_tapeSize : Int32} {x0_refused : (Nat → Int32)} {x0_lines : Int32} {x0_line : (Nat → Nat → Int32)} {x0_changes x0_coins : (Nat → Int32)} {x0_goods : Int32} {x0_good : (Nat → Nat → Int32)} {x0_works : Int32} {x0_work : (Nat → Nat → Int32)} {x0_years x0_gone x0_spent x0_at x0_token x0_from : Int32} {x0_figures : Int64} {x0_fault : Int32} {x0_numbers : (Nat → Int32)} {x0_statements : Int32} {x0_left x0_far : (Nat → Int32)} {x0_tons : Int32} {x0_way : (Nat → Int32)} {x0_steps : Int32} {x0_met : Int64} {x0_queue x0_totals : (Nat → Int32)} (hn : 1000000000000 ≤ n) (h_x0_shelf : (AI 0 2 x0_shelf)) (h_x0_rowSize : (AI 0 40 x0_rowSize)) (h_x0_tapeSize : (0 ≤ x0_tapeSize ∧ x0_tapeSize ≤ 250)) (h_x0_lines : (0 ≤ x0_lines ∧ x0_lines ≤ 20)) (h_x0_line : (LnM x0_line)) (h_x0_changes : (AI 0 99 x0_changes)) (h_x0_coins : (AI 0 9 x0_coins)) (h_x0_goods : (0 ≤ x0_goods ∧ x0_goods ≤ 8)) (h_x0_good : (GdM x0_good)) (h_x0_works : (0 ≤ x0_works ∧ x0_works ≤ 7)) (h_x0_work : (WkM x0_work)) (h_x0_years : (1 ≤ x0_years ∧ x0_years ≤ 30)) (h_x0_at : (0 ≤ x0_at)) (h_x0_from : (0 ≤ x0_from ∧ x0_from ≤ 250)) (h_x0_far : (AI 0 1000000000 x0_far)) (h_x0_way : (AI 0 22 x0_way)) (h_x0_steps : (0 ≤ x0_steps ∧ x0_steps ≤ 37)) (h_x0_queue : (AI 0 35 x0_queue)) (he_0 : x0_at ≤ x0_tapeSize) : Sf (fX7_statement n (x0_shelf, x0_rowSort, x0_rowSize, x0_rows, x0_moved, x0_shown, x0_tape, x0_tapeSize, x0_refused, x0_lines, x0_line, x0_changes, x0_coins, x0_goods, x0_good, x0_works, x0_work, x0_years, x0_gone, x0_spent, x0_at, x0_token, x0_from, x0_figures, x0_fault, x0_numbers, x0_statements, x0_left, x0_far, x0_tons, x0_way, x0_steps, x0_met, x0_queue, x0_totals)) (fun r => (0 ≤ r.2.1 ∧ r.2.1 ≤ 20) ∧ (LnM r.2.2.1) ∧ (AI 0 99 r.2.2.2.1) ∧ (AI 0 9 r.2.2.2.2.1) ∧ (0 ≤ r.2.2.2.2.2.1 ∧ r.2.2.2.2.2.1 ≤ 8) ∧ (GdM r.2.2.2.2.2.2.1) ∧ (0 ≤ r.2.2.2.2.2.2.2.1 ∧ r.2.2.2.2.2.2.2.1 ≤ 7) ∧ (WkB r.2.2.2.2.2.2.2.2.1) ∧ (1 ≤ r.2.2.2.2.2.2.2.2.2.1 ∧ r.2.2.2.2.2.2.2.2.2.1 ≤ 30) ∧ (0 ≤ r.2.2.2.2.2.2.2.2.2.2.2.2.1 ∧ r.2.2.2.2.2.2.2.2.2.2.2.2.1 ≤ 250) ∧ ((r.1 = 0 ∨ r.1 = 1) ∧ (0 ≤ r.2.2.2.2.2.2.2.2.2.2.1 ∧ r.2.2.2.2.2.2.2.2.2.2.1 ≤ x0_tapeSize) ∧ x0_at ≤ r.2.2.2.2.2.2.2.2.2.2.1 ∧ (r.1 = 0 ∨ r.2.2.2.2.2.2.2.2.2.2.2.1 ≠ 3 ∨ x0_at < r.2.2.2.2.2.2.2.2.2.2.1) ∧ (r.1 = 0 ∨ WkM r.2.2.2.2.2.2.2.2.1))) := by
  unfold fX7_statement
  dsimp only [u35]
  refine Sf.bind (sX7_isWord hn (by grind) h_x0_from (by first | assumption | decide)) ?_
  intro v1 hr1
  obtain ⟨h_v1, hx_v1⟩ : (0 ≤ v1 ∧ v1 ≤ 1) ∧ (v1 = 0 ∨ x0_token = 1) := hr1
  refine Sf.ite (fun hc2 => ?_) (fun hc2 => ?_)
  · unfold fX7_statement_j114
    refine Sf.bind (sX7_isWord hn (by grind) h_x0_from (by first | assumption | decide)) ?_
    intro v3 hr3
    obtain ⟨h_v3, hx_v3⟩ : (0 ≤ v3 ∧ v3 ≤ 1) ∧ (v3 = 0 ∨ x0_token = 1) := hr3
    refine Sf.ite (fun hc4 => ?_) (fun hc4 => ?_)
    · unfold fX7_statement_j182
      refine Sf.bind (sX7_isWord hn (by grind) h_x0_from (by first | assumption | decide)) ?_
      intro v5 hr5
      obtain ⟨h_v5, hx_v5⟩ : (0 ≤ v5 ∧ v5 ≤ 1) ∧ (v5 = 0 ∨ x0_token = 1) := hr5
      refine Sf.ite (fun hc6 => ?_) (fun hc6 => ?_)
      · unfold fX7_statement_j214
        refine Sf.bind (sX7_isWord hn (by grind) h_x0_from (by first | assumption | decide)) ?_
        intro v7 hr7
        obtain ⟨h_v7, hx_v7⟩ : (0 ≤ v7 ∧ v7 ≤ 1) ∧ (v7 = 0 ∨ x0_token = 1) := hr7
        refine Sf.ite (fun hc8 => ?_) (fun hc8 => ?_)
        · refine Sf.bind (sX7_isWord hn (by grind) h_x0_from (by first | assumption | decide)) ?_
          intro v9 hr9
          obtain ⟨h_v9, hx_v9⟩ : (0 ≤ v9 ∧ v9 ≤ 1) ∧ (v9 = 0 ∨ x0_token = 1) := hr9
          refine Sf.ite (fun hc10 => ?_) (fun hc10 => ?_)
          · refine Sf.bind (sX7_toldN hn h_x0_shelf h_x0_rowSize h_x0_tapeSize h_x0_lines h_x0_line h_x0_changes h_x0_coins h_x0_goods h_x0_good h_x0_works h_x0_work h_x0_years h_x0_at h_x0_from h_x0_far h_x0_way h_x0_steps h_x0_queue (by first | assumption | rfl | decide | grind) (by first | assumption | rfl | decide | grind) (by first | assumption | rfl | decide | grind)) ?_
            rintro ⟨v11, ⟨g13, g14, g15, g16, g17, g18⟩⟩ hr11
            obtain ⟨h_g15, hx_v11⟩ : (0 ≤ g15 ∧ g15 ≤ 250) ∧ ((v11 = 0 ∨ v11 = 1) ∧ (0 ≤ g13 ∧ g13 ≤ x0_tapeSize) ∧ x0_at ≤ g13 ∧ (v11 = 0 ∨ g14 ≠ 3 ∨ x0_at < g13) ∧ (v11 = 0 ∨ (1 ≤ g18 0 ∧ g18 0 ≤ 30)) ∧ (v11 = 0 ∨ x0_token = 1)) := hr11
            dsimp only [u2, u6]
            refine Sf.ite (fun hc12 => ?_) (fun hc12 => ?_)
            · refine Sf.zbb (by grind) (fun v20 e_v20 => ?_)
              exact Sf.ok (show (0 ≤ x0_lines ∧ x0_lines ≤ 20) ∧ (LnM x0_line) ∧ (AI 0 99 x0_changes) ∧ (AI 0 9 x0_coins) ∧ (0 ≤ x0_goods ∧ x0_goods ≤ 8) ∧ (GdM x0_good) ∧ (0 ≤ x0_works ∧ x0_works ≤ 7) ∧ (WkB x0_work) ∧ (1 ≤ x0_years ∧ x0_years ≤ 30) ∧ (0 ≤ g15 ∧ g15 ≤ 250) ∧ ((v20 = 0 ∨ v20 = 1) ∧ (0 ≤ g13 ∧ g13 ≤ x0_tapeSize) ∧ x0_at ≤ g13 ∧ (v20 = 0 ∨ g14 ≠ 3 ∨ x0_at < g13) ∧ (v20 = 0 ∨ WkM x0_work)) from ⟨h_x0_lines, h_x0_line, h_x0_changes, h_x0_coins, h_x0_goods, h_x0_good, h_x0_works, (h_x0_work.1), h_x0_years, h_g15, (by grind)⟩)
            · refine Sf.rdl 0 rfl rfl (fun v21 e_v21 => ?_)
              refine Sf.zbb (by grind) (fun v22 e_v22 => ?_)
              exact Sf.ok (show (0 ≤ x0_lines ∧ x0_lines ≤ 20) ∧ (LnM x0_line) ∧ (AI 0 99 x0_changes) ∧ (AI 0 9 x0_coins) ∧ (0 ≤ x0_goods ∧ x0_goods ≤ 8) ∧ (GdM x0_good) ∧ (0 ≤ x0_works ∧ x0_works ≤ 7) ∧ (WkB x0_work) ∧ (1 ≤ v21 ∧ v21 ≤ 30) ∧ (0 ≤ g15 ∧ g15 ≤ 250) ∧ ((v22 = 0 ∨ v22 = 1) ∧ (0 ≤ g13 ∧ g13 ≤ x0_tapeSize) ∧ x0_at ≤ g13 ∧ (v22 = 0 ∨ g14 ≠ 3 ∨ x0_at < g13) ∧ (v22 = 0 ∨ WkM x0_work)) from ⟨h_x0_lines, h_x0_line, h_x0_changes, h_x0_coins, h_x0_goods, h_x0_good, h_x0_works, (h_x0_work.1), (by grind), h_g15, (by grind)⟩)
          · refine Sf.bind (sX7_toldN hn h_x0_shelf h_x0_rowSize h_x0_tapeSize h_x0_lines h_x0_line h_x0_changes h_x0_coins h_x0_goods h_x0_good h_x0_works h_x0_work h_x0_years h_x0_at h_x0_from h_x0_far h_x0_way h_x0_steps h_x0_queue (by first | assumption | rfl | decide | grind) (by first | assumption | rfl | decide | grind) (by first | assumption | rfl | decide | grind)) ?_
            rintro ⟨v23, ⟨g25, g26, g27, g28, g29, g30⟩⟩ hr13
            obtain ⟨h_g27, hx_v23⟩ : (0 ≤ g27 ∧ g27 ≤ 250) ∧ ((v23 = 0 ∨ v23 = 1) ∧ (0 ≤ g25 ∧ g25 ≤ x0_tapeSize) ∧ x0_at ≤ g25 ∧ (v23 = 0 ∨ g26 ≠ 3 ∨ x0_at < g25) ∧ (v23 = 0 ∨ (0 ≤ g30 0 ∧ g30 0 ≤ 2)) ∧ (v23 = 0 ∨ x0_token = 1)) := hr13
            dsimp only [u2, u6]
            refine Sf.ite (fun hc14 => ?_) (fun hc14 => ?_)
            · exact Sf.ok (show (0 ≤ x0_lines ∧ x0_lines ≤ 20) ∧ (LnM x0_line) ∧ (AI 0 99 x0_changes) ∧ (AI 0 9 x0_coins) ∧ (0 ≤ x0_goods ∧ x0_goods ≤ 8) ∧ (GdM x0_good) ∧ (0 ≤ x0_works ∧ x0_works ≤ 7) ∧ (WkB x0_work) ∧ (1 ≤ x0_years ∧ x0_years ≤ 30) ∧ (0 ≤ g27 ∧ g27 ≤ 250) ∧ ((0 = 0 ∨ 0 = 1) ∧ (0 ≤ g25 ∧ g25 ≤ x0_tapeSize) ∧ x0_at ≤ g25 ∧ (0 = 0 ∨ g26 ≠ 3 ∨ x0_at < g25) ∧ (0 = 0 ∨ WkM x0_work)) from ⟨h_x0_lines, h_x0_line, h_x0_changes, h_x0_coins, h_x0_goods, h_x0_good, h_x0_works, (h_x0_work.1), h_x0_years, h_g27, (by grind)⟩)
            · refine Sf.rdl 0 rfl rfl (fun v32 e_v32 => ?_)
              refine Sf.bind (sX7_numberO hn h_x0_shelf h_x0_rowSize h_x0_tapeSize h_x0_lines h_x0_line h_x0_changes h_x0_coins h_x0_goods h_x0_good h_x0_works h_x0_work h_x0_years (by grind) h_g27 h_x0_far h_x0_way h_x0_steps h_x0_queue (by first | assumption | rfl | decide | grind) (by first | assumption | rfl | decide | grind) (by first | assumption | rfl | decide | grind)) ?_
              rintro ⟨v33, ⟨g35, g36, g37, g38, g39, g40⟩⟩ hr15
              obtain ⟨h_g35, h_g38, hx_v33⟩ : (AI 0 9 g35) ∧ (0 ≤ g38 ∧ g38 ≤ 250) ∧ ((v33 = 0 ∨ v33 = 1) ∧ (0 ≤ g36 ∧ g36 ≤ x0_tapeSize) ∧ g25 ≤ g36 ∧ (v33 = 0 ∨ g37 ≠ 3 ∨ g25 < g36)) := hr15
              dsimp only [u2, u6]
              refine Sf.ite (fun hc16 => ?_) (fun hc16 => ?_)
              · exact Sf.ok (show (0 ≤ x0_lines ∧ x0_lines ≤ 20) ∧ (LnM x0_line) ∧ (AI 0 99 x0_changes) ∧ (AI 0 9 g35) ∧ (0 ≤ x0_goods ∧ x0_goods ≤ 8) ∧ (GdM x0_good) ∧ (0 ≤ x0_works ∧ x0_works ≤ 7) ∧ (WkB x0_work) ∧ (1 ≤ x0_years ∧ x0_years ≤ 30) ∧ (0 ≤ g38 ∧ g38 ≤ 250) ∧ ((0 = 0 ∨ 0 = 1) ∧ (0 ≤ g36 ∧ g36 ≤ x0_tapeSize) ∧ x0_at ≤ g36 ∧ (0 = 0 ∨ g37 ≠ 3 ∨ x0_at < g36) ∧ (0 = 0 ∨ WkM x0_work)) from ⟨h_x0_lines, h_x0_line, h_x0_changes, h_g35, h_x0_goods, h_x0_good, h_x0_works, (h_x0_work.1), h_x0_years, h_g38, (by grind)⟩)
              · exact Sf.ok (show (0 ≤ x0_lines ∧ x0_lines ≤ 20) ∧ (LnM x0_line) ∧ (AI 0 99 x0_changes) ∧ (AI 0 9 g35) ∧ (0 ≤ x0_goods ∧ x0_goods ≤ 8) ∧ (GdM x0_good) ∧ (0 ≤ x0_works ∧ x0_works ≤ 7) ∧ (WkB x0_work) ∧ (1 ≤ x0_years ∧ x0_years ≤ 30) ∧ (0 ≤ g38 ∧ g38 ≤ 250) ∧ ((1 = 0 ∨ 1 = 1) ∧ (0 ≤ g36 ∧ g36 ≤ x0_tapeSize) ∧ x0_at ≤ g36 ∧ (1 = 0 ∨ g37 ≠ 3 ∨ x0_at < g36) ∧ (1 = 0 ∨ WkM x0_work)) from ⟨h_x0_lines, h_x0_line, h_x0_changes, h_g35, h_x0_goods, h_x0_good, h_x0_works, (h_x0_work.1), h_x0_years, h_g38, (by grind)⟩)
        · refine Sf.bind (sX7_toldN hn h_x0_shelf h_x0_rowSize h_x0_tapeSize h_x0_lines h_x0_line h_x0_changes h_x0_coins h_x0_goods h_x0_good h_x0_works h_x0_work h_x0_years h_x0_at h_x0_from h_x0_far h_x0_way h_x0_steps h_x0_queue (by first | assumption | rfl | decide | grind) (by first | assumption | rfl | decide | grind) (by first | assumption | rfl | decide | grind)) ?_
          rintro ⟨v42, ⟨g44, g45, g46, g47, g48, g49⟩⟩ hr17
          obtain ⟨h_g46, hx_v42⟩ : (0 ≤ g46 ∧ g46 ≤ 250) ∧ ((v42 = 0 ∨ v42 = 1) ∧ (0 ≤ g44 ∧ g44 ≤ x0_tapeSize) ∧ x0_at ≤ g44 ∧ (v42 = 0 ∨ g45 ≠ 3 ∨ x0_at < g44) ∧ (v42 = 0 ∨ (0 ≤ g49 0 ∧ g49 0 ≤ 11)) ∧ (v42 = 0 ∨ x0_token = 1)) := hr17
          dsimp only [u2, u6]
          refine Sf.ite (fun hc18 => ?_) (fun hc18 => ?_)
          · exact Sf.ok (show (0 ≤ x0_lines ∧ x0_lines ≤ 20) ∧ (LnM x0_line) ∧ (AI 0 99 x0_changes) ∧ (AI 0 9 x0_coins) ∧ (0 ≤ x0_goods ∧ x0_goods ≤ 8) ∧ (GdM x0_good) ∧ (0 ≤ x0_works ∧ x0_works ≤ 7) ∧ (WkB x0_work) ∧ (1 ≤ x0_years ∧ x0_years ≤ 30) ∧ (0 ≤ g46 ∧ g46 ≤ 250) ∧ ((0 = 0 ∨ 0 = 1) ∧ (0 ≤ g44 ∧ g44 ≤ x0_tapeSize) ∧ x0_at ≤ g44 ∧ (0 = 0 ∨ g45 ≠ 3 ∨ x0_at < g44) ∧ (0 = 0 ∨ WkM x0_work)) from ⟨h_x0_lines, h_x0_line, h_x0_changes, h_x0_coins, h_x0_goods, h_x0_good, h_x0_works, (h_x0_work.1), h_x0_years, h_g46, (by grind)⟩)
          · refine Sf.rdl 0 rfl rfl (fun v51 e_v51 => ?_)
            refine Sf.bind (sX7_numberC hn h_x0_shelf h_x0_rowSize h_x0_tapeSize h_x0_lines h_x0_line h_x0_changes h_x0_coins h_x0_goods h_x0_good h_x0_works h_x0_work h_x0_years (by grind) h_g46 h_x0_far h_x0_way h_x0_steps h_x0_queue (by first | assumption | rfl | decide | grind) (by first | assumption | rfl | decide | grind) (by first | assumption | rfl | decide | grind)) ?_
            rintro ⟨v52, ⟨g54, g55, g56, g57, g58, g59⟩⟩ hr19
            obtain ⟨h_g54, h_g57, hx_v52⟩ : (AI 0 99 g54) ∧ (0 ≤ g57 ∧ g57 ≤ 250) ∧ ((v52 = 0 ∨ v52 = 1) ∧ (0 ≤ g55 ∧ g55 ≤ x0_tapeSize) ∧ g44 ≤ g55 ∧ (v52 = 0 ∨ g56 ≠ 3 ∨ g44 < g55)) := hr19
            dsimp only [u2, u6]
            refine Sf.ite (fun hc20 => ?_) (fun hc20 => ?_)
            · exact Sf.ok (show (0 ≤ x0_lines ∧ x0_lines ≤ 20) ∧ (LnM x0_line) ∧ (AI 0 99 g54) ∧ (AI 0 9 x0_coins) ∧ (0 ≤ x0_goods ∧ x0_goods ≤ 8) ∧ (GdM x0_good) ∧ (0 ≤ x0_works ∧ x0_works ≤ 7) ∧ (WkB x0_work) ∧ (1 ≤ x0_years ∧ x0_years ≤ 30) ∧ (0 ≤ g57 ∧ g57 ≤ 250) ∧ ((0 = 0 ∨ 0 = 1) ∧ (0 ≤ g55 ∧ g55 ≤ x0_tapeSize) ∧ x0_at ≤ g55 ∧ (0 = 0 ∨ g56 ≠ 3 ∨ x0_at < g55) ∧ (0 = 0 ∨ WkM x0_work)) from ⟨h_x0_lines, h_x0_line, h_g54, h_x0_coins, h_x0_goods, h_x0_good, h_x0_works, (h_x0_work.1), h_x0_years, h_g57, (by grind)⟩)
            · exact Sf.ok (show (0 ≤ x0_lines ∧ x0_lines ≤ 20) ∧ (LnM x0_line) ∧ (AI 0 99 g54) ∧ (AI 0 9 x0_coins) ∧ (0 ≤ x0_goods ∧ x0_goods ≤ 8) ∧ (GdM x0_good) ∧ (0 ≤ x0_works ∧ x0_works ≤ 7) ∧ (WkB x0_work) ∧ (1 ≤ x0_years ∧ x0_years ≤ 30) ∧ (0 ≤ g57 ∧ g57 ≤ 250) ∧ ((1 = 0 ∨ 1 = 1) ∧ (0 ≤ g55 ∧ g55 ≤ x0_tapeSize) ∧ x0_at ≤ g55 ∧ (1 = 0 ∨ g56 ≠ 3 ∨ x0_at < g55) ∧ (1 = 0 ∨ WkM x0_work)) from ⟨h_x0_lines, h_x0_line, h_g54, h_x0_coins, h_x0_goods, h_x0_good, h_x0_works, (h_x0_work.1), h_x0_years, h_g57, (by grind)⟩)
      · refine Sf.ite (fun hc21 => ?_) (fun hc21 => ?_)
        · unfold fX7_statement_j214
          refine Sf.bind (sX7_isWord hn (by grind) h_x0_from (by first | assumption | decide)) ?_
          intro v7 hr22
          obtain ⟨h_v7, hx_v7⟩ : (0 ≤ v7 ∧ v7 ≤ 1) ∧ (v7 = 0 ∨ x0_token = 1) := hr22
          refine Sf.ite (fun hc23 => ?_) (fun hc23 => ?_)
          · refine Sf.bind (sX7_isWord hn (by grind) h_x0_from (by first | assumption | decide)) ?_
            intro v9 hr24
            obtain ⟨h_v9, hx_v9⟩ : (0 ≤ v9 ∧ v9 ≤ 1) ∧ (v9 = 0 ∨ x0_token = 1) := hr24
            refine Sf.ite (fun hc25 => ?_) (fun hc25 => ?_)
            · refine Sf.bind (sX7_toldN hn h_x0_shelf h_x0_rowSize h_x0_tapeSize h_x0_lines h_x0_line h_x0_changes h_x0_coins h_x0_goods h_x0_good h_x0_works h_x0_work h_x0_years h_x0_at h_x0_from h_x0_far h_x0_way h_x0_steps h_x0_queue (by first | assumption | rfl | decide | grind) (by first | assumption | rfl | decide | grind) (by first | assumption | rfl | decide | grind)) ?_
              rintro ⟨v11, ⟨g13, g14, g15, g16, g17, g18⟩⟩ hr26
              obtain ⟨h_g15, hx_v11⟩ : (0 ≤ g15 ∧ g15 ≤ 250) ∧ ((v11 = 0 ∨ v11 = 1) ∧ (0 ≤ g13 ∧ g13 ≤ x0_tapeSize) ∧ x0_at ≤ g13 ∧ (v11 = 0 ∨ g14 ≠ 3 ∨ x0_at < g13) ∧ (v11 = 0 ∨ (1 ≤ g18 0 ∧ g18 0 ≤ 30)) ∧ (v11 = 0 ∨ x0_token = 1)) := hr26
              dsimp only [u2, u6]
              refine Sf.ite (fun hc27 => ?_) (fun hc27 => ?_)
              · refine Sf.zbb (by grind) (fun v20 e_v20 => ?_)
                exact Sf.ok (show (0 ≤ x0_lines ∧ x0_lines ≤ 20) ∧ (LnM x0_line) ∧ (AI 0 99 x0_changes) ∧ (AI 0 9 x0_coins) ∧ (0 ≤ x0_goods ∧ x0_goods ≤ 8) ∧ (GdM x0_good) ∧ (0 ≤ x0_works ∧ x0_works ≤ 7) ∧ (WkB x0_work) ∧ (1 ≤ x0_years ∧ x0_years ≤ 30) ∧ (0 ≤ g15 ∧ g15 ≤ 250) ∧ ((v20 = 0 ∨ v20 = 1) ∧ (0 ≤ g13 ∧ g13 ≤ x0_tapeSize) ∧ x0_at ≤ g13 ∧ (v20 = 0 ∨ g14 ≠ 3 ∨ x0_at < g13) ∧ (v20 = 0 ∨ WkM x0_work)) from ⟨h_x0_lines, h_x0_line, h_x0_changes, h_x0_coins, h_x0_goods, h_x0_good, h_x0_works, (h_x0_work.1), h_x0_years, h_g15, (by grind)⟩)
              · refine Sf.rdl 0 rfl rfl (fun v21 e_v21 => ?_)
                refine Sf.zbb (by grind) (fun v22 e_v22 => ?_)
                exact Sf.ok (show (0 ≤ x0_lines ∧ x0_lines ≤ 20) ∧ (LnM x0_line) ∧ (AI 0 99 x0_changes) ∧ (AI 0 9 x0_coins) ∧ (0 ≤ x0_goods ∧ x0_goods ≤ 8) ∧ (GdM x0_good) ∧ (0 ≤ x0_works ∧ x0_works ≤ 7) ∧ (WkB x0_work) ∧ (1 ≤ v21 ∧ v21 ≤ 30) ∧ (0 ≤ g15 ∧ g15 ≤ 250) ∧ ((v22 = 0 ∨ v22 = 1) ∧ (0 ≤ g13 ∧ g13 ≤ x0_tapeSize) ∧ x0_at ≤ g13 ∧ (v22 = 0 ∨ g14 ≠ 3 ∨ x0_at < g13) ∧ (v22 = 0 ∨ WkM x0_work)) from ⟨h_x0_lines, h_x0_line, h_x0_changes, h_x0_coins, h_x0_goods, h_x0_good, h_x0_works, (h_x0_work.1), (by grind), h_g15, (by grind)⟩)
            · refine Sf.bind (sX7_toldN hn h_x0_shelf h_x0_rowSize h_x0_tapeSize h_x0_lines h_x0_line h_x0_changes h_x0_coins h_x0_goods h_x0_good h_x0_works h_x0_work h_x0_years h_x0_at h_x0_from h_x0_far h_x0_way h_x0_steps h_x0_queue (by first | assumption | rfl | decide | grind) (by first | assumption | rfl | decide | grind) (by first | assumption | rfl | decide | grind)) ?_
              rintro ⟨v23, ⟨g25, g26, g27, g28, g29, g30⟩⟩ hr28
              obtain ⟨h_g27, hx_v23⟩ : (0 ≤ g27 ∧ g27 ≤ 250) ∧ ((v23 = 0 ∨ v23 = 1) ∧ (0 ≤ g25 ∧ g25 ≤ x0_tapeSize) ∧ x0_at ≤ g25 ∧ (v23 = 0 ∨ g26 ≠ 3 ∨ x0_at < g25) ∧ (v23 = 0 ∨ (0 ≤ g30 0 ∧ g30 0 ≤ 2)) ∧ (v23 = 0 ∨ x0_token = 1)) := hr28
              dsimp only [u2, u6]
              refine Sf.ite (fun hc29 => ?_) (fun hc29 => ?_)
              · exact Sf.ok (show (0 ≤ x0_lines ∧ x0_lines ≤ 20) ∧ (LnM x0_line) ∧ (AI 0 99 x0_changes) ∧ (AI 0 9 x0_coins) ∧ (0 ≤ x0_goods ∧ x0_goods ≤ 8) ∧ (GdM x0_good) ∧ (0 ≤ x0_works ∧ x0_works ≤ 7) ∧ (WkB x0_work) ∧ (1 ≤ x0_years ∧ x0_years ≤ 30) ∧ (0 ≤ g27 ∧ g27 ≤ 250) ∧ ((0 = 0 ∨ 0 = 1) ∧ (0 ≤ g25 ∧ g25 ≤ x0_tapeSize) ∧ x0_at ≤ g25 ∧ (0 = 0 ∨ g26 ≠ 3 ∨ x0_at < g25) ∧ (0 = 0 ∨ WkM x0_work)) from ⟨h_x0_lines, h_x0_line, h_x0_changes, h_x0_coins, h_x0_goods, h_x0_good, h_x0_works, (h_x0_work.1), h_x0_years, h_g27, (by grind)⟩)
              · refine Sf.rdl 0 rfl rfl (fun v32 e_v32 => ?_)
                refine Sf.bind (sX7_numberO hn h_x0_shelf h_x0_rowSize h_x0_tapeSize h_x0_lines h_x0_line h_x0_changes h_x0_coins h_x0_goods h_x0_good h_x0_works h_x0_work h_x0_years (by grind) h_g27 h_x0_far h_x0_way h_x0_steps h_x0_queue (by first | assumption | rfl | decide | grind) (by first | assumption | rfl | decide | grind) (by first | assumption | rfl | decide | grind)) ?_
                rintro ⟨v33, ⟨g35, g36, g37, g38, g39, g40⟩⟩ hr30
                obtain ⟨h_g35, h_g38, hx_v33⟩ : (AI 0 9 g35) ∧ (0 ≤ g38 ∧ g38 ≤ 250) ∧ ((v33 = 0 ∨ v33 = 1) ∧ (0 ≤ g36 ∧ g36 ≤ x0_tapeSize) ∧ g25 ≤ g36 ∧ (v33 = 0 ∨ g37 ≠ 3 ∨ g25 < g36)) := hr30
                dsimp only [u2, u6]
                refine Sf.ite (fun hc31 => ?_) (fun hc31 => ?_)
                · exact Sf.ok (show (0 ≤ x0_lines ∧ x0_lines ≤ 20) ∧ (LnM x0_line) ∧ (AI 0 99 x0_changes) ∧ (AI 0 9 g35) ∧ (0 ≤ x0_goods ∧ x0_goods ≤ 8) ∧ (GdM x0_good) ∧ (0 ≤ x0_works ∧ x0_works ≤ 7) ∧ (WkB x0_work) ∧ (1 ≤ x0_years ∧ x0_years ≤ 30) ∧ (0 ≤ g38 ∧ g38 ≤ 250) ∧ ((0 = 0 ∨ 0 = 1) ∧ (0 ≤ g36 ∧ g36 ≤ x0_tapeSize) ∧ x0_at ≤ g36 ∧ (0 = 0 ∨ g37 ≠ 3 ∨ x0_at < g36) ∧ (0 = 0 ∨ WkM x0_work)) from ⟨h_x0_lines, h_x0_line, h_x0_changes, h_g35, h_x0_goods, h_x0_good, h_x0_works, (h_x0_work.1), h_x0_years, h_g38, (by grind)⟩)
                · exact Sf.ok (show (0 ≤ x0_lines ∧ x0_lines ≤ 20) ∧ (LnM x0_line) ∧ (AI 0 99 x0_changes) ∧ (AI 0 9 g35) ∧ (0 ≤ x0_goods ∧ x0_goods ≤ 8) ∧ (GdM x0_good) ∧ (0 ≤ x0_works ∧ x0_works ≤ 7) ∧ (WkB x0_work) ∧ (1 ≤ x0_years ∧ x0_years ≤ 30) ∧ (0 ≤ g38 ∧ g38 ≤ 250) ∧ ((1 = 0 ∨ 1 = 1) ∧ (0 ≤ g36 ∧ g36 ≤ x0_tapeSize) ∧ x0_at ≤ g36 ∧ (1 = 0 ∨ g37 ≠ 3 ∨ x0_at < g36) ∧ (1 = 0 ∨ WkM x0_work)) from ⟨h_x0_lines, h_x0_line, h_x0_changes, h_g35, h_x0_goods, h_x0_good, h_x0_works, (h_x0_work.1), h_x0_years, h_g38, (by grind)⟩)
          · refine Sf.bind (sX7_toldN hn h_x0_shelf h_x0_rowSize h_x0_tapeSize h_x0_lines h_x0_line h_x0_changes h_x0_coins h_x0_goods h_x0_good h_x0_works h_x0_work h_x0_years h_x0_at h_x0_from h_x0_far h_x0_way h_x0_steps h_x0_queue (by first | assumption | rfl | decide | grind) (by first | assumption | rfl | decide | grind) (by first | assumption | rfl | decide | grind)) ?_
            rintro ⟨v42, ⟨g44, g45, g46, g47, g48, g49⟩⟩ hr32
            obtain ⟨h_g46, hx_v42⟩ : (0 ≤ g46 ∧ g46 ≤ 250) ∧ ((v42 = 0 ∨ v42 = 1) ∧ (0 ≤ g44 ∧ g44 ≤ x0_tapeSize) ∧ x0_at ≤ g44 ∧ (v42 = 0 ∨ g45 ≠ 3 ∨ x0_at < g44) ∧ (v42 = 0 ∨ (0 ≤ g49 0 ∧ g49 0 ≤ 11)) ∧ (v42 = 0 ∨ x0_token = 1)) := hr32
            dsimp only [u2, u6]
            refine Sf.ite (fun hc33 => ?_) (fun hc33 => ?_)
            · exact Sf.ok (show (0 ≤ x0_lines ∧ x0_lines ≤ 20) ∧ (LnM x0_line) ∧ (AI 0 99 x0_changes) ∧ (AI 0 9 x0_coins) ∧ (0 ≤ x0_goods ∧ x0_goods ≤ 8) ∧ (GdM x0_good) ∧ (0 ≤ x0_works ∧ x0_works ≤ 7) ∧ (WkB x0_work) ∧ (1 ≤ x0_years ∧ x0_years ≤ 30) ∧ (0 ≤ g46 ∧ g46 ≤ 250) ∧ ((0 = 0 ∨ 0 = 1) ∧ (0 ≤ g44 ∧ g44 ≤ x0_tapeSize) ∧ x0_at ≤ g44 ∧ (0 = 0 ∨ g45 ≠ 3 ∨ x0_at < g44) ∧ (0 = 0 ∨ WkM x0_work)) from ⟨h_x0_lines, h_x0_line, h_x0_changes, h_x0_coins, h_x0_goods, h_x0_good, h_x0_works, (h_x0_work.1), h_x0_years, h_g46, (by grind)⟩)
            · refine Sf.rdl 0 rfl rfl (fun v51 e_v51 => ?_)
              refine Sf.bind (sX7_numberC hn h_x0_shelf h_x0_rowSize h_x0_tapeSize h_x0_lines h_x0_line h_x0_changes h_x0_coins h_x0_goods h_x0_good h_x0_works h_x0_work h_x0_years (by grind) h_g46 h_x0_far h_x0_way h_x0_steps h_x0_queue (by first | assumption | rfl | decide | grind) (by first | assumption | rfl | decide | grind) (by first | assumption | rfl | decide | grind)) ?_
              rintro ⟨v52, ⟨g54, g55, g56, g57, g58, g59⟩⟩ hr34
              obtain ⟨h_g54, h_g57, hx_v52⟩ : (AI 0 99 g54) ∧ (0 ≤ g57 ∧ g57 ≤ 250) ∧ ((v52 = 0 ∨ v52 = 1) ∧ (0 ≤ g55 ∧ g55 ≤ x0_tapeSize) ∧ g44 ≤ g55 ∧ (v52 = 0 ∨ g56 ≠ 3 ∨ g44 < g55)) := hr34
              dsimp only [u2, u6]
              refine Sf.ite (fun hc35 => ?_) (fun hc35 => ?_)
              · exact Sf.ok (show (0 ≤ x0_lines ∧ x0_lines ≤ 20) ∧ (LnM x0_line) ∧ (AI 0 99 g54) ∧ (AI 0 9 x0_coins) ∧ (0 ≤ x0_goods ∧ x0_goods ≤ 8) ∧ (GdM x0_good) ∧ (0 ≤ x0_works ∧ x0_works ≤ 7) ∧ (WkB x0_work) ∧ (1 ≤ x0_years ∧ x0_years ≤ 30) ∧ (0 ≤ g57 ∧ g57 ≤ 250) ∧ ((0 = 0 ∨ 0 = 1) ∧ (0 ≤ g55 ∧ g55 ≤ x0_tapeSize) ∧ x0_at ≤ g55 ∧ (0 = 0 ∨ g56 ≠ 3 ∨ x0_at < g55) ∧ (0 = 0 ∨ WkM x0_work)) from ⟨h_x0_lines, h_x0_line, h_g54, h_x0_coins, h_x0_goods, h_x0_good, h_x0_works, (h_x0_work.1), h_x0_years, h_g57, (by grind)⟩)
              · exact Sf.ok (show (0 ≤ x0_lines ∧ x0_lines ≤ 20) ∧ (LnM x0_line) ∧ (AI 0 99 g54) ∧ (AI 0 9 x0_coins) ∧ (0 ≤ x0_goods ∧ x0_goods ≤ 8) ∧ (GdM x0_good) ∧ (0 ≤ x0_works ∧ x0_works ≤ 7) ∧ (WkB x0_work) ∧ (1 ≤ x0_years ∧ x0_years ≤ 30) ∧ (0 ≤ g57 ∧ g57 ≤ 250) ∧ ((1 = 0 ∨ 1 = 1) ∧ (0 ≤ g55 ∧ g55 ≤ x0_tapeSize) ∧ x0_at ≤ g55 ∧ (1 = 0 ∨ g56 ≠ 3 ∨ x0_at < g55) ∧ (1 = 0 ∨ WkM x0_work)) from ⟨h_x0_lines, h_x0_line, h_g54, h_x0_coins, h_x0_goods, h_x0_good, h_x0_works, (h_x0_work.1), h_x0_years, h_g57, (by grind)⟩)
        · refine Sf.ckb 7 rfl (by grind) (fun q61 e_q61 h_q61 => ?_)
          refine Sf.bind (sX7_workTold hn h_x0_shelf h_x0_rowSize h_x0_tapeSize h_x0_lines h_x0_line h_x0_changes h_x0_coins h_x0_goods h_x0_good h_x0_works h_x0_work h_x0_years h_x0_at h_x0_from h_x0_far h_x0_way h_x0_steps h_x0_queue (h_x0_work.1 q61) (by first | assumption | rfl | decide | grind) (by first | assumption | rfl | decide | grind)) ?_
          rintro ⟨v62, ⟨g64, g65, g66, g67, g68, g69⟩, g70⟩ hr36
          obtain ⟨h_g64, h_g67, h_g70, hx_v62⟩ : (0 ≤ g64 ∧ g64 ≤ 7) ∧ (0 ≤ g67 ∧ g67 ≤ 250) ∧ (RI wkB g70) ∧ ((v62 = 0 ∨ v62 = 1) ∧ (0 ≤ g65 ∧ g65 ≤ x0_tapeSize) ∧ x0_at ≤ g65 ∧ (v62 = 0 ∨ g66 ≠ 3 ∨ x0_at < g65) ∧ (v62 = 0 ∨ (x0_token = 1 ∧ WkRm (g70 0) (g70 1) (g70 2)))) := hr36
          dsimp only [u3, u6]
          have hW : v62 = 0 ∨ WkM (va_up x0_work q61 g70) := by
            rcases hx_v62.2.2.2.2 with h | h
            · exact Or.inl h
            · exact Or.inr (WkM.up h_x0_work h_g70 h.2)
          refine Sf.zbb (by grind) (fun v72 e_v72 => ?_)
          exact Sf.ok (show (0 ≤ x0_lines ∧ x0_lines ≤ 20) ∧ (LnM x0_line) ∧ (AI 0 99 x0_changes) ∧ (AI 0 9 x0_coins) ∧ (0 ≤ x0_goods ∧ x0_goods ≤ 8) ∧ (GdM x0_good) ∧ (0 ≤ g64 ∧ g64 ≤ 7) ∧ (WkB (va_up x0_work q61 g70)) ∧ (1 ≤ x0_years ∧ x0_years ≤ 30) ∧ (0 ≤ g67 ∧ g67 ≤ 250) ∧ ((v72 = 0 ∨ v72 = 1) ∧ (0 ≤ g65 ∧ g65 ≤ x0_tapeSize) ∧ x0_at ≤ g65 ∧ (v72 = 0 ∨ g66 ≠ 3 ∨ x0_at < g65) ∧ (v72 = 0 ∨ WkM (va_up x0_work q61 g70))) from ⟨h_x0_lines, h_x0_line, h_x0_changes, h_x0_coins, h_x0_goods, h_x0_good, h_g64, (GI.up (h_x0_work.1) h_g70), h_x0_years, h_g67, (by grind)⟩)
    · refine Sf.ite (fun hc37 => ?_) (fun hc37 => ?_)
      · unfold fX7_statement_j182
        refine Sf.bind (sX7_isWord hn (by grind) h_x0_from (by first | assumption | decide)) ?_
        intro v5 hr38
        obtain ⟨h_v5, hx_v5⟩ : (0 ≤ v5 ∧ v5 ≤ 1) ∧ (v5 = 0 ∨ x0_token = 1) := hr38
        refine Sf.ite (fun hc39 => ?_) (fun hc39 => ?_)
        · unfold fX7_statement_j214
          refine Sf.bind (sX7_isWord hn (by grind) h_x0_from (by first | assumption | decide)) ?_
          intro v7 hr40
          obtain ⟨h_v7, hx_v7⟩ : (0 ≤ v7 ∧ v7 ≤ 1) ∧ (v7 = 0 ∨ x0_token = 1) := hr40
          refine Sf.ite (fun hc41 => ?_) (fun hc41 => ?_)
          · refine Sf.bind (sX7_isWord hn (by grind) h_x0_from (by first | assumption | decide)) ?_
            intro v9 hr42
            obtain ⟨h_v9, hx_v9⟩ : (0 ≤ v9 ∧ v9 ≤ 1) ∧ (v9 = 0 ∨ x0_token = 1) := hr42
            refine Sf.ite (fun hc43 => ?_) (fun hc43 => ?_)
            · refine Sf.bind (sX7_toldN hn h_x0_shelf h_x0_rowSize h_x0_tapeSize h_x0_lines h_x0_line h_x0_changes h_x0_coins h_x0_goods h_x0_good h_x0_works h_x0_work h_x0_years h_x0_at h_x0_from h_x0_far h_x0_way h_x0_steps h_x0_queue (by first | assumption | rfl | decide | grind) (by first | assumption | rfl | decide | grind) (by first | assumption | rfl | decide | grind)) ?_
              rintro ⟨v11, ⟨g13, g14, g15, g16, g17, g18⟩⟩ hr44
              obtain ⟨h_g15, hx_v11⟩ : (0 ≤ g15 ∧ g15 ≤ 250) ∧ ((v11 = 0 ∨ v11 = 1) ∧ (0 ≤ g13 ∧ g13 ≤ x0_tapeSize) ∧ x0_at ≤ g13 ∧ (v11 = 0 ∨ g14 ≠ 3 ∨ x0_at < g13) ∧ (v11 = 0 ∨ (1 ≤ g18 0 ∧ g18 0 ≤ 30)) ∧ (v11 = 0 ∨ x0_token = 1)) := hr44
              dsimp only [u2, u6]
              refine Sf.ite (fun hc45 => ?_) (fun hc45 => ?_)
              · refine Sf.zbb (by grind) (fun v20 e_v20 => ?_)
                exact Sf.ok (show (0 ≤ x0_lines ∧ x0_lines ≤ 20) ∧ (LnM x0_line) ∧ (AI 0 99 x0_changes) ∧ (AI 0 9 x0_coins) ∧ (0 ≤ x0_goods ∧ x0_goods ≤ 8) ∧ (GdM x0_good) ∧ (0 ≤ x0_works ∧ x0_works ≤ 7) ∧ (WkB x0_work) ∧ (1 ≤ x0_years ∧ x0_years ≤ 30) ∧ (0 ≤ g15 ∧ g15 ≤ 250) ∧ ((v20 = 0 ∨ v20 = 1) ∧ (0 ≤ g13 ∧ g13 ≤ x0_tapeSize) ∧ x0_at ≤ g13 ∧ (v20 = 0 ∨ g14 ≠ 3 ∨ x0_at < g13) ∧ (v20 = 0 ∨ WkM x0_work)) from ⟨h_x0_lines, h_x0_line, h_x0_changes, h_x0_coins, h_x0_goods, h_x0_good, h_x0_works, (h_x0_work.1), h_x0_years, h_g15, (by grind)⟩)
              · refine Sf.rdl 0 rfl rfl (fun v21 e_v21 => ?_)
                refine Sf.zbb (by grind) (fun v22 e_v22 => ?_)
                exact Sf.ok (show (0 ≤ x0_lines ∧ x0_lines ≤ 20) ∧ (LnM x0_line) ∧ (AI 0 99 x0_changes) ∧ (AI 0 9 x0_coins) ∧ (0 ≤ x0_goods ∧ x0_goods ≤ 8) ∧ (GdM x0_good) ∧ (0 ≤ x0_works ∧ x0_works ≤ 7) ∧ (WkB x0_work) ∧ (1 ≤ v21 ∧ v21 ≤ 30) ∧ (0 ≤ g15 ∧ g15 ≤ 250) ∧ ((v22 = 0 ∨ v22 = 1) ∧ (0 ≤ g13 ∧ g13 ≤ x0_tapeSize) ∧ x0_at ≤ g13 ∧ (v22 = 0 ∨ g14 ≠ 3 ∨ x0_at < g13) ∧ (v22 = 0 ∨ WkM x0_work)) from ⟨h_x0_lines, h_x0_line, h_x0_changes, h_x0_coins, h_x0_goods, h_x0_good, h_x0_works, (h_x0_work.1), (by grind), h_g15, (by grind)⟩)
            · refine Sf.bind (sX7_toldN hn h_x0_shelf h_x0_rowSize h_x0_tapeSize h_x0_lines h_x0_line h_x0_changes h_x0_coins h_x0_goods h_x0_good h_x0_works h_x0_work h_x0_years h_x0_at h_x0_from h_x0_far h_x0_way h_x0_steps h_x0_queue (by first | assumption | rfl | decide | grind) (by first | assumption | rfl | decide | grind) (by first | assumption | rfl | decide | grind)) ?_
              rintro ⟨v23, ⟨g25, g26, g27, g28, g29, g30⟩⟩ hr46
              obtain ⟨h_g27, hx_v23⟩ : (0 ≤ g27 ∧ g27 ≤ 250) ∧ ((v23 = 0 ∨ v23 = 1) ∧ (0 ≤ g25 ∧ g25 ≤ x0_tapeSize) ∧ x0_at ≤ g25 ∧ (v23 = 0 ∨ g26 ≠ 3 ∨ x0_at < g25) ∧ (v23 = 0 ∨ (0 ≤ g30 0 ∧ g30 0 ≤ 2)) ∧ (v23 = 0 ∨ x0_token = 1)) := hr46
              dsimp only [u2, u6]
              refine Sf.ite (fun hc47 => ?_) (fun hc47 => ?_)
              · exact Sf.ok (show (0 ≤ x0_lines ∧ x0_lines ≤ 20) ∧ (LnM x0_line) ∧ (AI 0 99 x0_changes) ∧ (AI 0 9 x0_coins) ∧ (0 ≤ x0_goods ∧ x0_goods ≤ 8) ∧ (GdM x0_good) ∧ (0 ≤ x0_works ∧ x0_works ≤ 7) ∧ (WkB x0_work) ∧ (1 ≤ x0_years ∧ x0_years ≤ 30) ∧ (0 ≤ g27 ∧ g27 ≤ 250) ∧ ((0 = 0 ∨ 0 = 1) ∧ (0 ≤ g25 ∧ g25 ≤ x0_tapeSize) ∧ x0_at ≤ g25 ∧ (0 = 0 ∨ g26 ≠ 3 ∨ x0_at < g25) ∧ (0 = 0 ∨ WkM x0_work)) from ⟨h_x0_lines, h_x0_line, h_x0_changes, h_x0_coins, h_x0_goods, h_x0_good, h_x0_works, (h_x0_work.1), h_x0_years, h_g27, (by grind)⟩)
              · refine Sf.rdl 0 rfl rfl (fun v32 e_v32 => ?_)
                refine Sf.bind (sX7_numberO hn h_x0_shelf h_x0_rowSize h_x0_tapeSize h_x0_lines h_x0_line h_x0_changes h_x0_coins h_x0_goods h_x0_good h_x0_works h_x0_work h_x0_years (by grind) h_g27 h_x0_far h_x0_way h_x0_steps h_x0_queue (by first | assumption | rfl | decide | grind) (by first | assumption | rfl | decide | grind) (by first | assumption | rfl | decide | grind)) ?_
                rintro ⟨v33, ⟨g35, g36, g37, g38, g39, g40⟩⟩ hr48
                obtain ⟨h_g35, h_g38, hx_v33⟩ : (AI 0 9 g35) ∧ (0 ≤ g38 ∧ g38 ≤ 250) ∧ ((v33 = 0 ∨ v33 = 1) ∧ (0 ≤ g36 ∧ g36 ≤ x0_tapeSize) ∧ g25 ≤ g36 ∧ (v33 = 0 ∨ g37 ≠ 3 ∨ g25 < g36)) := hr48
                dsimp only [u2, u6]
                refine Sf.ite (fun hc49 => ?_) (fun hc49 => ?_)
                · exact Sf.ok (show (0 ≤ x0_lines ∧ x0_lines ≤ 20) ∧ (LnM x0_line) ∧ (AI 0 99 x0_changes) ∧ (AI 0 9 g35) ∧ (0 ≤ x0_goods ∧ x0_goods ≤ 8) ∧ (GdM x0_good) ∧ (0 ≤ x0_works ∧ x0_works ≤ 7) ∧ (WkB x0_work) ∧ (1 ≤ x0_years ∧ x0_years ≤ 30) ∧ (0 ≤ g38 ∧ g38 ≤ 250) ∧ ((0 = 0 ∨ 0 = 1) ∧ (0 ≤ g36 ∧ g36 ≤ x0_tapeSize) ∧ x0_at ≤ g36 ∧ (0 = 0 ∨ g37 ≠ 3 ∨ x0_at < g36) ∧ (0 = 0 ∨ WkM x0_work)) from ⟨h_x0_lines, h_x0_line, h_x0_changes, h_g35, h_x0_goods, h_x0_good, h_x0_works, (h_x0_work.1), h_x0_years, h_g38, (by grind)⟩)
                · exact Sf.ok (show (0 ≤ x0_lines ∧ x0_lines ≤ 20) ∧ (LnM x0_line) ∧ (AI 0 99 x0_changes) ∧ (AI 0 9 g35) ∧ (0 ≤ x0_goods ∧ x0_goods ≤ 8) ∧ (GdM x0_good) ∧ (0 ≤ x0_works ∧ x0_works ≤ 7) ∧ (WkB x0_work) ∧ (1 ≤ x0_years ∧ x0_years ≤ 30) ∧ (0 ≤ g38 ∧ g38 ≤ 250) ∧ ((1 = 0 ∨ 1 = 1) ∧ (0 ≤ g36 ∧ g36 ≤ x0_tapeSize) ∧ x0_at ≤ g36 ∧ (1 = 0 ∨ g37 ≠ 3 ∨ x0_at < g36) ∧ (1 = 0 ∨ WkM x0_work)) from ⟨h_x0_lines, h_x0_line, h_x0_changes, h_g35, h_x0_goods, h_x0_good, h_x0_works, (h_x0_work.1), h_x0_years, h_g38, (by grind)⟩)
          · refine Sf.bind (sX7_toldN hn h_x0_shelf h_x0_rowSize h_x0_tapeSize h_x0_lines h_x0_line h_x0_changes h_x0_coins h_x0_goods h_x0_good h_x0_works h_x0_work h_x0_years h_x0_at h_x0_from h_x0_far h_x0_way h_x0_steps h_x0_queue (by first | assumption | rfl | decide | grind) (by first | assumption | rfl | decide | grind) (by first | assumption | rfl | decide | grind)) ?_
            rintro ⟨v42, ⟨g44, g45, g46, g47, g48, g49⟩⟩ hr50
            obtain ⟨h_g46, hx_v42⟩ : (0 ≤ g46 ∧ g46 ≤ 250) ∧ ((v42 = 0 ∨ v42 = 1) ∧ (0 ≤ g44 ∧ g44 ≤ x0_tapeSize) ∧ x0_at ≤ g44 ∧ (v42 = 0 ∨ g45 ≠ 3 ∨ x0_at < g44) ∧ (v42 = 0 ∨ (0 ≤ g49 0 ∧ g49 0 ≤ 11)) ∧ (v42 = 0 ∨ x0_token = 1)) := hr50
            dsimp only [u2, u6]
            refine Sf.ite (fun hc51 => ?_) (fun hc51 => ?_)
            · exact Sf.ok (show (0 ≤ x0_lines ∧ x0_lines ≤ 20) ∧ (LnM x0_line) ∧ (AI 0 99 x0_changes) ∧ (AI 0 9 x0_coins) ∧ (0 ≤ x0_goods ∧ x0_goods ≤ 8) ∧ (GdM x0_good) ∧ (0 ≤ x0_works ∧ x0_works ≤ 7) ∧ (WkB x0_work) ∧ (1 ≤ x0_years ∧ x0_years ≤ 30) ∧ (0 ≤ g46 ∧ g46 ≤ 250) ∧ ((0 = 0 ∨ 0 = 1) ∧ (0 ≤ g44 ∧ g44 ≤ x0_tapeSize) ∧ x0_at ≤ g44 ∧ (0 = 0 ∨ g45 ≠ 3 ∨ x0_at < g44) ∧ (0 = 0 ∨ WkM x0_work)) from ⟨h_x0_lines, h_x0_line, h_x0_changes, h_x0_coins, h_x0_goods, h_x0_good, h_x0_works, (h_x0_work.1), h_x0_years, h_g46, (by grind)⟩)
            · refine Sf.rdl 0 rfl rfl (fun v51 e_v51 => ?_)
              refine Sf.bind (sX7_numberC hn h_x0_shelf h_x0_rowSize h_x0_tapeSize h_x0_lines h_x0_line h_x0_changes h_x0_coins h_x0_goods h_x0_good h_x0_works h_x0_work h_x0_years (by grind) h_g46 h_x0_far h_x0_way h_x0_steps h_x0_queue (by first | assumption | rfl | decide | grind) (by first | assumption | rfl | decide | grind) (by first | assumption | rfl | decide | grind)) ?_
              rintro ⟨v52, ⟨g54, g55, g56, g57, g58, g59⟩⟩ hr52
              obtain ⟨h_g54, h_g57, hx_v52⟩ : (AI 0 99 g54) ∧ (0 ≤ g57 ∧ g57 ≤ 250) ∧ ((v52 = 0 ∨ v52 = 1) ∧ (0 ≤ g55 ∧ g55 ≤ x0_tapeSize) ∧ g44 ≤ g55 ∧ (v52 = 0 ∨ g56 ≠ 3 ∨ g44 < g55)) := hr52
              dsimp only [u2, u6]
              refine Sf.ite (fun hc53 => ?_) (fun hc53 => ?_)
              · exact Sf.ok (show (0 ≤ x0_lines ∧ x0_lines ≤ 20) ∧ (LnM x0_line) ∧ (AI 0 99 g54) ∧ (AI 0 9 x0_coins) ∧ (0 ≤ x0_goods ∧ x0_goods ≤ 8) ∧ (GdM x0_good) ∧ (0 ≤ x0_works ∧ x0_works ≤ 7) ∧ (WkB x0_work) ∧ (1 ≤ x0_years ∧ x0_years ≤ 30) ∧ (0 ≤ g57 ∧ g57 ≤ 250) ∧ ((0 = 0 ∨ 0 = 1) ∧ (0 ≤ g55 ∧ g55 ≤ x0_tapeSize) ∧ x0_at ≤ g55 ∧ (0 = 0 ∨ g56 ≠ 3 ∨ x0_at < g55) ∧ (0 = 0 ∨ WkM x0_work)) from ⟨h_x0_lines, h_x0_line, h_g54, h_x0_coins, h_x0_goods, h_x0_good, h_x0_works, (h_x0_work.1), h_x0_years, h_g57, (by grind)⟩)
              · exact Sf.ok (show (0 ≤ x0_lines ∧ x0_lines ≤ 20) ∧ (LnM x0_line) ∧ (AI 0 99 g54) ∧ (AI 0 9 x0_coins) ∧ (0 ≤ x0_goods ∧ x0_goods ≤ 8) ∧ (GdM x0_good) ∧ (0 ≤ x0_works ∧ x0_works ≤ 7) ∧ (WkB x0_work) ∧ (1 ≤ x0_years ∧ x0_years ≤ 30) ∧ (0 ≤ g57 ∧ g57 ≤ 250) ∧ ((1 = 0 ∨ 1 = 1) ∧ (0 ≤ g55 ∧ g55 ≤ x0_tapeSize) ∧ x0_at ≤ g55 ∧ (1 = 0 ∨ g56 ≠ 3 ∨ x0_at < g55) ∧ (1 = 0 ∨ WkM x0_work)) from ⟨h_x0_lines, h_x0_line, h_g54, h_x0_coins, h_x0_goods, h_x0_good, h_x0_works, (h_x0_work.1), h_x0_years, h_g57, (by grind)⟩)
        · refine Sf.ite (fun hc54 => ?_) (fun hc54 => ?_)
          · unfold fX7_statement_j214
            refine Sf.bind (sX7_isWord hn (by grind) h_x0_from (by first | assumption | decide)) ?_
            intro v7 hr55
            obtain ⟨h_v7, hx_v7⟩ : (0 ≤ v7 ∧ v7 ≤ 1) ∧ (v7 = 0 ∨ x0_token = 1) := hr55
            refine Sf.ite (fun hc56 => ?_) (fun hc56 => ?_)
            · refine Sf.bind (sX7_isWord hn (by grind) h_x0_from (by first | assumption | decide)) ?_
              intro v9 hr57
              obtain ⟨h_v9, hx_v9⟩ : (0 ≤ v9 ∧ v9 ≤ 1) ∧ (v9 = 0 ∨ x0_token = 1) := hr57
              refine Sf.ite (fun hc58 => ?_) (fun hc58 => ?_)
              · refine Sf.bind (sX7_toldN hn h_x0_shelf h_x0_rowSize h_x0_tapeSize h_x0_lines h_x0_line h_x0_changes h_x0_coins h_x0_goods h_x0_good h_x0_works h_x0_work h_x0_years h_x0_at h_x0_from h_x0_far h_x0_way h_x0_steps h_x0_queue (by first | assumption | rfl | decide | grind) (by first | assumption | rfl | decide | grind) (by first | assumption | rfl | decide | grind)) ?_
                rintro ⟨v11, ⟨g13, g14, g15, g16, g17, g18⟩⟩ hr59
                obtain ⟨h_g15, hx_v11⟩ : (0 ≤ g15 ∧ g15 ≤ 250) ∧ ((v11 = 0 ∨ v11 = 1) ∧ (0 ≤ g13 ∧ g13 ≤ x0_tapeSize) ∧ x0_at ≤ g13 ∧ (v11 = 0 ∨ g14 ≠ 3 ∨ x0_at < g13) ∧ (v11 = 0 ∨ (1 ≤ g18 0 ∧ g18 0 ≤ 30)) ∧ (v11 = 0 ∨ x0_token = 1)) := hr59
                dsimp only [u2, u6]
                refine Sf.ite (fun hc60 => ?_) (fun hc60 => ?_)
                · refine Sf.zbb (by grind) (fun v20 e_v20 => ?_)
                  exact Sf.ok (show (0 ≤ x0_lines ∧ x0_lines ≤ 20) ∧ (LnM x0_line) ∧ (AI 0 99 x0_changes) ∧ (AI 0 9 x0_coins) ∧ (0 ≤ x0_goods ∧ x0_goods ≤ 8) ∧ (GdM x0_good) ∧ (0 ≤ x0_works ∧ x0_works ≤ 7) ∧ (WkB x0_work) ∧ (1 ≤ x0_years ∧ x0_years ≤ 30) ∧ (0 ≤ g15 ∧ g15 ≤ 250) ∧ ((v20 = 0 ∨ v20 = 1) ∧ (0 ≤ g13 ∧ g13 ≤ x0_tapeSize) ∧ x0_at ≤ g13 ∧ (v20 = 0 ∨ g14 ≠ 3 ∨ x0_at < g13) ∧ (v20 = 0 ∨ WkM x0_work)) from ⟨h_x0_lines, h_x0_line, h_x0_changes, h_x0_coins, h_x0_goods, h_x0_good, h_x0_works, (h_x0_work.1), h_x0_years, h_g15, (by grind)⟩)
                · refine Sf.rdl 0 rfl rfl (fun v21 e_v21 => ?_)
                  refine Sf.zbb (by grind) (fun v22 e_v22 => ?_)
                  exact Sf.ok (show (0 ≤ x0_lines ∧ x0_lines ≤ 20) ∧ (LnM x0_line) ∧ (AI 0 99 x0_changes) ∧ (AI 0 9 x0_coins) ∧ (0 ≤ x0_goods ∧ x0_goods ≤ 8) ∧ (GdM x0_good) ∧ (0 ≤ x0_works ∧ x0_works ≤ 7) ∧ (WkB x0_work) ∧ (1 ≤ v21 ∧ v21 ≤ 30) ∧ (0 ≤ g15 ∧ g15 ≤ 250) ∧ ((v22 = 0 ∨ v22 = 1) ∧ (0 ≤ g13 ∧ g13 ≤ x0_tapeSize) ∧ x0_at ≤ g13 ∧ (v22 = 0 ∨ g14 ≠ 3 ∨ x0_at < g13) ∧ (v22 = 0 ∨ WkM x0_work)) from ⟨h_x0_lines, h_x0_line, h_x0_changes, h_x0_coins, h_x0_goods, h_x0_good, h_x0_works, (h_x0_work.1), (by grind), h_g15, (by grind)⟩)
              · refine Sf.bind (sX7_toldN hn h_x0_shelf h_x0_rowSize h_x0_tapeSize h_x0_lines h_x0_line h_x0_changes h_x0_coins h_x0_goods h_x0_good h_x0_works h_x0_work h_x0_years h_x0_at h_x0_from h_x0_far h_x0_way h_x0_steps h_x0_queue (by first | assumption | rfl | decide | grind) (by first | assumption | rfl | decide | grind) (by first | assumption | rfl | decide | grind)) ?_
                rintro ⟨v23, ⟨g25, g26, g27, g28, g29, g30⟩⟩ hr61
                obtain ⟨h_g27, hx_v23⟩ : (0 ≤ g27 ∧ g27 ≤ 250) ∧ ((v23 = 0 ∨ v23 = 1) ∧ (0 ≤ g25 ∧ g25 ≤ x0_tapeSize) ∧ x0_at ≤ g25 ∧ (v23 = 0 ∨ g26 ≠ 3 ∨ x0_at < g25) ∧ (v23 = 0 ∨ (0 ≤ g30 0 ∧ g30 0 ≤ 2)) ∧ (v23 = 0 ∨ x0_token = 1)) := hr61
                dsimp only [u2, u6]
                refine Sf.ite (fun hc62 => ?_) (fun hc62 => ?_)
                · exact Sf.ok (show (0 ≤ x0_lines ∧ x0_lines ≤ 20) ∧ (LnM x0_line) ∧ (AI 0 99 x0_changes) ∧ (AI 0 9 x0_coins) ∧ (0 ≤ x0_goods ∧ x0_goods ≤ 8) ∧ (GdM x0_good) ∧ (0 ≤ x0_works ∧ x0_works ≤ 7) ∧ (WkB x0_work) ∧ (1 ≤ x0_years ∧ x0_years ≤ 30) ∧ (0 ≤ g27 ∧ g27 ≤ 250) ∧ ((0 = 0 ∨ 0 = 1) ∧ (0 ≤ g25 ∧ g25 ≤ x0_tapeSize) ∧ x0_at ≤ g25 ∧ (0 = 0 ∨ g26 ≠ 3 ∨ x0_at < g25) ∧ (0 = 0 ∨ WkM x0_work)) from ⟨h_x0_lines, h_x0_line, h_x0_changes, h_x0_coins, h_x0_goods, h_x0_good, h_x0_works, (h_x0_work.1), h_x0_years, h_g27, (by grind)⟩)
                · refine Sf.rdl 0 rfl rfl (fun v32 e_v32 => ?_)
                  refine Sf.bind (sX7_numberO hn h_x0_shelf h_x0_rowSize h_x0_tapeSize h_x0_lines h_x0_line h_x0_changes h_x0_coins h_x0_goods h_x0_good h_x0_works h_x0_work h_x0_years (by grind) h_g27 h_x0_far h_x0_way h_x0_steps h_x0_queue (by first | assumption | rfl | decide | grind) (by first | assumption | rfl | decide | grind) (by first | assumption | rfl | decide | grind)) ?_
                  rintro ⟨v33, ⟨g35, g36, g37, g38, g39, g40⟩⟩ hr63
                  obtain ⟨h_g35, h_g38, hx_v33⟩ : (AI 0 9 g35) ∧ (0 ≤ g38 ∧ g38 ≤ 250) ∧ ((v33 = 0 ∨ v33 = 1) ∧ (0 ≤ g36 ∧ g36 ≤ x0_tapeSize) ∧ g25 ≤ g36 ∧ (v33 = 0 ∨ g37 ≠ 3 ∨ g25 < g36)) := hr63
                  dsimp only [u2, u6]
                  refine Sf.ite (fun hc64 => ?_) (fun hc64 => ?_)
                  · exact Sf.ok (show (0 ≤ x0_lines ∧ x0_lines ≤ 20) ∧ (LnM x0_line) ∧ (AI 0 99 x0_changes) ∧ (AI 0 9 g35) ∧ (0 ≤ x0_goods ∧ x0_goods ≤ 8) ∧ (GdM x0_good) ∧ (0 ≤ x0_works ∧ x0_works ≤ 7) ∧ (WkB x0_work) ∧ (1 ≤ x0_years ∧ x0_years ≤ 30) ∧ (0 ≤ g38 ∧ g38 ≤ 250) ∧ ((0 = 0 ∨ 0 = 1) ∧ (0 ≤ g36 ∧ g36 ≤ x0_tapeSize) ∧ x0_at ≤ g36 ∧ (0 = 0 ∨ g37 ≠ 3 ∨ x0_at < g36) ∧ (0 = 0 ∨ WkM x0_work)) from ⟨h_x0_lines, h_x0_line, h_x0_changes, h_g35, h_x0_goods, h_x0_good, h_x0_works, (h_x0_work.1), h_x0_years, h_g38, (by grind)⟩)
                  · exact Sf.ok (show (0 ≤ x0_lines ∧ x0_lines ≤ 20) ∧ (LnM x0_line) ∧ (AI 0 99 x0_changes) ∧ (AI 0 9 g35) ∧ (0 ≤ x0_goods ∧ x0_goods ≤ 8) ∧ (GdM x0_good) ∧ (0 ≤ x0_works ∧ x0_works ≤ 7) ∧ (WkB x0_work) ∧ (1 ≤ x0_years ∧ x0_years ≤ 30) ∧ (0 ≤ g38 ∧ g38 ≤ 250) ∧ ((1 = 0 ∨ 1 = 1) ∧ (0 ≤ g36 ∧ g36 ≤ x0_tapeSize) ∧ x0_at ≤ g36 ∧ (1 = 0 ∨ g37 ≠ 3 ∨ x0_at < g36) ∧ (1 = 0 ∨ WkM x0_work)) from ⟨h_x0_lines, h_x0_line, h_x0_changes, h_g35, h_x0_goods, h_x0_good, h_x0_works, (h_x0_work.1), h_x0_years, h_g38, (by grind)⟩)
            · refine Sf.bind (sX7_toldN hn h_x0_shelf h_x0_rowSize h_x0_tapeSize h_x0_lines h_x0_line h_x0_changes h_x0_coins h_x0_goods h_x0_good h_x0_works h_x0_work h_x0_years h_x0_at h_x0_from h_x0_far h_x0_way h_x0_steps h_x0_queue (by first | assumption | rfl | decide | grind) (by first | assumption | rfl | decide | grind) (by first | assumption | rfl | decide | grind)) ?_
              rintro ⟨v42, ⟨g44, g45, g46, g47, g48, g49⟩⟩ hr65
              obtain ⟨h_g46, hx_v42⟩ : (0 ≤ g46 ∧ g46 ≤ 250) ∧ ((v42 = 0 ∨ v42 = 1) ∧ (0 ≤ g44 ∧ g44 ≤ x0_tapeSize) ∧ x0_at ≤ g44 ∧ (v42 = 0 ∨ g45 ≠ 3 ∨ x0_at < g44) ∧ (v42 = 0 ∨ (0 ≤ g49 0 ∧ g49 0 ≤ 11)) ∧ (v42 = 0 ∨ x0_token = 1)) := hr65
              dsimp only [u2, u6]
              refine Sf.ite (fun hc66 => ?_) (fun hc66 => ?_)
              · exact Sf.ok (show (0 ≤ x0_lines ∧ x0_lines ≤ 20) ∧ (LnM x0_line) ∧ (AI 0 99 x0_changes) ∧ (AI 0 9 x0_coins) ∧ (0 ≤ x0_goods ∧ x0_goods ≤ 8) ∧ (GdM x0_good) ∧ (0 ≤ x0_works ∧ x0_works ≤ 7) ∧ (WkB x0_work) ∧ (1 ≤ x0_years ∧ x0_years ≤ 30) ∧ (0 ≤ g46 ∧ g46 ≤ 250) ∧ ((0 = 0 ∨ 0 = 1) ∧ (0 ≤ g44 ∧ g44 ≤ x0_tapeSize) ∧ x0_at ≤ g44 ∧ (0 = 0 ∨ g45 ≠ 3 ∨ x0_at < g44) ∧ (0 = 0 ∨ WkM x0_work)) from ⟨h_x0_lines, h_x0_line, h_x0_changes, h_x0_coins, h_x0_goods, h_x0_good, h_x0_works, (h_x0_work.1), h_x0_years, h_g46, (by grind)⟩)
              · refine Sf.rdl 0 rfl rfl (fun v51 e_v51 => ?_)
                refine Sf.bind (sX7_numberC hn h_x0_shelf h_x0_rowSize h_x0_tapeSize h_x0_lines h_x0_line h_x0_changes h_x0_coins h_x0_goods h_x0_good h_x0_works h_x0_work h_x0_years (by grind) h_g46 h_x0_far h_x0_way h_x0_steps h_x0_queue (by first | assumption | rfl | decide | grind) (by first | assumption | rfl | decide | grind) (by first | assumption | rfl | decide | grind)) ?_
                rintro ⟨v52, ⟨g54, g55, g56, g57, g58, g59⟩⟩ hr67
                obtain ⟨h_g54, h_g57, hx_v52⟩ : (AI 0 99 g54) ∧ (0 ≤ g57 ∧ g57 ≤ 250) ∧ ((v52 = 0 ∨ v52 = 1) ∧ (0 ≤ g55 ∧ g55 ≤ x0_tapeSize) ∧ g44 ≤ g55 ∧ (v52 = 0 ∨ g56 ≠ 3 ∨ g44 < g55)) := hr67
                dsimp only [u2, u6]
                refine Sf.ite (fun hc68 => ?_) (fun hc68 => ?_)
                · exact Sf.ok (show (0 ≤ x0_lines ∧ x0_lines ≤ 20) ∧ (LnM x0_line) ∧ (AI 0 99 g54) ∧ (AI 0 9 x0_coins) ∧ (0 ≤ x0_goods ∧ x0_goods ≤ 8) ∧ (GdM x0_good) ∧ (0 ≤ x0_works ∧ x0_works ≤ 7) ∧ (WkB x0_work) ∧ (1 ≤ x0_years ∧ x0_years ≤ 30) ∧ (0 ≤ g57 ∧ g57 ≤ 250) ∧ ((0 = 0 ∨ 0 = 1) ∧ (0 ≤ g55 ∧ g55 ≤ x0_tapeSize) ∧ x0_at ≤ g55 ∧ (0 = 0 ∨ g56 ≠ 3 ∨ x0_at < g55) ∧ (0 = 0 ∨ WkM x0_work)) from ⟨h_x0_lines, h_x0_line, h_g54, h_x0_coins, h_x0_goods, h_x0_good, h_x0_works, (h_x0_work.1), h_x0_years, h_g57, (by grind)⟩)
                · exact Sf.ok (show (0 ≤ x0_lines ∧ x0_lines ≤ 20) ∧ (LnM x0_line) ∧ (AI 0 99 g54) ∧ (AI 0 9 x0_coins) ∧ (0 ≤ x0_goods ∧ x0_goods ≤ 8) ∧ (GdM x0_good) ∧ (0 ≤ x0_works ∧ x0_works ≤ 7) ∧ (WkB x0_work) ∧ (1 ≤ x0_years ∧ x0_years ≤ 30) ∧ (0 ≤ g57 ∧ g57 ≤ 250) ∧ ((1 = 0 ∨ 1 = 1) ∧ (0 ≤ g55 ∧ g55 ≤ x0_tapeSize) ∧ x0_at ≤ g55 ∧ (1 = 0 ∨ g56 ≠ 3 ∨ x0_at < g55) ∧ (1 = 0 ∨ WkM x0_work)) from ⟨h_x0_lines, h_x0_line, h_g54, h_x0_coins, h_x0_goods, h_x0_good, h_x0_works, (h_x0_work.1), h_x0_years, h_g57, (by grind)⟩)
          · refine Sf.ckb 7 rfl (by grind) (fun q61 e_q61 h_q61 => ?_)
            refine Sf.bind (sX7_workTold hn h_x0_shelf h_x0_rowSize h_x0_tapeSize h_x0_lines h_x0_line h_x0_changes h_x0_coins h_x0_goods h_x0_good h_x0_works h_x0_work h_x0_years h_x0_at h_x0_from h_x0_far h_x0_way h_x0_steps h_x0_queue (h_x0_work.1 q61) (by first | assumption | rfl | decide | grind) (by first | assumption | rfl | decide | grind)) ?_
            rintro ⟨v62, ⟨g64, g65, g66, g67, g68, g69⟩, g70⟩ hr69
            obtain ⟨h_g64, h_g67, h_g70, hx_v62⟩ : (0 ≤ g64 ∧ g64 ≤ 7) ∧ (0 ≤ g67 ∧ g67 ≤ 250) ∧ (RI wkB g70) ∧ ((v62 = 0 ∨ v62 = 1) ∧ (0 ≤ g65 ∧ g65 ≤ x0_tapeSize) ∧ x0_at ≤ g65 ∧ (v62 = 0 ∨ g66 ≠ 3 ∨ x0_at < g65) ∧ (v62 = 0 ∨ (x0_token = 1 ∧ WkRm (g70 0) (g70 1) (g70 2)))) := hr69
            dsimp only [u3, u6]
            have hW : v62 = 0 ∨ WkM (va_up x0_work q61 g70) := by
              rcases hx_v62.2.2.2.2 with h | h
              · exact Or.inl h
              · exact Or.inr (WkM.up h_x0_work h_g70 h.2)
            refine Sf.zbb (by grind) (fun v72 e_v72 => ?_)
            exact Sf.ok (show (0 ≤ x0_lines ∧ x0_lines ≤ 20) ∧ (LnM x0_line) ∧ (AI 0 99 x0_changes) ∧ (AI 0 9 x0_coins) ∧ (0 ≤ x0_goods ∧ x0_goods ≤ 8) ∧ (GdM x0_good) ∧ (0 ≤ g64 ∧ g64 ≤ 7) ∧ (WkB (va_up x0_work q61 g70)) ∧ (1 ≤ x0_years ∧ x0_years ≤ 30) ∧ (0 ≤ g67 ∧ g67 ≤ 250) ∧ ((v72 = 0 ∨ v72 = 1) ∧ (0 ≤ g65 ∧ g65 ≤ x0_tapeSize) ∧ x0_at ≤ g65 ∧ (v72 = 0 ∨ g66 ≠ 3 ∨ x0_at < g65) ∧ (v72 = 0 ∨ WkM (va_up x0_work q61 g70))) from ⟨h_x0_lines, h_x0_line, h_x0_changes, h_x0_coins, h_x0_goods, h_x0_good, h_g64, (GI.up (h_x0_work.1) h_g70), h_x0_years, h_g67, (by grind)⟩)
      · refine Sf.ckb 8 rfl (by grind) (fun q73 e_q73 h_q73 => ?_)
        refine Sf.bind (sX7_two (M := 3) (B := gdB) hn h_x0_shelf h_x0_rowSize h_x0_tapeSize h_x0_lines h_x0_line h_x0_changes h_x0_coins h_x0_goods h_x0_good h_x0_works h_x0_work h_x0_years h_x0_at h_x0_from h_x0_far h_x0_way h_x0_steps h_x0_queue (h_x0_good q73) (by first | assumption | rfl | decide | grind) (by first | assumption | rfl | decide | grind) (by first | assumption | rfl | decide | grind) (by first | assumption | rfl | decide | grind)) ?_
        rintro ⟨v74, ⟨g76, g77, g78, g79, g80⟩, g81⟩ hr70
        obtain ⟨h_g78, h_g81, hx_v74⟩ : (0 ≤ g78 ∧ g78 ≤ 250) ∧ (RI gdB g81) ∧ ((v74 = 0 ∨ v74 = 1) ∧ (0 ≤ g76 ∧ g76 ≤ x0_tapeSize) ∧ x0_at ≤ g76 ∧ (v74 = 0 ∨ g77 ≠ 3 ∨ x0_at < g76)) := hr70
        dsimp only [u3, u5]
        refine Sf.ite (fun hc71 => ?_) (fun hc71 => ?_)
        · exact Sf.ok (show (0 ≤ x0_lines ∧ x0_lines ≤ 20) ∧ (LnM x0_line) ∧ (AI 0 99 x0_changes) ∧ (AI 0 9 x0_coins) ∧ (0 ≤ x0_goods ∧ x0_goods ≤ 8) ∧ (GdM (va_up x0_good q73 g81)) ∧ (0 ≤ x0_works ∧ x0_works ≤ 7) ∧ (WkB x0_work) ∧ (1 ≤ x0_years ∧ x0_years ≤ 30) ∧ (0 ≤ g78 ∧ g78 ≤ 250) ∧ ((0 = 0 ∨ 0 = 1) ∧ (0 ≤ g76 ∧ g76 ≤ x0_tapeSize) ∧ x0_at ≤ g76 ∧ (0 = 0 ∨ g77 ≠ 3 ∨ x0_at < g76) ∧ (0 = 0 ∨ WkM x0_work)) from ⟨h_x0_lines, h_x0_line, h_x0_changes, h_x0_coins, h_x0_goods, (GI.up h_x0_good h_g81), h_x0_works, (h_x0_work.1), h_x0_years, h_g78, (by grind)⟩)
        · refine Sf.ckb 8 rfl (by grind) (fun q83 e_q83 h_q83 => ?_)
          refine Sf.bind (sX7_number (M := 3) (B := gdB) hn h_x0_shelf h_x0_rowSize h_x0_tapeSize h_x0_lines h_x0_line h_x0_changes h_x0_coins h_x0_goods (GI.up h_x0_good h_g81) h_x0_works h_x0_work h_x0_years (by grind) h_g78 h_x0_far h_x0_way h_x0_steps h_x0_queue ((GI.up h_x0_good h_g81) q83) (by first | assumption | rfl | decide | grind) (by first | assumption | rfl | decide | grind) (by first | assumption | rfl | decide | grind) (by first | assumption | rfl | decide | grind)) ?_
          rintro ⟨v84, ⟨g86, g87, g88, g89, g90⟩, g91⟩ hr72
          obtain ⟨h_g88, h_g91, hx_v84⟩ : (0 ≤ g88 ∧ g88 ≤ 250) ∧ (RI gdB g91) ∧ ((v84 = 0 ∨ v84 = 1) ∧ (0 ≤ g86 ∧ g86 ≤ x0_tapeSize) ∧ g76 ≤ g86 ∧ (v84 = 0 ∨ g87 ≠ 3 ∨ g76 < g86) ∧ (v84 = 0 ∨ g91 = va_up ((va_up x0_good q73 g81) q83) (2 : Int32).toNatClampNeg g79.toInt32) ∧ (v84 = 1 ∨ g77 ≠ 2 ∨ g79 < (1 : Int32).toInt64 ∨ (99 : Int32).toInt64 < g79)) := hr72
          dsimp only [u3, u5]
          refine Sf.ite (fun hc73 => ?_) (fun hc73 => ?_)
          · exact Sf.ok (show (0 ≤ x0_lines ∧ x0_lines ≤ 20) ∧ (LnM x0_line) ∧ (AI 0 99 x0_changes) ∧ (AI 0 9 x0_coins) ∧ (0 ≤ x0_goods ∧ x0_goods ≤ 8) ∧ (GdM (va_up (va_up x0_good q73 g81) q83 g91)) ∧ (0 ≤ x0_works ∧ x0_works ≤ 7) ∧ (WkB x0_work) ∧ (1 ≤ x0_years ∧ x0_years ≤ 30) ∧ (0 ≤ g88 ∧ g88 ≤ 250) ∧ ((0 = 0 ∨ 0 = 1) ∧ (0 ≤ g86 ∧ g86 ≤ x0_tapeSize) ∧ x0_at ≤ g86 ∧ (0 = 0 ∨ g87 ≠ 3 ∨ x0_at < g86) ∧ (0 = 0 ∨ WkM x0_work)) from ⟨h_x0_lines, h_x0_line, h_x0_changes, h_x0_coins, h_x0_goods, (GI.up (GI.up h_x0_good h_g81) h_g91), h_x0_works, (h_x0_work.1), h_x0_years, h_g88, (by grind)⟩)
          · exact Sf.ok (show (0 ≤ x0_lines ∧ x0_lines ≤ 20) ∧ (LnM x0_line) ∧ (AI 0 99 x0_changes) ∧ (AI 0 9 x0_coins) ∧ (0 ≤ (x0_goods + 1) ∧ (x0_goods + 1) ≤ 8) ∧ (GdM (va_up (va_up x0_good q73 g81) q83 g91)) ∧ (0 ≤ x0_works ∧ x0_works ≤ 7) ∧ (WkB x0_work) ∧ (1 ≤ x0_years ∧ x0_years ≤ 30) ∧ (0 ≤ g88 ∧ g88 ≤ 250) ∧ ((1 = 0 ∨ 1 = 1) ∧ (0 ≤ g86 ∧ g86 ≤ x0_tapeSize) ∧ x0_at ≤ g86 ∧ (1 = 0 ∨ g87 ≠ 3 ∨ x0_at < g86) ∧ (1 = 0 ∨ WkM x0_work)) from ⟨h_x0_lines, h_x0_line, h_x0_changes, h_x0_coins, (by grind), (GI.up (GI.up h_x0_good h_g81) h_g91), h_x0_works, (h_x0_work.1), h_x0_years, h_g88, (by grind)⟩)
  · refine Sf.ite (fun hc74 => ?_) (fun hc74 => ?_)
    · unfold fX7_statement_j114
      refine Sf.bind (sX7_isWord hn (by grind) h_x0_from (by first | assumption | decide)) ?_
      intro v3 hr75
      obtain ⟨h_v3, hx_v3⟩ : (0 ≤ v3 ∧ v3 ≤ 1) ∧ (v3 = 0 ∨ x0_token = 1) := hr75
      refine Sf.ite (fun hc76 => ?_) (fun hc76 => ?_)
      · unfold fX7_statement_j182
        refine Sf.bind (sX7_isWord hn (by grind) h_x0_from (by first | assumption | decide)) ?_
        intro v5 hr77
        obtain ⟨h_v5, hx_v5⟩ : (0 ≤ v5 ∧ v5 ≤ 1) ∧ (v5 = 0 ∨ x0_token = 1) := hr77
        refine Sf.ite (fun hc78 => ?_) (fun hc78 => ?_)
        · unfold fX7_statement_j214
          refine Sf.bind (sX7_isWord hn (by grind) h_x0_from (by first | assumption | decide)) ?_
          intro v7 hr79
          obtain ⟨h_v7, hx_v7⟩ : (0 ≤ v7 ∧ v7 ≤ 1) ∧ (v7 = 0 ∨ x0_token = 1) := hr79
          refine Sf.ite (fun hc80 => ?_) (fun hc80 => ?_)
          · refine Sf.bind (sX7_isWord hn (by grind) h_x0_from (by first | assumption | decide)) ?_
            intro v9 hr81
            obtain ⟨h_v9, hx_v9⟩ : (0 ≤ v9 ∧ v9 ≤ 1) ∧ (v9 = 0 ∨ x0_token = 1) := hr81
            refine Sf.ite (fun hc82 => ?_) (fun hc82 => ?_)
            · refine Sf.bind (sX7_toldN hn h_x0_shelf h_x0_rowSize h_x0_tapeSize h_x0_lines h_x0_line h_x0_changes h_x0_coins h_x0_goods h_x0_good h_x0_works h_x0_work h_x0_years h_x0_at h_x0_from h_x0_far h_x0_way h_x0_steps h_x0_queue (by first | assumption | rfl | decide | grind) (by first | assumption | rfl | decide | grind) (by first | assumption | rfl | decide | grind)) ?_
              rintro ⟨v11, ⟨g13, g14, g15, g16, g17, g18⟩⟩ hr83
              obtain ⟨h_g15, hx_v11⟩ : (0 ≤ g15 ∧ g15 ≤ 250) ∧ ((v11 = 0 ∨ v11 = 1) ∧ (0 ≤ g13 ∧ g13 ≤ x0_tapeSize) ∧ x0_at ≤ g13 ∧ (v11 = 0 ∨ g14 ≠ 3 ∨ x0_at < g13) ∧ (v11 = 0 ∨ (1 ≤ g18 0 ∧ g18 0 ≤ 30)) ∧ (v11 = 0 ∨ x0_token = 1)) := hr83
              dsimp only [u2, u6]
              refine Sf.ite (fun hc84 => ?_) (fun hc84 => ?_)
              · refine Sf.zbb (by grind) (fun v20 e_v20 => ?_)
                exact Sf.ok (show (0 ≤ x0_lines ∧ x0_lines ≤ 20) ∧ (LnM x0_line) ∧ (AI 0 99 x0_changes) ∧ (AI 0 9 x0_coins) ∧ (0 ≤ x0_goods ∧ x0_goods ≤ 8) ∧ (GdM x0_good) ∧ (0 ≤ x0_works ∧ x0_works ≤ 7) ∧ (WkB x0_work) ∧ (1 ≤ x0_years ∧ x0_years ≤ 30) ∧ (0 ≤ g15 ∧ g15 ≤ 250) ∧ ((v20 = 0 ∨ v20 = 1) ∧ (0 ≤ g13 ∧ g13 ≤ x0_tapeSize) ∧ x0_at ≤ g13 ∧ (v20 = 0 ∨ g14 ≠ 3 ∨ x0_at < g13) ∧ (v20 = 0 ∨ WkM x0_work)) from ⟨h_x0_lines, h_x0_line, h_x0_changes, h_x0_coins, h_x0_goods, h_x0_good, h_x0_works, (h_x0_work.1), h_x0_years, h_g15, (by grind)⟩)
              · refine Sf.rdl 0 rfl rfl (fun v21 e_v21 => ?_)
                refine Sf.zbb (by grind) (fun v22 e_v22 => ?_)
                exact Sf.ok (show (0 ≤ x0_lines ∧ x0_lines ≤ 20) ∧ (LnM x0_line) ∧ (AI 0 99 x0_changes) ∧ (AI 0 9 x0_coins) ∧ (0 ≤ x0_goods ∧ x0_goods ≤ 8) ∧ (GdM x0_good) ∧ (0 ≤ x0_works ∧ x0_works ≤ 7) ∧ (WkB x0_work) ∧ (1 ≤ v21 ∧ v21 ≤ 30) ∧ (0 ≤ g15 ∧ g15 ≤ 250) ∧ ((v22 = 0 ∨ v22 = 1) ∧ (0 ≤ g13 ∧ g13 ≤ x0_tapeSize) ∧ x0_at ≤ g13 ∧ (v22 = 0 ∨ g14 ≠ 3 ∨ x0_at < g13) ∧ (v22 = 0 ∨ WkM x0_work)) from ⟨h_x0_lines, h_x0_line, h_x0_changes, h_x0_coins, h_x0_goods, h_x0_good, h_x0_works, (h_x0_work.1), (by grind), h_g15, (by grind)⟩)
            · refine Sf.bind (sX7_toldN hn h_x0_shelf h_x0_rowSize h_x0_tapeSize h_x0_lines h_x0_line h_x0_changes h_x0_coins h_x0_goods h_x0_good h_x0_works h_x0_work h_x0_years h_x0_at h_x0_from h_x0_far h_x0_way h_x0_steps h_x0_queue (by first | assumption | rfl | decide | grind) (by first | assumption | rfl | decide | grind) (by first | assumption | rfl | decide | grind)) ?_
              rintro ⟨v23, ⟨g25, g26, g27, g28, g29, g30⟩⟩ hr85
              obtain ⟨h_g27, hx_v23⟩ : (0 ≤ g27 ∧ g27 ≤ 250) ∧ ((v23 = 0 ∨ v23 = 1) ∧ (0 ≤ g25 ∧ g25 ≤ x0_tapeSize) ∧ x0_at ≤ g25 ∧ (v23 = 0 ∨ g26 ≠ 3 ∨ x0_at < g25) ∧ (v23 = 0 ∨ (0 ≤ g30 0 ∧ g30 0 ≤ 2)) ∧ (v23 = 0 ∨ x0_token = 1)) := hr85
              dsimp only [u2, u6]
              refine Sf.ite (fun hc86 => ?_) (fun hc86 => ?_)
              · exact Sf.ok (show (0 ≤ x0_lines ∧ x0_lines ≤ 20) ∧ (LnM x0_line) ∧ (AI 0 99 x0_changes) ∧ (AI 0 9 x0_coins) ∧ (0 ≤ x0_goods ∧ x0_goods ≤ 8) ∧ (GdM x0_good) ∧ (0 ≤ x0_works ∧ x0_works ≤ 7) ∧ (WkB x0_work) ∧ (1 ≤ x0_years ∧ x0_years ≤ 30) ∧ (0 ≤ g27 ∧ g27 ≤ 250) ∧ ((0 = 0 ∨ 0 = 1) ∧ (0 ≤ g25 ∧ g25 ≤ x0_tapeSize) ∧ x0_at ≤ g25 ∧ (0 = 0 ∨ g26 ≠ 3 ∨ x0_at < g25) ∧ (0 = 0 ∨ WkM x0_work)) from ⟨h_x0_lines, h_x0_line, h_x0_changes, h_x0_coins, h_x0_goods, h_x0_good, h_x0_works, (h_x0_work.1), h_x0_years, h_g27, (by grind)⟩)
              · refine Sf.rdl 0 rfl rfl (fun v32 e_v32 => ?_)
                refine Sf.bind (sX7_numberO hn h_x0_shelf h_x0_rowSize h_x0_tapeSize h_x0_lines h_x0_line h_x0_changes h_x0_coins h_x0_goods h_x0_good h_x0_works h_x0_work h_x0_years (by grind) h_g27 h_x0_far h_x0_way h_x0_steps h_x0_queue (by first | assumption | rfl | decide | grind) (by first | assumption | rfl | decide | grind) (by first | assumption | rfl | decide | grind)) ?_
                rintro ⟨v33, ⟨g35, g36, g37, g38, g39, g40⟩⟩ hr87
                obtain ⟨h_g35, h_g38, hx_v33⟩ : (AI 0 9 g35) ∧ (0 ≤ g38 ∧ g38 ≤ 250) ∧ ((v33 = 0 ∨ v33 = 1) ∧ (0 ≤ g36 ∧ g36 ≤ x0_tapeSize) ∧ g25 ≤ g36 ∧ (v33 = 0 ∨ g37 ≠ 3 ∨ g25 < g36)) := hr87
                dsimp only [u2, u6]
                refine Sf.ite (fun hc88 => ?_) (fun hc88 => ?_)
                · exact Sf.ok (show (0 ≤ x0_lines ∧ x0_lines ≤ 20) ∧ (LnM x0_line) ∧ (AI 0 99 x0_changes) ∧ (AI 0 9 g35) ∧ (0 ≤ x0_goods ∧ x0_goods ≤ 8) ∧ (GdM x0_good) ∧ (0 ≤ x0_works ∧ x0_works ≤ 7) ∧ (WkB x0_work) ∧ (1 ≤ x0_years ∧ x0_years ≤ 30) ∧ (0 ≤ g38 ∧ g38 ≤ 250) ∧ ((0 = 0 ∨ 0 = 1) ∧ (0 ≤ g36 ∧ g36 ≤ x0_tapeSize) ∧ x0_at ≤ g36 ∧ (0 = 0 ∨ g37 ≠ 3 ∨ x0_at < g36) ∧ (0 = 0 ∨ WkM x0_work)) from ⟨h_x0_lines, h_x0_line, h_x0_changes, h_g35, h_x0_goods, h_x0_good, h_x0_works, (h_x0_work.1), h_x0_years, h_g38, (by grind)⟩)
                · exact Sf.ok (show (0 ≤ x0_lines ∧ x0_lines ≤ 20) ∧ (LnM x0_line) ∧ (AI 0 99 x0_changes) ∧ (AI 0 9 g35) ∧ (0 ≤ x0_goods ∧ x0_goods ≤ 8) ∧ (GdM x0_good) ∧ (0 ≤ x0_works ∧ x0_works ≤ 7) ∧ (WkB x0_work) ∧ (1 ≤ x0_years ∧ x0_years ≤ 30) ∧ (0 ≤ g38 ∧ g38 ≤ 250) ∧ ((1 = 0 ∨ 1 = 1) ∧ (0 ≤ g36 ∧ g36 ≤ x0_tapeSize) ∧ x0_at ≤ g36 ∧ (1 = 0 ∨ g37 ≠ 3 ∨ x0_at < g36) ∧ (1 = 0 ∨ WkM x0_work)) from ⟨h_x0_lines, h_x0_line, h_x0_changes, h_g35, h_x0_goods, h_x0_good, h_x0_works, (h_x0_work.1), h_x0_years, h_g38, (by grind)⟩)
          · refine Sf.bind (sX7_toldN hn h_x0_shelf h_x0_rowSize h_x0_tapeSize h_x0_lines h_x0_line h_x0_changes h_x0_coins h_x0_goods h_x0_good h_x0_works h_x0_work h_x0_years h_x0_at h_x0_from h_x0_far h_x0_way h_x0_steps h_x0_queue (by first | assumption | rfl | decide | grind) (by first | assumption | rfl | decide | grind) (by first | assumption | rfl | decide | grind)) ?_
            rintro ⟨v42, ⟨g44, g45, g46, g47, g48, g49⟩⟩ hr89
            obtain ⟨h_g46, hx_v42⟩ : (0 ≤ g46 ∧ g46 ≤ 250) ∧ ((v42 = 0 ∨ v42 = 1) ∧ (0 ≤ g44 ∧ g44 ≤ x0_tapeSize) ∧ x0_at ≤ g44 ∧ (v42 = 0 ∨ g45 ≠ 3 ∨ x0_at < g44) ∧ (v42 = 0 ∨ (0 ≤ g49 0 ∧ g49 0 ≤ 11)) ∧ (v42 = 0 ∨ x0_token = 1)) := hr89
            dsimp only [u2, u6]
            refine Sf.ite (fun hc90 => ?_) (fun hc90 => ?_)
            · exact Sf.ok (show (0 ≤ x0_lines ∧ x0_lines ≤ 20) ∧ (LnM x0_line) ∧ (AI 0 99 x0_changes) ∧ (AI 0 9 x0_coins) ∧ (0 ≤ x0_goods ∧ x0_goods ≤ 8) ∧ (GdM x0_good) ∧ (0 ≤ x0_works ∧ x0_works ≤ 7) ∧ (WkB x0_work) ∧ (1 ≤ x0_years ∧ x0_years ≤ 30) ∧ (0 ≤ g46 ∧ g46 ≤ 250) ∧ ((0 = 0 ∨ 0 = 1) ∧ (0 ≤ g44 ∧ g44 ≤ x0_tapeSize) ∧ x0_at ≤ g44 ∧ (0 = 0 ∨ g45 ≠ 3 ∨ x0_at < g44) ∧ (0 = 0 ∨ WkM x0_work)) from ⟨h_x0_lines, h_x0_line, h_x0_changes, h_x0_coins, h_x0_goods, h_x0_good, h_x0_works, (h_x0_work.1), h_x0_years, h_g46, (by grind)⟩)
            · refine Sf.rdl 0 rfl rfl (fun v51 e_v51 => ?_)
              refine Sf.bind (sX7_numberC hn h_x0_shelf h_x0_rowSize h_x0_tapeSize h_x0_lines h_x0_line h_x0_changes h_x0_coins h_x0_goods h_x0_good h_x0_works h_x0_work h_x0_years (by grind) h_g46 h_x0_far h_x0_way h_x0_steps h_x0_queue (by first | assumption | rfl | decide | grind) (by first | assumption | rfl | decide | grind) (by first | assumption | rfl | decide | grind)) ?_
              rintro ⟨v52, ⟨g54, g55, g56, g57, g58, g59⟩⟩ hr91
              obtain ⟨h_g54, h_g57, hx_v52⟩ : (AI 0 99 g54) ∧ (0 ≤ g57 ∧ g57 ≤ 250) ∧ ((v52 = 0 ∨ v52 = 1) ∧ (0 ≤ g55 ∧ g55 ≤ x0_tapeSize) ∧ g44 ≤ g55 ∧ (v52 = 0 ∨ g56 ≠ 3 ∨ g44 < g55)) := hr91
              dsimp only [u2, u6]
              refine Sf.ite (fun hc92 => ?_) (fun hc92 => ?_)
              · exact Sf.ok (show (0 ≤ x0_lines ∧ x0_lines ≤ 20) ∧ (LnM x0_line) ∧ (AI 0 99 g54) ∧ (AI 0 9 x0_coins) ∧ (0 ≤ x0_goods ∧ x0_goods ≤ 8) ∧ (GdM x0_good) ∧ (0 ≤ x0_works ∧ x0_works ≤ 7) ∧ (WkB x0_work) ∧ (1 ≤ x0_years ∧ x0_years ≤ 30) ∧ (0 ≤ g57 ∧ g57 ≤ 250) ∧ ((0 = 0 ∨ 0 = 1) ∧ (0 ≤ g55 ∧ g55 ≤ x0_tapeSize) ∧ x0_at ≤ g55 ∧ (0 = 0 ∨ g56 ≠ 3 ∨ x0_at < g55) ∧ (0 = 0 ∨ WkM x0_work)) from ⟨h_x0_lines, h_x0_line, h_g54, h_x0_coins, h_x0_goods, h_x0_good, h_x0_works, (h_x0_work.1), h_x0_years, h_g57, (by grind)⟩)
              · exact Sf.ok (show (0 ≤ x0_lines ∧ x0_lines ≤ 20) ∧ (LnM x0_line) ∧ (AI 0 99 g54) ∧ (AI 0 9 x0_coins) ∧ (0 ≤ x0_goods ∧ x0_goods ≤ 8) ∧ (GdM x0_good) ∧ (0 ≤ x0_works ∧ x0_works ≤ 7) ∧ (WkB x0_work) ∧ (1 ≤ x0_years ∧ x0_years ≤ 30) ∧ (0 ≤ g57 ∧ g57 ≤ 250) ∧ ((1 = 0 ∨ 1 = 1) ∧ (0 ≤ g55 ∧ g55 ≤ x0_tapeSize) ∧ x0_at ≤ g55 ∧ (1 = 0 ∨ g56 ≠ 3 ∨ x0_at < g55) ∧ (1 = 0 ∨ WkM x0_work)) from ⟨h_x0_lines, h_x0_line, h_g54, h_x0_coins, h_x0_goods, h_x0_good, h_x0_works, (h_x0_work.1), h_x0_years, h_g57, (by grind)⟩)
        · refine Sf.ite (fun hc93 => ?_) (fun hc93 => ?_)
          · unfold fX7_statement_j214
            refine Sf.bind (sX7_isWord hn (by grind) h_x0_from (by first | assumption | decide)) ?_
            intro v7 hr94
            obtain ⟨h_v7, hx_v7⟩ : (0 ≤ v7 ∧ v7 ≤ 1) ∧ (v7 = 0 ∨ x0_token = 1) := hr94
            refine Sf.ite (fun hc95 => ?_) (fun hc95 => ?_)
            · refine Sf.bind (sX7_isWord hn (by grind) h_x0_from (by first | assumption | decide)) ?_
              intro v9 hr96
              obtain ⟨h_v9, hx_v9⟩ : (0 ≤ v9 ∧ v9 ≤ 1) ∧ (v9 = 0 ∨ x0_token = 1) := hr96
              refine Sf.ite (fun hc97 => ?_) (fun hc97 => ?_)
              · refine Sf.bind (sX7_toldN hn h_x0_shelf h_x0_rowSize h_x0_tapeSize h_x0_lines h_x0_line h_x0_changes h_x0_coins h_x0_goods h_x0_good h_x0_works h_x0_work h_x0_years h_x0_at h_x0_from h_x0_far h_x0_way h_x0_steps h_x0_queue (by first | assumption | rfl | decide | grind) (by first | assumption | rfl | decide | grind) (by first | assumption | rfl | decide | grind)) ?_
                rintro ⟨v11, ⟨g13, g14, g15, g16, g17, g18⟩⟩ hr98
                obtain ⟨h_g15, hx_v11⟩ : (0 ≤ g15 ∧ g15 ≤ 250) ∧ ((v11 = 0 ∨ v11 = 1) ∧ (0 ≤ g13 ∧ g13 ≤ x0_tapeSize) ∧ x0_at ≤ g13 ∧ (v11 = 0 ∨ g14 ≠ 3 ∨ x0_at < g13) ∧ (v11 = 0 ∨ (1 ≤ g18 0 ∧ g18 0 ≤ 30)) ∧ (v11 = 0 ∨ x0_token = 1)) := hr98
                dsimp only [u2, u6]
                refine Sf.ite (fun hc99 => ?_) (fun hc99 => ?_)
                · refine Sf.zbb (by grind) (fun v20 e_v20 => ?_)
                  exact Sf.ok (show (0 ≤ x0_lines ∧ x0_lines ≤ 20) ∧ (LnM x0_line) ∧ (AI 0 99 x0_changes) ∧ (AI 0 9 x0_coins) ∧ (0 ≤ x0_goods ∧ x0_goods ≤ 8) ∧ (GdM x0_good) ∧ (0 ≤ x0_works ∧ x0_works ≤ 7) ∧ (WkB x0_work) ∧ (1 ≤ x0_years ∧ x0_years ≤ 30) ∧ (0 ≤ g15 ∧ g15 ≤ 250) ∧ ((v20 = 0 ∨ v20 = 1) ∧ (0 ≤ g13 ∧ g13 ≤ x0_tapeSize) ∧ x0_at ≤ g13 ∧ (v20 = 0 ∨ g14 ≠ 3 ∨ x0_at < g13) ∧ (v20 = 0 ∨ WkM x0_work)) from ⟨h_x0_lines, h_x0_line, h_x0_changes, h_x0_coins, h_x0_goods, h_x0_good, h_x0_works, (h_x0_work.1), h_x0_years, h_g15, (by grind)⟩)
                · refine Sf.rdl 0 rfl rfl (fun v21 e_v21 => ?_)
                  refine Sf.zbb (by grind) (fun v22 e_v22 => ?_)
                  exact Sf.ok (show (0 ≤ x0_lines ∧ x0_lines ≤ 20) ∧ (LnM x0_line) ∧ (AI 0 99 x0_changes) ∧ (AI 0 9 x0_coins) ∧ (0 ≤ x0_goods ∧ x0_goods ≤ 8) ∧ (GdM x0_good) ∧ (0 ≤ x0_works ∧ x0_works ≤ 7) ∧ (WkB x0_work) ∧ (1 ≤ v21 ∧ v21 ≤ 30) ∧ (0 ≤ g15 ∧ g15 ≤ 250) ∧ ((v22 = 0 ∨ v22 = 1) ∧ (0 ≤ g13 ∧ g13 ≤ x0_tapeSize) ∧ x0_at ≤ g13 ∧ (v22 = 0 ∨ g14 ≠ 3 ∨ x0_at < g13) ∧ (v22 = 0 ∨ WkM x0_work)) from ⟨h_x0_lines, h_x0_line, h_x0_changes, h_x0_coins, h_x0_goods, h_x0_good, h_x0_works, (h_x0_work.1), (by grind), h_g15, (by grind)⟩)
              · refine Sf.bind (sX7_toldN hn h_x0_shelf h_x0_rowSize h_x0_tapeSize h_x0_lines h_x0_line h_x0_changes h_x0_coins h_x0_goods h_x0_good h_x0_works h_x0_work h_x0_years h_x0_at h_x0_from h_x0_far h_x0_way h_x0_steps h_x0_queue (by first | assumption | rfl | decide | grind) (by first | assumption | rfl | decide | grind) (by first | assumption | rfl | decide | grind)) ?_
                rintro ⟨v23, ⟨g25, g26, g27, g28, g29, g30⟩⟩ hr100
                obtain ⟨h_g27, hx_v23⟩ : (0 ≤ g27 ∧ g27 ≤ 250) ∧ ((v23 = 0 ∨ v23 = 1) ∧ (0 ≤ g25 ∧ g25 ≤ x0_tapeSize) ∧ x0_at ≤ g25 ∧ (v23 = 0 ∨ g26 ≠ 3 ∨ x0_at < g25) ∧ (v23 = 0 ∨ (0 ≤ g30 0 ∧ g30 0 ≤ 2)) ∧ (v23 = 0 ∨ x0_token = 1)) := hr100
                dsimp only [u2, u6]
                refine Sf.ite (fun hc101 => ?_) (fun hc101 => ?_)
                · exact Sf.ok (show (0 ≤ x0_lines ∧ x0_lines ≤ 20) ∧ (LnM x0_line) ∧ (AI 0 99 x0_changes) ∧ (AI 0 9 x0_coins) ∧ (0 ≤ x0_goods ∧ x0_goods ≤ 8) ∧ (GdM x0_good) ∧ (0 ≤ x0_works ∧ x0_works ≤ 7) ∧ (WkB x0_work) ∧ (1 ≤ x0_years ∧ x0_years ≤ 30) ∧ (0 ≤ g27 ∧ g27 ≤ 250) ∧ ((0 = 0 ∨ 0 = 1) ∧ (0 ≤ g25 ∧ g25 ≤ x0_tapeSize) ∧ x0_at ≤ g25 ∧ (0 = 0 ∨ g26 ≠ 3 ∨ x0_at < g25) ∧ (0 = 0 ∨ WkM x0_work)) from ⟨h_x0_lines, h_x0_line, h_x0_changes, h_x0_coins, h_x0_goods, h_x0_good, h_x0_works, (h_x0_work.1), h_x0_years, h_g27, (by grind)⟩)
                · refine Sf.rdl 0 rfl rfl (fun v32 e_v32 => ?_)
                  refine Sf.bind (sX7_numberO hn h_x0_shelf h_x0_rowSize h_x0_tapeSize h_x0_lines h_x0_line h_x0_changes h_x0_coins h_x0_goods h_x0_good h_x0_works h_x0_work h_x0_years (by grind) h_g27 h_x0_far h_x0_way h_x0_steps h_x0_queue (by first | assumption | rfl | decide | grind) (by first | assumption | rfl | decide | grind) (by first | assumption | rfl | decide | grind)) ?_
                  rintro ⟨v33, ⟨g35, g36, g37, g38, g39, g40⟩⟩ hr102
                  obtain ⟨h_g35, h_g38, hx_v33⟩ : (AI 0 9 g35) ∧ (0 ≤ g38 ∧ g38 ≤ 250) ∧ ((v33 = 0 ∨ v33 = 1) ∧ (0 ≤ g36 ∧ g36 ≤ x0_tapeSize) ∧ g25 ≤ g36 ∧ (v33 = 0 ∨ g37 ≠ 3 ∨ g25 < g36)) := hr102
                  dsimp only [u2, u6]
                  refine Sf.ite (fun hc103 => ?_) (fun hc103 => ?_)
                  · exact Sf.ok (show (0 ≤ x0_lines ∧ x0_lines ≤ 20) ∧ (LnM x0_line) ∧ (AI 0 99 x0_changes) ∧ (AI 0 9 g35) ∧ (0 ≤ x0_goods ∧ x0_goods ≤ 8) ∧ (GdM x0_good) ∧ (0 ≤ x0_works ∧ x0_works ≤ 7) ∧ (WkB x0_work) ∧ (1 ≤ x0_years ∧ x0_years ≤ 30) ∧ (0 ≤ g38 ∧ g38 ≤ 250) ∧ ((0 = 0 ∨ 0 = 1) ∧ (0 ≤ g36 ∧ g36 ≤ x0_tapeSize) ∧ x0_at ≤ g36 ∧ (0 = 0 ∨ g37 ≠ 3 ∨ x0_at < g36) ∧ (0 = 0 ∨ WkM x0_work)) from ⟨h_x0_lines, h_x0_line, h_x0_changes, h_g35, h_x0_goods, h_x0_good, h_x0_works, (h_x0_work.1), h_x0_years, h_g38, (by grind)⟩)
                  · exact Sf.ok (show (0 ≤ x0_lines ∧ x0_lines ≤ 20) ∧ (LnM x0_line) ∧ (AI 0 99 x0_changes) ∧ (AI 0 9 g35) ∧ (0 ≤ x0_goods ∧ x0_goods ≤ 8) ∧ (GdM x0_good) ∧ (0 ≤ x0_works ∧ x0_works ≤ 7) ∧ (WkB x0_work) ∧ (1 ≤ x0_years ∧ x0_years ≤ 30) ∧ (0 ≤ g38 ∧ g38 ≤ 250) ∧ ((1 = 0 ∨ 1 = 1) ∧ (0 ≤ g36 ∧ g36 ≤ x0_tapeSize) ∧ x0_at ≤ g36 ∧ (1 = 0 ∨ g37 ≠ 3 ∨ x0_at < g36) ∧ (1 = 0 ∨ WkM x0_work)) from ⟨h_x0_lines, h_x0_line, h_x0_changes, h_g35, h_x0_goods, h_x0_good, h_x0_works, (h_x0_work.1), h_x0_years, h_g38, (by grind)⟩)
            · refine Sf.bind (sX7_toldN hn h_x0_shelf h_x0_rowSize h_x0_tapeSize h_x0_lines h_x0_line h_x0_changes h_x0_coins h_x0_goods h_x0_good h_x0_works h_x0_work h_x0_years h_x0_at h_x0_from h_x0_far h_x0_way h_x0_steps h_x0_queue (by first | assumption | rfl | decide | grind) (by first | assumption | rfl | decide | grind) (by first | assumption | rfl | decide | grind)) ?_
              rintro ⟨v42, ⟨g44, g45, g46, g47, g48, g49⟩⟩ hr104
              obtain ⟨h_g46, hx_v42⟩ : (0 ≤ g46 ∧ g46 ≤ 250) ∧ ((v42 = 0 ∨ v42 = 1) ∧ (0 ≤ g44 ∧ g44 ≤ x0_tapeSize) ∧ x0_at ≤ g44 ∧ (v42 = 0 ∨ g45 ≠ 3 ∨ x0_at < g44) ∧ (v42 = 0 ∨ (0 ≤ g49 0 ∧ g49 0 ≤ 11)) ∧ (v42 = 0 ∨ x0_token = 1)) := hr104
              dsimp only [u2, u6]
              refine Sf.ite (fun hc105 => ?_) (fun hc105 => ?_)
              · exact Sf.ok (show (0 ≤ x0_lines ∧ x0_lines ≤ 20) ∧ (LnM x0_line) ∧ (AI 0 99 x0_changes) ∧ (AI 0 9 x0_coins) ∧ (0 ≤ x0_goods ∧ x0_goods ≤ 8) ∧ (GdM x0_good) ∧ (0 ≤ x0_works ∧ x0_works ≤ 7) ∧ (WkB x0_work) ∧ (1 ≤ x0_years ∧ x0_years ≤ 30) ∧ (0 ≤ g46 ∧ g46 ≤ 250) ∧ ((0 = 0 ∨ 0 = 1) ∧ (0 ≤ g44 ∧ g44 ≤ x0_tapeSize) ∧ x0_at ≤ g44 ∧ (0 = 0 ∨ g45 ≠ 3 ∨ x0_at < g44) ∧ (0 = 0 ∨ WkM x0_work)) from ⟨h_x0_lines, h_x0_line, h_x0_changes, h_x0_coins, h_x0_goods, h_x0_good, h_x0_works, (h_x0_work.1), h_x0_years, h_g46, (by grind)⟩)
              · refine Sf.rdl 0 rfl rfl (fun v51 e_v51 => ?_)
                refine Sf.bind (sX7_numberC hn h_x0_shelf h_x0_rowSize h_x0_tapeSize h_x0_lines h_x0_line h_x0_changes h_x0_coins h_x0_goods h_x0_good h_x0_works h_x0_work h_x0_years (by grind) h_g46 h_x0_far h_x0_way h_x0_steps h_x0_queue (by first | assumption | rfl | decide | grind) (by first | assumption | rfl | decide | grind) (by first | assumption | rfl | decide | grind)) ?_
                rintro ⟨v52, ⟨g54, g55, g56, g57, g58, g59⟩⟩ hr106
                obtain ⟨h_g54, h_g57, hx_v52⟩ : (AI 0 99 g54) ∧ (0 ≤ g57 ∧ g57 ≤ 250) ∧ ((v52 = 0 ∨ v52 = 1) ∧ (0 ≤ g55 ∧ g55 ≤ x0_tapeSize) ∧ g44 ≤ g55 ∧ (v52 = 0 ∨ g56 ≠ 3 ∨ g44 < g55)) := hr106
                dsimp only [u2, u6]
                refine Sf.ite (fun hc107 => ?_) (fun hc107 => ?_)
                · exact Sf.ok (show (0 ≤ x0_lines ∧ x0_lines ≤ 20) ∧ (LnM x0_line) ∧ (AI 0 99 g54) ∧ (AI 0 9 x0_coins) ∧ (0 ≤ x0_goods ∧ x0_goods ≤ 8) ∧ (GdM x0_good) ∧ (0 ≤ x0_works ∧ x0_works ≤ 7) ∧ (WkB x0_work) ∧ (1 ≤ x0_years ∧ x0_years ≤ 30) ∧ (0 ≤ g57 ∧ g57 ≤ 250) ∧ ((0 = 0 ∨ 0 = 1) ∧ (0 ≤ g55 ∧ g55 ≤ x0_tapeSize) ∧ x0_at ≤ g55 ∧ (0 = 0 ∨ g56 ≠ 3 ∨ x0_at < g55) ∧ (0 = 0 ∨ WkM x0_work)) from ⟨h_x0_lines, h_x0_line, h_g54, h_x0_coins, h_x0_goods, h_x0_good, h_x0_works, (h_x0_work.1), h_x0_years, h_g57, (by grind)⟩)
                · exact Sf.ok (show (0 ≤ x0_lines ∧ x0_lines ≤ 20) ∧ (LnM x0_line) ∧ (AI 0 99 g54) ∧ (AI 0 9 x0_coins) ∧ (0 ≤ x0_goods ∧ x0_goods ≤ 8) ∧ (GdM x0_good) ∧ (0 ≤ x0_works ∧ x0_works ≤ 7) ∧ (WkB x0_work) ∧ (1 ≤ x0_years ∧ x0_years ≤ 30) ∧ (0 ≤ g57 ∧ g57 ≤ 250) ∧ ((1 = 0 ∨ 1 = 1) ∧ (0 ≤ g55 ∧ g55 ≤ x0_tapeSize) ∧ x0_at ≤ g55 ∧ (1 = 0 ∨ g56 ≠ 3 ∨ x0_at < g55) ∧ (1 = 0 ∨ WkM x0_work)) from ⟨h_x0_lines, h_x0_line, h_g54, h_x0_coins, h_x0_goods, h_x0_good, h_x0_works, (h_x0_work.1), h_x0_years, h_g57, (by grind)⟩)
          · refine Sf.ckb 7 rfl (by grind) (fun q61 e_q61 h_q61 => ?_)
            refine Sf.bind (sX7_workTold hn h_x0_shelf h_x0_rowSize h_x0_tapeSize h_x0_lines h_x0_line h_x0_changes h_x0_coins h_x0_goods h_x0_good h_x0_works h_x0_work h_x0_years h_x0_at h_x0_from h_x0_far h_x0_way h_x0_steps h_x0_queue (h_x0_work.1 q61) (by first | assumption | rfl | decide | grind) (by first | assumption | rfl | decide | grind)) ?_
            rintro ⟨v62, ⟨g64, g65, g66, g67, g68, g69⟩, g70⟩ hr108
            obtain ⟨h_g64, h_g67, h_g70, hx_v62⟩ : (0 ≤ g64 ∧ g64 ≤ 7) ∧ (0 ≤ g67 ∧ g67 ≤ 250) ∧ (RI wkB g70) ∧ ((v62 = 0 ∨ v62 = 1) ∧ (0 ≤ g65 ∧ g65 ≤ x0_tapeSize) ∧ x0_at ≤ g65 ∧ (v62 = 0 ∨ g66 ≠ 3 ∨ x0_at < g65) ∧ (v62 = 0 ∨ (x0_token = 1 ∧ WkRm (g70 0) (g70 1) (g70 2)))) := hr108
            dsimp only [u3, u6]
            have hW : v62 = 0 ∨ WkM (va_up x0_work q61 g70) := by
              rcases hx_v62.2.2.2.2 with h | h
              · exact Or.inl h
              · exact Or.inr (WkM.up h_x0_work h_g70 h.2)
            refine Sf.zbb (by grind) (fun v72 e_v72 => ?_)
            exact Sf.ok (show (0 ≤ x0_lines ∧ x0_lines ≤ 20) ∧ (LnM x0_line) ∧ (AI 0 99 x0_changes) ∧ (AI 0 9 x0_coins) ∧ (0 ≤ x0_goods ∧ x0_goods ≤ 8) ∧ (GdM x0_good) ∧ (0 ≤ g64 ∧ g64 ≤ 7) ∧ (WkB (va_up x0_work q61 g70)) ∧ (1 ≤ x0_years ∧ x0_years ≤ 30) ∧ (0 ≤ g67 ∧ g67 ≤ 250) ∧ ((v72 = 0 ∨ v72 = 1) ∧ (0 ≤ g65 ∧ g65 ≤ x0_tapeSize) ∧ x0_at ≤ g65 ∧ (v72 = 0 ∨ g66 ≠ 3 ∨ x0_at < g65) ∧ (v72 = 0 ∨ WkM (va_up x0_work q61 g70))) from ⟨h_x0_lines, h_x0_line, h_x0_changes, h_x0_coins, h_x0_goods, h_x0_good, h_g64, (GI.up (h_x0_work.1) h_g70), h_x0_years, h_g67, (by grind)⟩)
      · refine Sf.ite (fun hc109 => ?_) (fun hc109 => ?_)
        · unfold fX7_statement_j182
          refine Sf.bind (sX7_isWord hn (by grind) h_x0_from (by first | assumption | decide)) ?_
          intro v5 hr110
          obtain ⟨h_v5, hx_v5⟩ : (0 ≤ v5 ∧ v5 ≤ 1) ∧ (v5 = 0 ∨ x0_token = 1) := hr110
          refine Sf.ite (fun hc111 => ?_) (fun hc111 => ?_)
          · unfold fX7_statement_j214
            refine Sf.bind (sX7_isWord hn (by grind) h_x0_from (by first | assumption | decide)) ?_
            intro v7 hr112
            obtain ⟨h_v7, hx_v7⟩ : (0 ≤ v7 ∧ v7 ≤ 1) ∧ (v7 = 0 ∨ x0_token = 1) := hr112
            refine Sf.ite (fun hc113 => ?_) (fun hc113 => ?_)
            · refine Sf.bind (sX7_isWord hn (by grind) h_x0_from (by first | assumption | decide)) ?_
              intro v9 hr114
              obtain ⟨h_v9, hx_v9⟩ : (0 ≤ v9 ∧ v9 ≤ 1) ∧ (v9 = 0 ∨ x0_token = 1) := hr114
              refine Sf.ite (fun hc115 => ?_) (fun hc115 => ?_)
              · refine Sf.bind (sX7_toldN hn h_x0_shelf h_x0_rowSize h_x0_tapeSize h_x0_lines h_x0_line h_x0_changes h_x0_coins h_x0_goods h_x0_good h_x0_works h_x0_work h_x0_years h_x0_at h_x0_from h_x0_far h_x0_way h_x0_steps h_x0_queue (by first | assumption | rfl | decide | grind) (by first | assumption | rfl | decide | grind) (by first | assumption | rfl | decide | grind)) ?_
                rintro ⟨v11, ⟨g13, g14, g15, g16, g17, g18⟩⟩ hr116
                obtain ⟨h_g15, hx_v11⟩ : (0 ≤ g15 ∧ g15 ≤ 250) ∧ ((v11 = 0 ∨ v11 = 1) ∧ (0 ≤ g13 ∧ g13 ≤ x0_tapeSize) ∧ x0_at ≤ g13 ∧ (v11 = 0 ∨ g14 ≠ 3 ∨ x0_at < g13) ∧ (v11 = 0 ∨ (1 ≤ g18 0 ∧ g18 0 ≤ 30)) ∧ (v11 = 0 ∨ x0_token = 1)) := hr116
                dsimp only [u2, u6]
                refine Sf.ite (fun hc117 => ?_) (fun hc117 => ?_)
                · refine Sf.zbb (by grind) (fun v20 e_v20 => ?_)
                  exact Sf.ok (show (0 ≤ x0_lines ∧ x0_lines ≤ 20) ∧ (LnM x0_line) ∧ (AI 0 99 x0_changes) ∧ (AI 0 9 x0_coins) ∧ (0 ≤ x0_goods ∧ x0_goods ≤ 8) ∧ (GdM x0_good) ∧ (0 ≤ x0_works ∧ x0_works ≤ 7) ∧ (WkB x0_work) ∧ (1 ≤ x0_years ∧ x0_years ≤ 30) ∧ (0 ≤ g15 ∧ g15 ≤ 250) ∧ ((v20 = 0 ∨ v20 = 1) ∧ (0 ≤ g13 ∧ g13 ≤ x0_tapeSize) ∧ x0_at ≤ g13 ∧ (v20 = 0 ∨ g14 ≠ 3 ∨ x0_at < g13) ∧ (v20 = 0 ∨ WkM x0_work)) from ⟨h_x0_lines, h_x0_line, h_x0_changes, h_x0_coins, h_x0_goods, h_x0_good, h_x0_works, (h_x0_work.1), h_x0_years, h_g15, (by grind)⟩)
                · refine Sf.rdl 0 rfl rfl (fun v21 e_v21 => ?_)
                  refine Sf.zbb (by grind) (fun v22 e_v22 => ?_)
                  exact Sf.ok (show (0 ≤ x0_lines ∧ x0_lines ≤ 20) ∧ (LnM x0_line) ∧ (AI 0 99 x0_changes) ∧ (AI 0 9 x0_coins) ∧ (0 ≤ x0_goods ∧ x0_goods ≤ 8) ∧ (GdM x0_good) ∧ (0 ≤ x0_works ∧ x0_works ≤ 7) ∧ (WkB x0_work) ∧ (1 ≤ v21 ∧ v21 ≤ 30) ∧ (0 ≤ g15 ∧ g15 ≤ 250) ∧ ((v22 = 0 ∨ v22 = 1) ∧ (0 ≤ g13 ∧ g13 ≤ x0_tapeSize) ∧ x0_at ≤ g13 ∧ (v22 = 0 ∨ g14 ≠ 3 ∨ x0_at < g13) ∧ (v22 = 0 ∨ WkM x0_work)) from ⟨h_x0_lines, h_x0_line, h_x0_changes, h_x0_coins, h_x0_goods, h_x0_good, h_x0_works, (h_x0_work.1), (by grind), h_g15, (by grind)⟩)
              · refine Sf.bind (sX7_toldN hn h_x0_shelf h_x0_rowSize h_x0_tapeSize h_x0_lines h_x0_line h_x0_changes h_x0_coins h_x0_goods h_x0_good h_x0_works h_x0_work h_x0_years h_x0_at h_x0_from h_x0_far h_x0_way h_x0_steps h_x0_queue (by first | assumption | rfl | decide | grind) (by first | assumption | rfl | decide | grind) (by first | assumption | rfl | decide | grind)) ?_
                rintro ⟨v23, ⟨g25, g26, g27, g28, g29, g30⟩⟩ hr118
                obtain ⟨h_g27, hx_v23⟩ : (0 ≤ g27 ∧ g27 ≤ 250) ∧ ((v23 = 0 ∨ v23 = 1) ∧ (0 ≤ g25 ∧ g25 ≤ x0_tapeSize) ∧ x0_at ≤ g25 ∧ (v23 = 0 ∨ g26 ≠ 3 ∨ x0_at < g25) ∧ (v23 = 0 ∨ (0 ≤ g30 0 ∧ g30 0 ≤ 2)) ∧ (v23 = 0 ∨ x0_token = 1)) := hr118
                dsimp only [u2, u6]
                refine Sf.ite (fun hc119 => ?_) (fun hc119 => ?_)
                · exact Sf.ok (show (0 ≤ x0_lines ∧ x0_lines ≤ 20) ∧ (LnM x0_line) ∧ (AI 0 99 x0_changes) ∧ (AI 0 9 x0_coins) ∧ (0 ≤ x0_goods ∧ x0_goods ≤ 8) ∧ (GdM x0_good) ∧ (0 ≤ x0_works ∧ x0_works ≤ 7) ∧ (WkB x0_work) ∧ (1 ≤ x0_years ∧ x0_years ≤ 30) ∧ (0 ≤ g27 ∧ g27 ≤ 250) ∧ ((0 = 0 ∨ 0 = 1) ∧ (0 ≤ g25 ∧ g25 ≤ x0_tapeSize) ∧ x0_at ≤ g25 ∧ (0 = 0 ∨ g26 ≠ 3 ∨ x0_at < g25) ∧ (0 = 0 ∨ WkM x0_work)) from ⟨h_x0_lines, h_x0_line, h_x0_changes, h_x0_coins, h_x0_goods, h_x0_good, h_x0_works, (h_x0_work.1), h_x0_years, h_g27, (by grind)⟩)
                · refine Sf.rdl 0 rfl rfl (fun v32 e_v32 => ?_)
                  refine Sf.bind (sX7_numberO hn h_x0_shelf h_x0_rowSize h_x0_tapeSize h_x0_lines h_x0_line h_x0_changes h_x0_coins h_x0_goods h_x0_good h_x0_works h_x0_work h_x0_years (by grind) h_g27 h_x0_far h_x0_way h_x0_steps h_x0_queue (by first | assumption | rfl | decide | grind) (by first | assumption | rfl | decide | grind) (by first | assumption | rfl | decide | grind)) ?_
                  rintro ⟨v33, ⟨g35, g36, g37, g38, g39, g40⟩⟩ hr120
                  obtain ⟨h_g35, h_g38, hx_v33⟩ : (AI 0 9 g35) ∧ (0 ≤ g38 ∧ g38 ≤ 250) ∧ ((v33 = 0 ∨ v33 = 1) ∧ (0 ≤ g36 ∧ g36 ≤ x0_tapeSize) ∧ g25 ≤ g36 ∧ (v33 = 0 ∨ g37 ≠ 3 ∨ g25 < g36)) := hr120
                  dsimp only [u2, u6]
                  refine Sf.ite (fun hc121 => ?_) (fun hc121 => ?_)
                  · exact Sf.ok (show (0 ≤ x0_lines ∧ x0_lines ≤ 20) ∧ (LnM x0_line) ∧ (AI 0 99 x0_changes) ∧ (AI 0 9 g35) ∧ (0 ≤ x0_goods ∧ x0_goods ≤ 8) ∧ (GdM x0_good) ∧ (0 ≤ x0_works ∧ x0_works ≤ 7) ∧ (WkB x0_work) ∧ (1 ≤ x0_years ∧ x0_years ≤ 30) ∧ (0 ≤ g38 ∧ g38 ≤ 250) ∧ ((0 = 0 ∨ 0 = 1) ∧ (0 ≤ g36 ∧ g36 ≤ x0_tapeSize) ∧ x0_at ≤ g36 ∧ (0 = 0 ∨ g37 ≠ 3 ∨ x0_at < g36) ∧ (0 = 0 ∨ WkM x0_work)) from ⟨h_x0_lines, h_x0_line, h_x0_changes, h_g35, h_x0_goods, h_x0_good, h_x0_works, (h_x0_work.1), h_x0_years, h_g38, (by grind)⟩)
                  · exact Sf.ok (show (0 ≤ x0_lines ∧ x0_lines ≤ 20) ∧ (LnM x0_line) ∧ (AI 0 99 x0_changes) ∧ (AI 0 9 g35) ∧ (0 ≤ x0_goods ∧ x0_goods ≤ 8) ∧ (GdM x0_good) ∧ (0 ≤ x0_works ∧ x0_works ≤ 7) ∧ (WkB x0_work) ∧ (1 ≤ x0_years ∧ x0_years ≤ 30) ∧ (0 ≤ g38 ∧ g38 ≤ 250) ∧ ((1 = 0 ∨ 1 = 1) ∧ (0 ≤ g36 ∧ g36 ≤ x0_tapeSize) ∧ x0_at ≤ g36 ∧ (1 = 0 ∨ g37 ≠ 3 ∨ x0_at < g36) ∧ (1 = 0 ∨ WkM x0_work)) from ⟨h_x0_lines, h_x0_line, h_x0_changes, h_g35, h_x0_goods, h_x0_good, h_x0_works, (h_x0_work.1), h_x0_years, h_g38, (by grind)⟩)
            · refine Sf.bind (sX7_toldN hn h_x0_shelf h_x0_rowSize h_x0_tapeSize h_x0_lines h_x0_line h_x0_changes h_x0_coins h_x0_goods h_x0_good h_x0_works h_x0_work h_x0_years h_x0_at h_x0_from h_x0_far h_x0_way h_x0_steps h_x0_queue (by first | assumption | rfl | decide | grind) (by first | assumption | rfl | decide | grind) (by first | assumption | rfl | decide | grind)) ?_
              rintro ⟨v42, ⟨g44, g45, g46, g47, g48, g49⟩⟩ hr122
              obtain ⟨h_g46, hx_v42⟩ : (0 ≤ g46 ∧ g46 ≤ 250) ∧ ((v42 = 0 ∨ v42 = 1) ∧ (0 ≤ g44 ∧ g44 ≤ x0_tapeSize) ∧ x0_at ≤ g44 ∧ (v42 = 0 ∨ g45 ≠ 3 ∨ x0_at < g44) ∧ (v42 = 0 ∨ (0 ≤ g49 0 ∧ g49 0 ≤ 11)) ∧ (v42 = 0 ∨ x0_token = 1)) := hr122
              dsimp only [u2, u6]
              refine Sf.ite (fun hc123 => ?_) (fun hc123 => ?_)
              · exact Sf.ok (show (0 ≤ x0_lines ∧ x0_lines ≤ 20) ∧ (LnM x0_line) ∧ (AI 0 99 x0_changes) ∧ (AI 0 9 x0_coins) ∧ (0 ≤ x0_goods ∧ x0_goods ≤ 8) ∧ (GdM x0_good) ∧ (0 ≤ x0_works ∧ x0_works ≤ 7) ∧ (WkB x0_work) ∧ (1 ≤ x0_years ∧ x0_years ≤ 30) ∧ (0 ≤ g46 ∧ g46 ≤ 250) ∧ ((0 = 0 ∨ 0 = 1) ∧ (0 ≤ g44 ∧ g44 ≤ x0_tapeSize) ∧ x0_at ≤ g44 ∧ (0 = 0 ∨ g45 ≠ 3 ∨ x0_at < g44) ∧ (0 = 0 ∨ WkM x0_work)) from ⟨h_x0_lines, h_x0_line, h_x0_changes, h_x0_coins, h_x0_goods, h_x0_good, h_x0_works, (h_x0_work.1), h_x0_years, h_g46, (by grind)⟩)
              · refine Sf.rdl 0 rfl rfl (fun v51 e_v51 => ?_)
                refine Sf.bind (sX7_numberC hn h_x0_shelf h_x0_rowSize h_x0_tapeSize h_x0_lines h_x0_line h_x0_changes h_x0_coins h_x0_goods h_x0_good h_x0_works h_x0_work h_x0_years (by grind) h_g46 h_x0_far h_x0_way h_x0_steps h_x0_queue (by first | assumption | rfl | decide | grind) (by first | assumption | rfl | decide | grind) (by first | assumption | rfl | decide | grind)) ?_
                rintro ⟨v52, ⟨g54, g55, g56, g57, g58, g59⟩⟩ hr124
                obtain ⟨h_g54, h_g57, hx_v52⟩ : (AI 0 99 g54) ∧ (0 ≤ g57 ∧ g57 ≤ 250) ∧ ((v52 = 0 ∨ v52 = 1) ∧ (0 ≤ g55 ∧ g55 ≤ x0_tapeSize) ∧ g44 ≤ g55 ∧ (v52 = 0 ∨ g56 ≠ 3 ∨ g44 < g55)) := hr124
                dsimp only [u2, u6]
                refine Sf.ite (fun hc125 => ?_) (fun hc125 => ?_)
                · exact Sf.ok (show (0 ≤ x0_lines ∧ x0_lines ≤ 20) ∧ (LnM x0_line) ∧ (AI 0 99 g54) ∧ (AI 0 9 x0_coins) ∧ (0 ≤ x0_goods ∧ x0_goods ≤ 8) ∧ (GdM x0_good) ∧ (0 ≤ x0_works ∧ x0_works ≤ 7) ∧ (WkB x0_work) ∧ (1 ≤ x0_years ∧ x0_years ≤ 30) ∧ (0 ≤ g57 ∧ g57 ≤ 250) ∧ ((0 = 0 ∨ 0 = 1) ∧ (0 ≤ g55 ∧ g55 ≤ x0_tapeSize) ∧ x0_at ≤ g55 ∧ (0 = 0 ∨ g56 ≠ 3 ∨ x0_at < g55) ∧ (0 = 0 ∨ WkM x0_work)) from ⟨h_x0_lines, h_x0_line, h_g54, h_x0_coins, h_x0_goods, h_x0_good, h_x0_works, (h_x0_work.1), h_x0_years, h_g57, (by grind)⟩)
                · exact Sf.ok (show (0 ≤ x0_lines ∧ x0_lines ≤ 20) ∧ (LnM x0_line) ∧ (AI 0 99 g54) ∧ (AI 0 9 x0_coins) ∧ (0 ≤ x0_goods ∧ x0_goods ≤ 8) ∧ (GdM x0_good) ∧ (0 ≤ x0_works ∧ x0_works ≤ 7) ∧ (WkB x0_work) ∧ (1 ≤ x0_years ∧ x0_years ≤ 30) ∧ (0 ≤ g57 ∧ g57 ≤ 250) ∧ ((1 = 0 ∨ 1 = 1) ∧ (0 ≤ g55 ∧ g55 ≤ x0_tapeSize) ∧ x0_at ≤ g55 ∧ (1 = 0 ∨ g56 ≠ 3 ∨ x0_at < g55) ∧ (1 = 0 ∨ WkM x0_work)) from ⟨h_x0_lines, h_x0_line, h_g54, h_x0_coins, h_x0_goods, h_x0_good, h_x0_works, (h_x0_work.1), h_x0_years, h_g57, (by grind)⟩)
          · refine Sf.ite (fun hc126 => ?_) (fun hc126 => ?_)
            · unfold fX7_statement_j214
              refine Sf.bind (sX7_isWord hn (by grind) h_x0_from (by first | assumption | decide)) ?_
              intro v7 hr127
              obtain ⟨h_v7, hx_v7⟩ : (0 ≤ v7 ∧ v7 ≤ 1) ∧ (v7 = 0 ∨ x0_token = 1) := hr127
              refine Sf.ite (fun hc128 => ?_) (fun hc128 => ?_)
              · refine Sf.bind (sX7_isWord hn (by grind) h_x0_from (by first | assumption | decide)) ?_
                intro v9 hr129
                obtain ⟨h_v9, hx_v9⟩ : (0 ≤ v9 ∧ v9 ≤ 1) ∧ (v9 = 0 ∨ x0_token = 1) := hr129
                refine Sf.ite (fun hc130 => ?_) (fun hc130 => ?_)
                · refine Sf.bind (sX7_toldN hn h_x0_shelf h_x0_rowSize h_x0_tapeSize h_x0_lines h_x0_line h_x0_changes h_x0_coins h_x0_goods h_x0_good h_x0_works h_x0_work h_x0_years h_x0_at h_x0_from h_x0_far h_x0_way h_x0_steps h_x0_queue (by first | assumption | rfl | decide | grind) (by first | assumption | rfl | decide | grind) (by first | assumption | rfl | decide | grind)) ?_
                  rintro ⟨v11, ⟨g13, g14, g15, g16, g17, g18⟩⟩ hr131
                  obtain ⟨h_g15, hx_v11⟩ : (0 ≤ g15 ∧ g15 ≤ 250) ∧ ((v11 = 0 ∨ v11 = 1) ∧ (0 ≤ g13 ∧ g13 ≤ x0_tapeSize) ∧ x0_at ≤ g13 ∧ (v11 = 0 ∨ g14 ≠ 3 ∨ x0_at < g13) ∧ (v11 = 0 ∨ (1 ≤ g18 0 ∧ g18 0 ≤ 30)) ∧ (v11 = 0 ∨ x0_token = 1)) := hr131
                  dsimp only [u2, u6]
                  refine Sf.ite (fun hc132 => ?_) (fun hc132 => ?_)
                  · refine Sf.zbb (by grind) (fun v20 e_v20 => ?_)
                    exact Sf.ok (show (0 ≤ x0_lines ∧ x0_lines ≤ 20) ∧ (LnM x0_line) ∧ (AI 0 99 x0_changes) ∧ (AI 0 9 x0_coins) ∧ (0 ≤ x0_goods ∧ x0_goods ≤ 8) ∧ (GdM x0_good) ∧ (0 ≤ x0_works ∧ x0_works ≤ 7) ∧ (WkB x0_work) ∧ (1 ≤ x0_years ∧ x0_years ≤ 30) ∧ (0 ≤ g15 ∧ g15 ≤ 250) ∧ ((v20 = 0 ∨ v20 = 1) ∧ (0 ≤ g13 ∧ g13 ≤ x0_tapeSize) ∧ x0_at ≤ g13 ∧ (v20 = 0 ∨ g14 ≠ 3 ∨ x0_at < g13) ∧ (v20 = 0 ∨ WkM x0_work)) from ⟨h_x0_lines, h_x0_line, h_x0_changes, h_x0_coins, h_x0_goods, h_x0_good, h_x0_works, (h_x0_work.1), h_x0_years, h_g15, (by grind)⟩)
                  · refine Sf.rdl 0 rfl rfl (fun v21 e_v21 => ?_)
                    refine Sf.zbb (by grind) (fun v22 e_v22 => ?_)
                    exact Sf.ok (show (0 ≤ x0_lines ∧ x0_lines ≤ 20) ∧ (LnM x0_line) ∧ (AI 0 99 x0_changes) ∧ (AI 0 9 x0_coins) ∧ (0 ≤ x0_goods ∧ x0_goods ≤ 8) ∧ (GdM x0_good) ∧ (0 ≤ x0_works ∧ x0_works ≤ 7) ∧ (WkB x0_work) ∧ (1 ≤ v21 ∧ v21 ≤ 30) ∧ (0 ≤ g15 ∧ g15 ≤ 250) ∧ ((v22 = 0 ∨ v22 = 1) ∧ (0 ≤ g13 ∧ g13 ≤ x0_tapeSize) ∧ x0_at ≤ g13 ∧ (v22 = 0 ∨ g14 ≠ 3 ∨ x0_at < g13) ∧ (v22 = 0 ∨ WkM x0_work)) from ⟨h_x0_lines, h_x0_line, h_x0_changes, h_x0_coins, h_x0_goods, h_x0_good, h_x0_works, (h_x0_work.1), (by grind), h_g15, (by grind)⟩)
                · refine Sf.bind (sX7_toldN hn h_x0_shelf h_x0_rowSize h_x0_tapeSize h_x0_lines h_x0_line h_x0_changes h_x0_coins h_x0_goods h_x0_good h_x0_works h_x0_work h_x0_years h_x0_at h_x0_from h_x0_far h_x0_way h_x0_steps h_x0_queue (by first | assumption | rfl | decide | grind) (by first | assumption | rfl | decide | grind) (by first | assumption | rfl | decide | grind)) ?_
                  rintro ⟨v23, ⟨g25, g26, g27, g28, g29, g30⟩⟩ hr133
                  obtain ⟨h_g27, hx_v23⟩ : (0 ≤ g27 ∧ g27 ≤ 250) ∧ ((v23 = 0 ∨ v23 = 1) ∧ (0 ≤ g25 ∧ g25 ≤ x0_tapeSize) ∧ x0_at ≤ g25 ∧ (v23 = 0 ∨ g26 ≠ 3 ∨ x0_at < g25) ∧ (v23 = 0 ∨ (0 ≤ g30 0 ∧ g30 0 ≤ 2)) ∧ (v23 = 0 ∨ x0_token = 1)) := hr133
                  dsimp only [u2, u6]
                  refine Sf.ite (fun hc134 => ?_) (fun hc134 => ?_)
                  · exact Sf.ok (show (0 ≤ x0_lines ∧ x0_lines ≤ 20) ∧ (LnM x0_line) ∧ (AI 0 99 x0_changes) ∧ (AI 0 9 x0_coins) ∧ (0 ≤ x0_goods ∧ x0_goods ≤ 8) ∧ (GdM x0_good) ∧ (0 ≤ x0_works ∧ x0_works ≤ 7) ∧ (WkB x0_work) ∧ (1 ≤ x0_years ∧ x0_years ≤ 30) ∧ (0 ≤ g27 ∧ g27 ≤ 250) ∧ ((0 = 0 ∨ 0 = 1) ∧ (0 ≤ g25 ∧ g25 ≤ x0_tapeSize) ∧ x0_at ≤ g25 ∧ (0 = 0 ∨ g26 ≠ 3 ∨ x0_at < g25) ∧ (0 = 0 ∨ WkM x0_work)) from ⟨h_x0_lines, h_x0_line, h_x0_changes, h_x0_coins, h_x0_goods, h_x0_good, h_x0_works, (h_x0_work.1), h_x0_years, h_g27, (by grind)⟩)
                  · refine Sf.rdl 0 rfl rfl (fun v32 e_v32 => ?_)
                    refine Sf.bind (sX7_numberO hn h_x0_shelf h_x0_rowSize h_x0_tapeSize h_x0_lines h_x0_line h_x0_changes h_x0_coins h_x0_goods h_x0_good h_x0_works h_x0_work h_x0_years (by grind) h_g27 h_x0_far h_x0_way h_x0_steps h_x0_queue (by first | assumption | rfl | decide | grind) (by first | assumption | rfl | decide | grind) (by first | assumption | rfl | decide | grind)) ?_
                    rintro ⟨v33, ⟨g35, g36, g37, g38, g39, g40⟩⟩ hr135
                    obtain ⟨h_g35, h_g38, hx_v33⟩ : (AI 0 9 g35) ∧ (0 ≤ g38 ∧ g38 ≤ 250) ∧ ((v33 = 0 ∨ v33 = 1) ∧ (0 ≤ g36 ∧ g36 ≤ x0_tapeSize) ∧ g25 ≤ g36 ∧ (v33 = 0 ∨ g37 ≠ 3 ∨ g25 < g36)) := hr135
                    dsimp only [u2, u6]
                    refine Sf.ite (fun hc136 => ?_) (fun hc136 => ?_)
                    · exact Sf.ok (show (0 ≤ x0_lines ∧ x0_lines ≤ 20) ∧ (LnM x0_line) ∧ (AI 0 99 x0_changes) ∧ (AI 0 9 g35) ∧ (0 ≤ x0_goods ∧ x0_goods ≤ 8) ∧ (GdM x0_good) ∧ (0 ≤ x0_works ∧ x0_works ≤ 7) ∧ (WkB x0_work) ∧ (1 ≤ x0_years ∧ x0_years ≤ 30) ∧ (0 ≤ g38 ∧ g38 ≤ 250) ∧ ((0 = 0 ∨ 0 = 1) ∧ (0 ≤ g36 ∧ g36 ≤ x0_tapeSize) ∧ x0_at ≤ g36 ∧ (0 = 0 ∨ g37 ≠ 3 ∨ x0_at < g36) ∧ (0 = 0 ∨ WkM x0_work)) from ⟨h_x0_lines, h_x0_line, h_x0_changes, h_g35, h_x0_goods, h_x0_good, h_x0_works, (h_x0_work.1), h_x0_years, h_g38, (by grind)⟩)
                    · exact Sf.ok (show (0 ≤ x0_lines ∧ x0_lines ≤ 20) ∧ (LnM x0_line) ∧ (AI 0 99 x0_changes) ∧ (AI 0 9 g35) ∧ (0 ≤ x0_goods ∧ x0_goods ≤ 8) ∧ (GdM x0_good) ∧ (0 ≤ x0_works ∧ x0_works ≤ 7) ∧ (WkB x0_work) ∧ (1 ≤ x0_years ∧ x0_years ≤ 30) ∧ (0 ≤ g38 ∧ g38 ≤ 250) ∧ ((1 = 0 ∨ 1 = 1) ∧ (0 ≤ g36 ∧ g36 ≤ x0_tapeSize) ∧ x0_at ≤ g36 ∧ (1 = 0 ∨ g37 ≠ 3 ∨ x0_at < g36) ∧ (1 = 0 ∨ WkM x0_work)) from ⟨h_x0_lines, h_x0_line, h_x0_changes, h_g35, h_x0_goods, h_x0_good, h_x0_works, (h_x0_work.1), h_x0_years, h_g38, (by grind)⟩)
              · refine Sf.bind (sX7_toldN hn h_x0_shelf h_x0_rowSize h_x0_tapeSize h_x0_lines h_x0_line h_x0_changes h_x0_coins h_x0_goods h_x0_good h_x0_works h_x0_work h_x0_years h_x0_at h_x0_from h_x0_far h_x0_way h_x0_steps h_x0_queue (by first | assumption | rfl | decide | grind) (by first | assumption | rfl | decide | grind) (by first | assumption | rfl | decide | grind)) ?_
                rintro ⟨v42, ⟨g44, g45, g46, g47, g48, g49⟩⟩ hr137
                obtain ⟨h_g46, hx_v42⟩ : (0 ≤ g46 ∧ g46 ≤ 250) ∧ ((v42 = 0 ∨ v42 = 1) ∧ (0 ≤ g44 ∧ g44 ≤ x0_tapeSize) ∧ x0_at ≤ g44 ∧ (v42 = 0 ∨ g45 ≠ 3 ∨ x0_at < g44) ∧ (v42 = 0 ∨ (0 ≤ g49 0 ∧ g49 0 ≤ 11)) ∧ (v42 = 0 ∨ x0_token = 1)) := hr137
                dsimp only [u2, u6]
                refine Sf.ite (fun hc138 => ?_) (fun hc138 => ?_)
                · exact Sf.ok (show (0 ≤ x0_lines ∧ x0_lines ≤ 20) ∧ (LnM x0_line) ∧ (AI 0 99 x0_changes) ∧ (AI 0 9 x0_coins) ∧ (0 ≤ x0_goods ∧ x0_goods ≤ 8) ∧ (GdM x0_good) ∧ (0 ≤ x0_works ∧ x0_works ≤ 7) ∧ (WkB x0_work) ∧ (1 ≤ x0_years ∧ x0_years ≤ 30) ∧ (0 ≤ g46 ∧ g46 ≤ 250) ∧ ((0 = 0 ∨ 0 = 1) ∧ (0 ≤ g44 ∧ g44 ≤ x0_tapeSize) ∧ x0_at ≤ g44 ∧ (0 = 0 ∨ g45 ≠ 3 ∨ x0_at < g44) ∧ (0 = 0 ∨ WkM x0_work)) from ⟨h_x0_lines, h_x0_line, h_x0_changes, h_x0_coins, h_x0_goods, h_x0_good, h_x0_works, (h_x0_work.1), h_x0_years, h_g46, (by grind)⟩)
                · refine Sf.rdl 0 rfl rfl (fun v51 e_v51 => ?_)
                  refine Sf.bind (sX7_numberC hn h_x0_shelf h_x0_rowSize h_x0_tapeSize h_x0_lines h_x0_line h_x0_changes h_x0_coins h_x0_goods h_x0_good h_x0_works h_x0_work h_x0_years (by grind) h_g46 h_x0_far h_x0_way h_x0_steps h_x0_queue (by first | assumption | rfl | decide | grind) (by first | assumption | rfl | decide | grind) (by first | assumption | rfl | decide | grind)) ?_
                  rintro ⟨v52, ⟨g54, g55, g56, g57, g58, g59⟩⟩ hr139
                  obtain ⟨h_g54, h_g57, hx_v52⟩ : (AI 0 99 g54) ∧ (0 ≤ g57 ∧ g57 ≤ 250) ∧ ((v52 = 0 ∨ v52 = 1) ∧ (0 ≤ g55 ∧ g55 ≤ x0_tapeSize) ∧ g44 ≤ g55 ∧ (v52 = 0 ∨ g56 ≠ 3 ∨ g44 < g55)) := hr139
                  dsimp only [u2, u6]
                  refine Sf.ite (fun hc140 => ?_) (fun hc140 => ?_)
                  · exact Sf.ok (show (0 ≤ x0_lines ∧ x0_lines ≤ 20) ∧ (LnM x0_line) ∧ (AI 0 99 g54) ∧ (AI 0 9 x0_coins) ∧ (0 ≤ x0_goods ∧ x0_goods ≤ 8) ∧ (GdM x0_good) ∧ (0 ≤ x0_works ∧ x0_works ≤ 7) ∧ (WkB x0_work) ∧ (1 ≤ x0_years ∧ x0_years ≤ 30) ∧ (0 ≤ g57 ∧ g57 ≤ 250) ∧ ((0 = 0 ∨ 0 = 1) ∧ (0 ≤ g55 ∧ g55 ≤ x0_tapeSize) ∧ x0_at ≤ g55 ∧ (0 = 0 ∨ g56 ≠ 3 ∨ x0_at < g55) ∧ (0 = 0 ∨ WkM x0_work)) from ⟨h_x0_lines, h_x0_line, h_g54, h_x0_coins, h_x0_goods, h_x0_good, h_x0_works, (h_x0_work.1), h_x0_years, h_g57, (by grind)⟩)
                  · exact Sf.ok (show (0 ≤ x0_lines ∧ x0_lines ≤ 20) ∧ (LnM x0_line) ∧ (AI 0 99 g54) ∧ (AI 0 9 x0_coins) ∧ (0 ≤ x0_goods ∧ x0_goods ≤ 8) ∧ (GdM x0_good) ∧ (0 ≤ x0_works ∧ x0_works ≤ 7) ∧ (WkB x0_work) ∧ (1 ≤ x0_years ∧ x0_years ≤ 30) ∧ (0 ≤ g57 ∧ g57 ≤ 250) ∧ ((1 = 0 ∨ 1 = 1) ∧ (0 ≤ g55 ∧ g55 ≤ x0_tapeSize) ∧ x0_at ≤ g55 ∧ (1 = 0 ∨ g56 ≠ 3 ∨ x0_at < g55) ∧ (1 = 0 ∨ WkM x0_work)) from ⟨h_x0_lines, h_x0_line, h_g54, h_x0_coins, h_x0_goods, h_x0_good, h_x0_works, (h_x0_work.1), h_x0_years, h_g57, (by grind)⟩)
            · refine Sf.ckb 7 rfl (by grind) (fun q61 e_q61 h_q61 => ?_)
              refine Sf.bind (sX7_workTold hn h_x0_shelf h_x0_rowSize h_x0_tapeSize h_x0_lines h_x0_line h_x0_changes h_x0_coins h_x0_goods h_x0_good h_x0_works h_x0_work h_x0_years h_x0_at h_x0_from h_x0_far h_x0_way h_x0_steps h_x0_queue (h_x0_work.1 q61) (by first | assumption | rfl | decide | grind) (by first | assumption | rfl | decide | grind)) ?_
              rintro ⟨v62, ⟨g64, g65, g66, g67, g68, g69⟩, g70⟩ hr141
              obtain ⟨h_g64, h_g67, h_g70, hx_v62⟩ : (0 ≤ g64 ∧ g64 ≤ 7) ∧ (0 ≤ g67 ∧ g67 ≤ 250) ∧ (RI wkB g70) ∧ ((v62 = 0 ∨ v62 = 1) ∧ (0 ≤ g65 ∧ g65 ≤ x0_tapeSize) ∧ x0_at ≤ g65 ∧ (v62 = 0 ∨ g66 ≠ 3 ∨ x0_at < g65) ∧ (v62 = 0 ∨ (x0_token = 1 ∧ WkRm (g70 0) (g70 1) (g70 2)))) := hr141
              dsimp only [u3, u6]
              have hW : v62 = 0 ∨ WkM (va_up x0_work q61 g70) := by
                rcases hx_v62.2.2.2.2 with h | h
                · exact Or.inl h
                · exact Or.inr (WkM.up h_x0_work h_g70 h.2)
              refine Sf.zbb (by grind) (fun v72 e_v72 => ?_)
              exact Sf.ok (show (0 ≤ x0_lines ∧ x0_lines ≤ 20) ∧ (LnM x0_line) ∧ (AI 0 99 x0_changes) ∧ (AI 0 9 x0_coins) ∧ (0 ≤ x0_goods ∧ x0_goods ≤ 8) ∧ (GdM x0_good) ∧ (0 ≤ g64 ∧ g64 ≤ 7) ∧ (WkB (va_up x0_work q61 g70)) ∧ (1 ≤ x0_years ∧ x0_years ≤ 30) ∧ (0 ≤ g67 ∧ g67 ≤ 250) ∧ ((v72 = 0 ∨ v72 = 1) ∧ (0 ≤ g65 ∧ g65 ≤ x0_tapeSize) ∧ x0_at ≤ g65 ∧ (v72 = 0 ∨ g66 ≠ 3 ∨ x0_at < g65) ∧ (v72 = 0 ∨ WkM (va_up x0_work q61 g70))) from ⟨h_x0_lines, h_x0_line, h_x0_changes, h_x0_coins, h_x0_goods, h_x0_good, h_g64, (GI.up (h_x0_work.1) h_g70), h_x0_years, h_g67, (by grind)⟩)
        · refine Sf.ckb 8 rfl (by grind) (fun q73 e_q73 h_q73 => ?_)
          refine Sf.bind (sX7_two (M := 3) (B := gdB) hn h_x0_shelf h_x0_rowSize h_x0_tapeSize h_x0_lines h_x0_line h_x0_changes h_x0_coins h_x0_goods h_x0_good h_x0_works h_x0_work h_x0_years h_x0_at h_x0_from h_x0_far h_x0_way h_x0_steps h_x0_queue (h_x0_good q73) (by first | assumption | rfl | decide | grind) (by first | assumption | rfl | decide | grind) (by first | assumption | rfl | decide | grind) (by first | assumption | rfl | decide | grind)) ?_
          rintro ⟨v74, ⟨g76, g77, g78, g79, g80⟩, g81⟩ hr142
          obtain ⟨h_g78, h_g81, hx_v74⟩ : (0 ≤ g78 ∧ g78 ≤ 250) ∧ (RI gdB g81) ∧ ((v74 = 0 ∨ v74 = 1) ∧ (0 ≤ g76 ∧ g76 ≤ x0_tapeSize) ∧ x0_at ≤ g76 ∧ (v74 = 0 ∨ g77 ≠ 3 ∨ x0_at < g76)) := hr142
          dsimp only [u3, u5]
          refine Sf.ite (fun hc143 => ?_) (fun hc143 => ?_)
          · exact Sf.ok (show (0 ≤ x0_lines ∧ x0_lines ≤ 20) ∧ (LnM x0_line) ∧ (AI 0 99 x0_changes) ∧ (AI 0 9 x0_coins) ∧ (0 ≤ x0_goods ∧ x0_goods ≤ 8) ∧ (GdM (va_up x0_good q73 g81)) ∧ (0 ≤ x0_works ∧ x0_works ≤ 7) ∧ (WkB x0_work) ∧ (1 ≤ x0_years ∧ x0_years ≤ 30) ∧ (0 ≤ g78 ∧ g78 ≤ 250) ∧ ((0 = 0 ∨ 0 = 1) ∧ (0 ≤ g76 ∧ g76 ≤ x0_tapeSize) ∧ x0_at ≤ g76 ∧ (0 = 0 ∨ g77 ≠ 3 ∨ x0_at < g76) ∧ (0 = 0 ∨ WkM x0_work)) from ⟨h_x0_lines, h_x0_line, h_x0_changes, h_x0_coins, h_x0_goods, (GI.up h_x0_good h_g81), h_x0_works, (h_x0_work.1), h_x0_years, h_g78, (by grind)⟩)
          · refine Sf.ckb 8 rfl (by grind) (fun q83 e_q83 h_q83 => ?_)
            refine Sf.bind (sX7_number (M := 3) (B := gdB) hn h_x0_shelf h_x0_rowSize h_x0_tapeSize h_x0_lines h_x0_line h_x0_changes h_x0_coins h_x0_goods (GI.up h_x0_good h_g81) h_x0_works h_x0_work h_x0_years (by grind) h_g78 h_x0_far h_x0_way h_x0_steps h_x0_queue ((GI.up h_x0_good h_g81) q83) (by first | assumption | rfl | decide | grind) (by first | assumption | rfl | decide | grind) (by first | assumption | rfl | decide | grind) (by first | assumption | rfl | decide | grind)) ?_
            rintro ⟨v84, ⟨g86, g87, g88, g89, g90⟩, g91⟩ hr144
            obtain ⟨h_g88, h_g91, hx_v84⟩ : (0 ≤ g88 ∧ g88 ≤ 250) ∧ (RI gdB g91) ∧ ((v84 = 0 ∨ v84 = 1) ∧ (0 ≤ g86 ∧ g86 ≤ x0_tapeSize) ∧ g76 ≤ g86 ∧ (v84 = 0 ∨ g87 ≠ 3 ∨ g76 < g86) ∧ (v84 = 0 ∨ g91 = va_up ((va_up x0_good q73 g81) q83) (2 : Int32).toNatClampNeg g79.toInt32) ∧ (v84 = 1 ∨ g77 ≠ 2 ∨ g79 < (1 : Int32).toInt64 ∨ (99 : Int32).toInt64 < g79)) := hr144
            dsimp only [u3, u5]
            refine Sf.ite (fun hc145 => ?_) (fun hc145 => ?_)
            · exact Sf.ok (show (0 ≤ x0_lines ∧ x0_lines ≤ 20) ∧ (LnM x0_line) ∧ (AI 0 99 x0_changes) ∧ (AI 0 9 x0_coins) ∧ (0 ≤ x0_goods ∧ x0_goods ≤ 8) ∧ (GdM (va_up (va_up x0_good q73 g81) q83 g91)) ∧ (0 ≤ x0_works ∧ x0_works ≤ 7) ∧ (WkB x0_work) ∧ (1 ≤ x0_years ∧ x0_years ≤ 30) ∧ (0 ≤ g88 ∧ g88 ≤ 250) ∧ ((0 = 0 ∨ 0 = 1) ∧ (0 ≤ g86 ∧ g86 ≤ x0_tapeSize) ∧ x0_at ≤ g86 ∧ (0 = 0 ∨ g87 ≠ 3 ∨ x0_at < g86) ∧ (0 = 0 ∨ WkM x0_work)) from ⟨h_x0_lines, h_x0_line, h_x0_changes, h_x0_coins, h_x0_goods, (GI.up (GI.up h_x0_good h_g81) h_g91), h_x0_works, (h_x0_work.1), h_x0_years, h_g88, (by grind)⟩)
            · exact Sf.ok (show (0 ≤ x0_lines ∧ x0_lines ≤ 20) ∧ (LnM x0_line) ∧ (AI 0 99 x0_changes) ∧ (AI 0 9 x0_coins) ∧ (0 ≤ (x0_goods + 1) ∧ (x0_goods + 1) ≤ 8) ∧ (GdM (va_up (va_up x0_good q73 g81) q83 g91)) ∧ (0 ≤ x0_works ∧ x0_works ≤ 7) ∧ (WkB x0_work) ∧ (1 ≤ x0_years ∧ x0_years ≤ 30) ∧ (0 ≤ g88 ∧ g88 ≤ 250) ∧ ((1 = 0 ∨ 1 = 1) ∧ (0 ≤ g86 ∧ g86 ≤ x0_tapeSize) ∧ x0_at ≤ g86 ∧ (1 = 0 ∨ g87 ≠ 3 ∨ x0_at < g86) ∧ (1 = 0 ∨ WkM x0_work)) from ⟨h_x0_lines, h_x0_line, h_x0_changes, h_x0_coins, (by grind), (GI.up (GI.up h_x0_good h_g81) h_g91), h_x0_works, (h_x0_work.1), h_x0_years, h_g88, (by grind)⟩)
    · refine Sf.ckb 20 rfl (by grind) (fun q93 e_q93 h_q93 => ?_)
      refine Sf.bind (sX7_newLine h_x0_shelf h_x0_rowSize h_x0_tapeSize h_x0_lines h_x0_line h_x0_changes h_x0_coins h_x0_goods h_x0_good h_x0_works h_x0_work h_x0_years h_x0_from h_x0_far h_x0_way h_x0_steps h_x0_queue (by decide) (by decide) (by grind)) ?_
      intro g94 hr146
      have h_g94 : (LnM g94) := hr146
      refine Sf.bind (sX7_two (M := 7) (B := lnB) hn h_x0_shelf h_x0_rowSize h_x0_tapeSize h_x0_lines h_g94 h_x0_changes h_x0_coins h_x0_goods h_x0_good h_x0_works h_x0_work h_x0_years h_x0_at h_x0_from h_x0_far h_x0_way h_x0_steps h_x0_queue (h_g94 q93) (by first | assumption | rfl | decide | grind) (by first | assumption | rfl | decide | grind) (by first | assumption | rfl | decide | grind) (by first | assumption | rfl | decide | grind)) ?_
      rintro ⟨v96, ⟨g98, g99, g100, g101, g102⟩, g103⟩ hr147
      obtain ⟨h_g100, h_g103, hx_v96⟩ : (0 ≤ g100 ∧ g100 ≤ 250) ∧ (RI lnB g103) ∧ ((v96 = 0 ∨ v96 = 1) ∧ (0 ≤ g98 ∧ g98 ≤ x0_tapeSize) ∧ x0_at ≤ g98 ∧ (v96 = 0 ∨ g99 ≠ 3 ∨ x0_at < g98)) := hr147
      dsimp only [u3, u5]
      refine Sf.ite (fun hc148 => ?_) (fun hc148 => ?_)
      · exact Sf.ok (show (0 ≤ x0_lines ∧ x0_lines ≤ 20) ∧ (LnM (va_up g94 q93 g103)) ∧ (AI 0 99 x0_changes) ∧ (AI 0 9 x0_coins) ∧ (0 ≤ x0_goods ∧ x0_goods ≤ 8) ∧ (GdM x0_good) ∧ (0 ≤ x0_works ∧ x0_works ≤ 7) ∧ (WkB x0_work) ∧ (1 ≤ x0_years ∧ x0_years ≤ 30) ∧ (0 ≤ g100 ∧ g100 ≤ 250) ∧ ((0 = 0 ∨ 0 = 1) ∧ (0 ≤ g98 ∧ g98 ≤ x0_tapeSize) ∧ x0_at ≤ g98 ∧ (0 = 0 ∨ g99 ≠ 3 ∨ x0_at < g98) ∧ (0 = 0 ∨ WkM x0_work)) from ⟨h_x0_lines, (GI.up h_g94 h_g103), h_x0_changes, h_x0_coins, h_x0_goods, h_x0_good, h_x0_works, (h_x0_work.1), h_x0_years, h_g100, (by grind)⟩)
      · refine Sf.bind (sX7_told (M := 7) (B := lnB) hn h_x0_shelf h_x0_rowSize h_x0_tapeSize h_x0_lines (GI.up h_g94 h_g103) h_x0_changes h_x0_coins h_x0_goods h_x0_good h_x0_works h_x0_work h_x0_years (by grind) h_g100 h_x0_far h_x0_way h_x0_steps h_x0_queue ((GI.up h_g94 h_g103) q93) (by first | assumption | rfl | decide | grind) (by first | assumption | rfl | decide | grind) (by first | assumption | rfl | decide | grind) (by first | assumption | rfl | decide | grind) (by first | assumption | rfl | decide | grind)) ?_
        rintro ⟨v105, ⟨g107, g108, g109, g110, g111⟩, g112⟩ hr149
        obtain ⟨h_g109, h_g112, hx_v105⟩ : (0 ≤ g109 ∧ g109 ≤ 250) ∧ (RI lnB g112) ∧ ((v105 = 0 ∨ v105 = 1) ∧ (0 ≤ g107 ∧ g107 ≤ x0_tapeSize) ∧ g98 ≤ g107 ∧ (v105 = 0 ∨ g108 ≠ 3 ∨ g98 < g107) ∧ (v105 = 0 ∨ g99 = 1)) := hr149
        dsimp only [u3, u5]
        refine Sf.ite (fun hc150 => ?_) (fun hc150 => ?_)
        · exact Sf.ok (show (0 ≤ x0_lines ∧ x0_lines ≤ 20) ∧ (LnM (va_up (va_up g94 q93 g103) q93 g112)) ∧ (AI 0 99 x0_changes) ∧ (AI 0 9 x0_coins) ∧ (0 ≤ x0_goods ∧ x0_goods ≤ 8) ∧ (GdM x0_good) ∧ (0 ≤ x0_works ∧ x0_works ≤ 7) ∧ (WkB x0_work) ∧ (1 ≤ x0_years ∧ x0_years ≤ 30) ∧ (0 ≤ g109 ∧ g109 ≤ 250) ∧ ((0 = 0 ∨ 0 = 1) ∧ (0 ≤ g107 ∧ g107 ≤ x0_tapeSize) ∧ x0_at ≤ g107 ∧ (0 = 0 ∨ g108 ≠ 3 ∨ x0_at < g107) ∧ (0 = 0 ∨ WkM x0_work)) from ⟨h_x0_lines, (GI.up (GI.up h_g94 h_g103) h_g112), h_x0_changes, h_x0_coins, h_x0_goods, h_x0_good, h_x0_works, (h_x0_work.1), h_x0_years, h_g109, (by grind)⟩)
        · refine Sf.bind (sX7_told (M := 7) (B := lnB) hn h_x0_shelf h_x0_rowSize h_x0_tapeSize h_x0_lines (GI.up (GI.up h_g94 h_g103) h_g112) h_x0_changes h_x0_coins h_x0_goods h_x0_good h_x0_works h_x0_work h_x0_years (by grind) h_g109 h_x0_far h_x0_way h_x0_steps h_x0_queue ((GI.up (GI.up h_g94 h_g103) h_g112) q93) (by first | assumption | rfl | decide | grind) (by first | assumption | rfl | decide | grind) (by first | assumption | rfl | decide | grind) (by first | assumption | rfl | decide | grind) (by first | assumption | rfl | decide | grind)) ?_
          rintro ⟨v114, ⟨g116, g117, g118, g119, g120⟩, g121⟩ hr151
          obtain ⟨h_g118, h_g121, hx_v114⟩ : (0 ≤ g118 ∧ g118 ≤ 250) ∧ (RI lnB g121) ∧ ((v114 = 0 ∨ v114 = 1) ∧ (0 ≤ g116 ∧ g116 ≤ x0_tapeSize) ∧ g107 ≤ g116 ∧ (v114 = 0 ∨ g117 ≠ 3 ∨ g107 < g116) ∧ (v114 = 0 ∨ g108 = 1)) := hr151
          dsimp only [u3, u5]
          refine Sf.ite (fun hc152 => ?_) (fun hc152 => ?_)
          · exact Sf.ok (show (0 ≤ x0_lines ∧ x0_lines ≤ 20) ∧ (LnM (va_up (va_up (va_up g94 q93 g103) q93 g112) q93 g121)) ∧ (AI 0 99 x0_changes) ∧ (AI 0 9 x0_coins) ∧ (0 ≤ x0_goods ∧ x0_goods ≤ 8) ∧ (GdM x0_good) ∧ (0 ≤ x0_works ∧ x0_works ≤ 7) ∧ (WkB x0_work) ∧ (1 ≤ x0_years ∧ x0_years ≤ 30) ∧ (0 ≤ g118 ∧ g118 ≤ 250) ∧ ((0 = 0 ∨ 0 = 1) ∧ (0 ≤ g116 ∧ g116 ≤ x0_tapeSize) ∧ x0_at ≤ g116 ∧ (0 = 0 ∨ g117 ≠ 3 ∨ x0_at < g116) ∧ (0 = 0 ∨ WkM x0_work)) from ⟨h_x0_lines, (GI.up (GI.up (GI.up h_g94 h_g103) h_g112) h_g121), h_x0_changes, h_x0_coins, h_x0_goods, h_x0_good, h_x0_works, (h_x0_work.1), h_x0_years, h_g118, (by grind)⟩)
          · refine Sf.bind (sX7_perhaps (M := 7) (B := lnB) hn h_x0_shelf h_x0_rowSize h_x0_tapeSize h_x0_lines (GI.up (GI.up (GI.up h_g94 h_g103) h_g112) h_g121) h_x0_changes h_x0_coins h_x0_goods h_x0_good h_x0_works h_x0_work h_x0_years (by grind) h_g118 h_x0_far h_x0_way h_x0_steps h_x0_queue ((GI.up (GI.up (GI.up h_g94 h_g103) h_g112) h_g121) q93) (by first | assumption | rfl | decide | grind) (by first | assumption | rfl | decide | grind) (by first | assumption | rfl | decide | grind) (by first | assumption | rfl | decide | grind) (by first | assumption | rfl | decide | grind)) ?_
            rintro ⟨v123, ⟨g125, g126, g127, g128, g129⟩, g130⟩ hr153
            obtain ⟨h_g127, h_g130, hx_v123⟩ : (0 ≤ g127 ∧ g127 ≤ 250) ∧ (RI lnB g130) ∧ ((v123 = 0 ∨ v123 = 1) ∧ (0 ≤ g125 ∧ g125 ≤ x0_tapeSize) ∧ g116 ≤ g125 ∧ (v123 = 0 ∨ (g125 = g116 ∧ g126 = g117) ∨ g126 ≠ 3 ∨ g116 < g125)) := hr153
            dsimp only [u3, u5]
            refine Sf.ite (fun hc154 => ?_) (fun hc154 => ?_)
            · exact Sf.ok (show (0 ≤ x0_lines ∧ x0_lines ≤ 20) ∧ (LnM (va_up (va_up (va_up (va_up g94 q93 g103) q93 g112) q93 g121) q93 g130)) ∧ (AI 0 99 x0_changes) ∧ (AI 0 9 x0_coins) ∧ (0 ≤ x0_goods ∧ x0_goods ≤ 8) ∧ (GdM x0_good) ∧ (0 ≤ x0_works ∧ x0_works ≤ 7) ∧ (WkB x0_work) ∧ (1 ≤ x0_years ∧ x0_years ≤ 30) ∧ (0 ≤ g127 ∧ g127 ≤ 250) ∧ ((0 = 0 ∨ 0 = 1) ∧ (0 ≤ g125 ∧ g125 ≤ x0_tapeSize) ∧ x0_at ≤ g125 ∧ (0 = 0 ∨ g126 ≠ 3 ∨ x0_at < g125) ∧ (0 = 0 ∨ WkM x0_work)) from ⟨h_x0_lines, (GI.up (GI.up (GI.up (GI.up h_g94 h_g103) h_g112) h_g121) h_g130), h_x0_changes, h_x0_coins, h_x0_goods, h_x0_good, h_x0_works, (h_x0_work.1), h_x0_years, h_g127, (by grind)⟩)
            · refine Sf.bind (sX7_perhaps (M := 7) (B := lnB) hn h_x0_shelf h_x0_rowSize h_x0_tapeSize h_x0_lines (GI.up (GI.up (GI.up (GI.up h_g94 h_g103) h_g112) h_g121) h_g130) h_x0_changes h_x0_coins h_x0_goods h_x0_good h_x0_works h_x0_work h_x0_years (by grind) h_g127 h_x0_far h_x0_way h_x0_steps h_x0_queue ((GI.up (GI.up (GI.up (GI.up h_g94 h_g103) h_g112) h_g121) h_g130) q93) (by first | assumption | rfl | decide | grind) (by first | assumption | rfl | decide | grind) (by first | assumption | rfl | decide | grind) (by first | assumption | rfl | decide | grind) (by first | assumption | rfl | decide | grind)) ?_
              rintro ⟨v132, ⟨g134, g135, g136, g137, g138⟩, g139⟩ hr155
              obtain ⟨h_g136, h_g139, hx_v132⟩ : (0 ≤ g136 ∧ g136 ≤ 250) ∧ (RI lnB g139) ∧ ((v132 = 0 ∨ v132 = 1) ∧ (0 ≤ g134 ∧ g134 ≤ x0_tapeSize) ∧ g125 ≤ g134 ∧ (v132 = 0 ∨ (g134 = g125 ∧ g135 = g126) ∨ g135 ≠ 3 ∨ g125 < g134)) := hr155
              dsimp only [u3, u5]
              refine Sf.ite (fun hc156 => ?_) (fun hc156 => ?_)
              · exact Sf.ok (show (0 ≤ x0_lines ∧ x0_lines ≤ 20) ∧ (LnM (va_up (va_up (va_up (va_up (va_up g94 q93 g103) q93 g112) q93 g121) q93 g130) q93 g139)) ∧ (AI 0 99 x0_changes) ∧ (AI 0 9 x0_coins) ∧ (0 ≤ x0_goods ∧ x0_goods ≤ 8) ∧ (GdM x0_good) ∧ (0 ≤ x0_works ∧ x0_works ≤ 7) ∧ (WkB x0_work) ∧ (1 ≤ x0_years ∧ x0_years ≤ 30) ∧ (0 ≤ g136 ∧ g136 ≤ 250) ∧ ((0 = 0 ∨ 0 = 1) ∧ (0 ≤ g134 ∧ g134 ≤ x0_tapeSize) ∧ x0_at ≤ g134 ∧ (0 = 0 ∨ g135 ≠ 3 ∨ x0_at < g134) ∧ (0 = 0 ∨ WkM x0_work)) from ⟨h_x0_lines, (GI.up (GI.up (GI.up (GI.up (GI.up h_g94 h_g103) h_g112) h_g121) h_g130) h_g139), h_x0_changes, h_x0_coins, h_x0_goods, h_x0_good, h_x0_works, (h_x0_work.1), h_x0_years, h_g136, (by grind)⟩)
              · exact Sf.ok (show (0 ≤ (x0_lines + 1) ∧ (x0_lines + 1) ≤ 20) ∧ (LnM (va_up (va_up (va_up (va_up (va_up g94 q93 g103) q93 g112) q93 g121) q93 g130) q93 g139)) ∧ (AI 0 99 x0_changes) ∧ (AI 0 9 x0_coins) ∧ (0 ≤ x0_goods ∧ x0_goods ≤ 8) ∧ (GdM x0_good) ∧ (0 ≤ x0_works ∧ x0_works ≤ 7) ∧ (WkB x0_work) ∧ (1 ≤ x0_years ∧ x0_years ≤ 30) ∧ (0 ≤ g136 ∧ g136 ≤ 250) ∧ ((1 = 0 ∨ 1 = 1) ∧ (0 ≤ g134 ∧ g134 ≤ x0_tapeSize) ∧ x0_at ≤ g134 ∧ (1 = 0 ∨ g135 ≠ 3 ∨ x0_at < g134) ∧ (1 = 0 ∨ WkM x0_work)) from ⟨(by grind), (GI.up (GI.up (GI.up (GI.up (GI.up h_g94 h_g103) h_g112) h_g121) h_g130) h_g139), h_x0_changes, h_x0_coins, h_x0_goods, h_x0_good, h_x0_works, (h_x0_work.1), h_x0_years, h_g136, (by grind)⟩)
theorem TX7_read_s23 {n : Nat} {x0_shelf x0_rowSort x0_rowSize : (Nat → Int32)} {x0_rows : (Nat → Nat → Int64)} {x0_moved : (Nat → Int64)} {x0_shown x0_tape : (Nat → Int32)} {x0_tapeSize : Int32} {x0_refused : (Nat → Int32)} {x0_gone x0_spent : Int32} {x0_left x0_far : (Nat → Int32)} {x0_tons : Int32} {x0_way : (Nat → Int32)} {x0_steps : Int32} {x0_met : Int64} {x0_queue x0_totals : (Nat → Int32)} {z25 : Int32} {z26 : (Nat → Nat → Int32)} {z27 z28 : (Nat → Int32)} {z29 : Int32} {z30 : (Nat → Nat → Int32)} {z31 : Int32} {z32 : (Nat → Nat → Int32)} {z33 z34 z35 z36 : Int32} {z37 : Int64} {z38 : Int32} {z39 : (Nat → Int32)} {z40 : Int32} (hn : 1000000000000 ≤ n) (h_x0_shelf : (AI 0 2 x0_shelf)) (h_x0_rowSize : (AI 0 40 x0_rowSize)) (h_x0_tapeSize : (0 ≤ x0_tapeSize ∧ x0_tapeSize ≤ 250)) (h_x0_far : (AI 0 1000000000 x0_far)) (h_x0_way : (AI 0 22 x0_way)) (h_x0_steps : (0 ≤ x0_steps ∧ x0_steps ≤ 37)) (h_x0_queue : (AI 0 35 x0_queue)) (h_z25 : (0 ≤ z25 ∧ z25 ≤ 20)) (h_z26 : (LnM z26)) (h_z27 : (AI 0 99 z27)) (h_z28 : (AI 0 9 z28)) (h_z29 : (0 ≤ z29 ∧ z29 ≤ 8)) (h_z30 : (GdM z30)) (h_z31 : (0 ≤ z31 ∧ z31 ≤ 7)) (h_z32 : (WkM z32)) (h_z33 : (1 ≤ z33 ∧ z33 ≤ 30)) (h_z34 : (0 ≤ z34)) (h_z36 : (0 ≤ z36 ∧ z36 ≤ 250)) (hi_0 : z34 ≤ x0_tapeSize) : Sf (fX7_read_s23 n x0_shelf x0_rowSort x0_rowSize x0_rows x0_moved x0_shown x0_tape x0_tapeSize x0_refused x0_gone x0_spent x0_left x0_far x0_tons x0_way x0_steps x0_met x0_queue x0_totals z25 z26 z27 z28 z29 z30 z31 z32 z33 z34 z35 z36 z37 z38 z39 z40) (LQ (u16 (fun z25 z26 z27 z28 z29 z30 z31 z32 z33 z34 z35 z36 z37 z38 z39 z40 => (0 ≤ z25 ∧ z25 ≤ 20) ∧ (LnM z26) ∧ (AI 0 99 z27) ∧ (AI 0 9 z28) ∧ (0 ≤ z29 ∧ z29 ≤ 8) ∧ (GdM z30) ∧ (0 ≤ z31 ∧ z31 ≤ 7) ∧ (WkM z32) ∧ (1 ≤ z33 ∧ z33 ≤ 30) ∧ (0 ≤ z34) ∧ (0 ≤ z36 ∧ z36 ≤ 250) ∧ (z34 ≤ x0_tapeSize))) (u16 (fun z25 z26 z27 z28 z29 z30 z31 z32 z33 z34 z35 z36 z37 z38 z39 z40 => rdMu x0_tapeSize z34 z35)) (rdMu x0_tapeSize z34 z35) ((Sum.elim (fun a => (0 ≤ a.1 ∧ a.1 ≤ 20) ∧ (LnM a.2.1) ∧ (AI 0 99 a.2.2.1) ∧ (AI 0 9 a.2.2.2.1) ∧ (0 ≤ a.2.2.2.2.1 ∧ a.2.2.2.2.1 ≤ 8) ∧ (GdM a.2.2.2.2.2.1) ∧ (0 ≤ a.2.2.2.2.2.2.1 ∧ a.2.2.2.2.2.2.1 ≤ 7) ∧ (WkM a.2.2.2.2.2.2.2.1) ∧ (1 ≤ a.2.2.2.2.2.2.2.2.1 ∧ a.2.2.2.2.2.2.2.2.1 ≤ 30) ∧ (0 ≤ a.2.2.2.2.2.2.2.2.2.1) ∧ (0 ≤ a.2.2.2.2.2.2.2.2.2.2.2.1 ∧ a.2.2.2.2.2.2.2.2.2.2.2.1 ≤ 250)) (Sum.elim (fun a => (0 ≤ a.1 ∧ a.1 ≤ 20) ∧ (LnM a.2.1) ∧ (AI 0 99 a.2.2.1) ∧ (AI 0 9 a.2.2.2.1) ∧ (0 ≤ a.2.2.2.2.1 ∧ a.2.2.2.2.1 ≤ 8) ∧ (GdM a.2.2.2.2.2.1) ∧ (0 ≤ a.2.2.2.2.2.2.1 ∧ a.2.2.2.2.2.2.1 ≤ 7) ∧ (WkB a.2.2.2.2.2.2.2.1) ∧ (1 ≤ a.2.2.2.2.2.2.2.2.1 ∧ a.2.2.2.2.2.2.2.2.1 ≤ 30) ∧ (0 ≤ a.2.2.2.2.2.2.2.2.2.2.2.1 ∧ a.2.2.2.2.2.2.2.2.2.2.2.1 ≤ 250)) (fun a => (0 ≤ a.1 ∧ a.1 ≤ 20) ∧ (LnM a.2.1) ∧ (AI 0 99 a.2.2.1) ∧ (AI 0 9 a.2.2.2.1) ∧ (0 ≤ a.2.2.2.2.1 ∧ a.2.2.2.2.1 ≤ 8) ∧ (GdM a.2.2.2.2.2.1) ∧ (0 ≤ a.2.2.2.2.2.2.1 ∧ a.2.2.2.2.2.2.1 ≤ 7) ∧ (WkM a.2.2.2.2.2.2.2.1) ∧ (1 ≤ a.2.2.2.2.2.2.2.2.1 ∧ a.2.2.2.2.2.2.2.2.1 ≤ 30) ∧ (0 ≤ a.2.2.2.2.2.2.2.2.2.1) ∧ (0 ≤ a.2.2.2.2.2.2.2.2.2.2.2.1 ∧ a.2.2.2.2.2.2.2.2.2.2.2.1 ≤ 250)))))) := by
  unfold fX7_read_s23
  refine Sf.ite (fun hc1 => ?_) (fun hc1 => ?_)
  · exact Sf.inr (show (0 ≤ z25 ∧ z25 ≤ 20) ∧ (LnM z26) ∧ (AI 0 99 z27) ∧ (AI 0 9 z28) ∧ (0 ≤ z29 ∧ z29 ≤ 8) ∧ (GdM z30) ∧ (0 ≤ z31 ∧ z31 ≤ 7) ∧ (WkM z32) ∧ (1 ≤ z33 ∧ z33 ≤ 30) ∧ (0 ≤ z34) ∧ (0 ≤ z36 ∧ z36 ≤ 250) from ⟨h_z25, h_z26, h_z27, h_z28, h_z29, h_z30, h_z31, h_z32, h_z33, h_z34, h_z36⟩)
  · refine Sf.ite (fun hc2 => ?_) (fun hc2 => ?_)
    · refine Sf.bind (sX7_look hn h_x0_shelf h_x0_rowSize h_x0_tapeSize h_z25 h_z26 h_z27 h_z28 h_z29 h_z30 h_z31 h_z32 h_z33 h_z34 h_z36 h_x0_far h_x0_way h_x0_steps h_x0_queue (by grind)) ?_
      rintro ⟨g94, g95, g96, g97⟩ hr3
      obtain ⟨h_g96, hx_g94⟩ : (0 ≤ g96 ∧ g96 ≤ 250) ∧ ((0 ≤ g94 ∧ g94 ≤ x0_tapeSize) ∧ z34 ≤ g94 ∧ (g95 ≠ 3 ∨ z34 < g94)) := hr3
      dsimp only [u4]
      refine Sf.bind (sX7_statement hn h_x0_shelf h_x0_rowSize h_x0_tapeSize h_z25 h_z26 h_z27 h_z28 h_z29 h_z30 h_z31 h_z32 h_z33 (by grind) h_g96 h_x0_far h_x0_way h_x0_steps h_x0_queue (by first | assumption | rfl | decide | grind)) ?_
      rintro ⟨v99, ⟨g101, g102, g103, g104, g105, g106, g107, g108, g109, g110, g111, g112, g113, g114, g115⟩⟩ hr4
      obtain ⟨h_g101, h_g102, h_g103, h_g104, h_g105, h_g106, h_g107, h_g108, h_g109, h_g112, hx_v99⟩ : (0 ≤ g101 ∧ g101 ≤ 20) ∧ (LnM g102) ∧ (AI 0 99 g103) ∧ (AI 0 9 g104) ∧ (0 ≤ g105 ∧ g105 ≤ 8) ∧ (GdM g106) ∧ (0 ≤ g107 ∧ g107 ≤ 7) ∧ (WkB g108) ∧ (1 ≤ g109 ∧ g109 ≤ 30) ∧ (0 ≤ g112 ∧ g112 ≤ 250) ∧ ((v99 = 0 ∨ v99 = 1) ∧ (0 ≤ g110 ∧ g110 ≤ x0_tapeSize) ∧ g94 ≤ g110 ∧ (v99 = 0 ∨ g111 ≠ 3 ∨ g94 < g110) ∧ (v99 = 0 ∨ WkM g108)) := hr4
      dsimp only [u15, u2]
      refine Sf.ite (fun hc5 => ?_) (fun hc5 => ?_)
      · exact Sf.inr (show (0 ≤ g101 ∧ g101 ≤ 20) ∧ (LnM g102) ∧ (AI 0 99 g103) ∧ (AI 0 9 g104) ∧ (0 ≤ g105 ∧ g105 ≤ 8) ∧ (GdM g106) ∧ (0 ≤ g107 ∧ g107 ≤ 7) ∧ (WkB g108) ∧ (1 ≤ g109 ∧ g109 ≤ 30) ∧ (0 ≤ g112 ∧ g112 ≤ 250) from ⟨h_g101, h_g102, h_g103, h_g104, h_g105, h_g106, h_g107, h_g108, h_g109, h_g112⟩)
      · exact Sf.inl (show (0 ≤ g101 ∧ g101 ≤ 20) ∧ (LnM g102) ∧ (AI 0 99 g103) ∧ (AI 0 9 g104) ∧ (0 ≤ g105 ∧ g105 ≤ 8) ∧ (GdM g106) ∧ (0 ≤ g107 ∧ g107 ≤ 7) ∧ (WkM g108) ∧ (1 ≤ g109 ∧ g109 ≤ 30) ∧ (0 ≤ g110) ∧ (0 ≤ g112 ∧ g112 ≤ 250) ∧ (g110 ≤ x0_tapeSize) from ⟨h_g101, h_g102, h_g103, h_g104, h_g105, h_g106, h_g107, (by grind), h_g109, (by grind), h_g112, (by grind)⟩) (rdMu_lt (by assumption) (by grind) (by grind) (by grind))
    · exact Sf.inr (show (0 ≤ z25 ∧ z25 ≤ 20) ∧ (LnM z26) ∧ (AI 0 99 z27) ∧ (AI 0 9 z28) ∧ (0 ≤ z29 ∧ z29 ≤ 8) ∧ (GdM z30) ∧ (0 ≤ z31 ∧ z31 ≤ 7) ∧ (WkM z32) ∧ (1 ≤ z33 ∧ z33 ≤ 30) ∧ (0 ≤ z34) ∧ (0 ≤ z36 ∧ z36 ≤ 250) from ⟨h_z25, h_z26, h_z27, h_z28, h_z29, h_z30, h_z31, h_z32, h_z33, h_z34, h_z36⟩)
theorem LX7_read_s23 {n : Nat} {x0_shelf x0_rowSort x0_rowSize : (Nat → Int32)} {x0_rows : (Nat → Nat → Int64)} {x0_moved : (Nat → Int64)} {x0_shown x0_tape : (Nat → Int32)} {x0_tapeSize : Int32} {x0_refused : (Nat → Int32)} {x0_gone x0_spent : Int32} {x0_left x0_far : (Nat → Int32)} {x0_tons : Int32} {x0_way : (Nat → Int32)} {x0_steps : Int32} {x0_met : Int64} {x0_queue x0_totals : (Nat → Int32)} {z25 : Int32} {z26 : (Nat → Nat → Int32)} {z27 z28 : (Nat → Int32)} {z29 : Int32} {z30 : (Nat → Nat → Int32)} {z31 : Int32} {z32 : (Nat → Nat → Int32)} {z33 z34 z35 z36 : Int32} {z37 : Int64} {z38 : Int32} {z39 : (Nat → Int32)} {z40 : Int32} (hn : 1000000000000 ≤ n) (h_x0_shelf : (AI 0 2 x0_shelf)) (h_x0_rowSize : (AI 0 40 x0_rowSize)) (h_x0_tapeSize : (0 ≤ x0_tapeSize ∧ x0_tapeSize ≤ 250)) (h_x0_far : (AI 0 1000000000 x0_far)) (h_x0_way : (AI 0 22 x0_way)) (h_x0_steps : (0 ≤ x0_steps ∧ x0_steps ≤ 37)) (h_x0_queue : (AI 0 35 x0_queue)) (h_z25 : (0 ≤ z25 ∧ z25 ≤ 20)) (h_z26 : (LnM z26)) (h_z27 : (AI 0 99 z27)) (h_z28 : (AI 0 9 z28)) (h_z29 : (0 ≤ z29 ∧ z29 ≤ 8)) (h_z30 : (GdM z30)) (h_z31 : (0 ≤ z31 ∧ z31 ≤ 7)) (h_z32 : (WkM z32)) (h_z33 : (1 ≤ z33 ∧ z33 ≤ 30)) (h_z34 : (0 ≤ z34)) (h_z36 : (0 ≤ z36 ∧ z36 ≤ 250)) (hi_0 : z34 ≤ x0_tapeSize) : Sf (lp (u16 (fX7_read_s23 n x0_shelf x0_rowSort x0_rowSize x0_rows x0_moved x0_shown x0_tape x0_tapeSize x0_refused x0_gone x0_spent x0_left x0_far x0_tons x0_way x0_steps x0_met x0_queue x0_totals)) n (z25, z26, z27, z28, z29, z30, z31, z32, z33, z34, z35, z36, z37, z38, z39, z40)) ((Sum.elim (fun a => (0 ≤ a.1 ∧ a.1 ≤ 20) ∧ (LnM a.2.1) ∧ (AI 0 99 a.2.2.1) ∧ (AI 0 9 a.2.2.2.1) ∧ (0 ≤ a.2.2.2.2.1 ∧ a.2.2.2.2.1 ≤ 8) ∧ (GdM a.2.2.2.2.2.1) ∧ (0 ≤ a.2.2.2.2.2.2.1 ∧ a.2.2.2.2.2.2.1 ≤ 7) ∧ (WkM a.2.2.2.2.2.2.2.1) ∧ (1 ≤ a.2.2.2.2.2.2.2.2.1 ∧ a.2.2.2.2.2.2.2.2.1 ≤ 30) ∧ (0 ≤ a.2.2.2.2.2.2.2.2.2.1) ∧ (0 ≤ a.2.2.2.2.2.2.2.2.2.2.2.1 ∧ a.2.2.2.2.2.2.2.2.2.2.2.1 ≤ 250)) (Sum.elim (fun a => (0 ≤ a.1 ∧ a.1 ≤ 20) ∧ (LnM a.2.1) ∧ (AI 0 99 a.2.2.1) ∧ (AI 0 9 a.2.2.2.1) ∧ (0 ≤ a.2.2.2.2.1 ∧ a.2.2.2.2.1 ≤ 8) ∧ (GdM a.2.2.2.2.2.1) ∧ (0 ≤ a.2.2.2.2.2.2.1 ∧ a.2.2.2.2.2.2.1 ≤ 7) ∧ (WkB a.2.2.2.2.2.2.2.1) ∧ (1 ≤ a.2.2.2.2.2.2.2.2.1 ∧ a.2.2.2.2.2.2.2.2.1 ≤ 30) ∧ (0 ≤ a.2.2.2.2.2.2.2.2.2.2.2.1 ∧ a.2.2.2.2.2.2.2.2.2.2.2.1 ≤ 250)) (fun a => (0 ≤ a.1 ∧ a.1 ≤ 20) ∧ (LnM a.2.1) ∧ (AI 0 99 a.2.2.1) ∧ (AI 0 9 a.2.2.2.1) ∧ (0 ≤ a.2.2.2.2.1 ∧ a.2.2.2.2.1 ≤ 8) ∧ (GdM a.2.2.2.2.2.1) ∧ (0 ≤ a.2.2.2.2.2.2.1 ∧ a.2.2.2.2.2.2.1 ≤ 7) ∧ (WkM a.2.2.2.2.2.2.2.1) ∧ (1 ≤ a.2.2.2.2.2.2.2.2.1 ∧ a.2.2.2.2.2.2.2.2.1 ≤ 30) ∧ (0 ≤ a.2.2.2.2.2.2.2.2.2.1) ∧ (0 ≤ a.2.2.2.2.2.2.2.2.2.2.2.1 ∧ a.2.2.2.2.2.2.2.2.2.2.2.1 ≤ 250))))) :=
  Sf.loop16 (fun z25 z26 z27 z28 z29 z30 z31 z32 z33 z34 z35 z36 z37 z38 z39 z40 => (0 ≤ z25 ∧ z25 ≤ 20) ∧ (LnM z26) ∧ (AI 0 99 z27) ∧ (AI 0 9 z28) ∧ (0 ≤ z29 ∧ z29 ≤ 8) ∧ (GdM z30) ∧ (0 ≤ z31 ∧ z31 ≤ 7) ∧ (WkM z32) ∧ (1 ≤ z33 ∧ z33 ≤ 30) ∧ (0 ≤ z34) ∧ (0 ≤ z36 ∧ z36 ≤ 250) ∧ (z34 ≤ x0_tapeSize)) (fun z25 z26 z27 z28 z29 z30 z31 z32 z33 z34 z35 z36 z37 z38 z39 z40 => rdMu x0_tapeSize z34 z35) (fun z25 z26 z27 z28 z29 z30 z31 z32 z33 z34 z35 z36 z37 z38 z39 z40 h => TX7_read_s23 hn h_x0_shelf h_x0_rowSize h_x0_tapeSize h_x0_far h_x0_way h_x0_steps h_x0_queue h.1 h.2.1 h.2.2.1 h.2.2.2.1 h.2.2.2.2.1 h.2.2.2.2.2.1 h.2.2.2.2.2.2.1 h.2.2.2.2.2.2.2.1 h.2.2.2.2.2.2.2.2.1 h.2.2.2.2.2.2.2.2.2.1 h.2.2.2.2.2.2.2.2.2.2.1 h.2.2.2.2.2.2.2.2.2.2.2) (show (0 ≤ z25 ∧ z25 ≤ 20) ∧ (LnM z26) ∧ (AI 0 99 z27) ∧ (AI 0 9 z28) ∧ (0 ≤ z29 ∧ z29 ≤ 8) ∧ (GdM z30) ∧ (0 ≤ z31 ∧ z31 ≤ 7) ∧ (WkM z32) ∧ (1 ≤ z33 ∧ z33 ≤ 30) ∧ (0 ≤ z34) ∧ (0 ≤ z36 ∧ z36 ≤ 250) ∧ (z34 ≤ x0_tapeSize) from ⟨h_z25, h_z26, h_z27, h_z28, h_z29, h_z30, h_z31, h_z32, h_z33, h_z34, h_z36, hi_0⟩) (rdMu_n hn)
set_option maxHeartbeats 1000000 in
theorem sX7_read {n : Nat} {x0_shelf x0_rowSort x0_rowSize : (Nat → Int32)} {x0_rows : (Nat → Nat → Int64)} {x0_moved : (Nat → Int64)} {x0_shown x0_tape : (Nat → Int32)} {x0_tapeSize : Int32} {x0_refused : (Nat → Int32)} {x0_lines : Int32} {x0_line : (Nat → Nat → Int32)} {x0_changes x0_coins : (Nat → Int32)} {x0_goods : Int32} {x0_good : (Nat → Nat → Int32)} {x0_works : Int32} {x0_work : (Nat → Nat → Int32)} {x0_years x0_gone x0_spent x0_at x0_token x0_from : Int32} {x0_figures : Int64} {x0_fault : Int32} {x0_numbers : (Nat → Int32)} {x0_statements : Int32} {x0_left x0_far : (Nat → Int32)} {x0_tons : Int32} {x0_way : (Nat → Int32)} {x0_steps : Int32} {x0_met : Int64} {x0_queue x0_totals : (Nat → Int32)} (hn : 1000000000000 ≤ n) (h_x0_shelf : (AI 0 2 x0_shelf)) (h_x0_rowSize : (AI 0 40 x0_rowSize)) (h_x0_tapeSize : (0 ≤ x0_tapeSize ∧ x0_tapeSize ≤ 250)) (h_x0_lines : (0 ≤ x0_lines ∧ x0_lines ≤ 20)) (h_x0_line : (LnM x0_line)) (h_x0_changes : (AI 0 99 x0_changes)) (h_x0_coins : (AI 0 9 x0_coins)) (h_x0_goods : (0 ≤ x0_goods ∧ x0_goods ≤ 8)) (h_x0_good : (GdM x0_good)) (h_x0_works : (0 ≤ x0_works ∧ x0_works ≤ 7)) (h_x0_work : (WkM x0_work)) (h_x0_years : (1 ≤ x0_years ∧ x0_years ≤ 30)) (h_x0_from : (0 ≤ x0_from ∧ x0_from ≤ 250)) (h_x0_far : (AI 0 1000000000 x0_far)) (h_x0_way : (AI 0 22 x0_way)) (h_x0_steps : (0 ≤ x0_steps ∧ x0_steps ≤ 37)) (h_x0_queue : (AI 0 35 x0_queue)) : Sf (fX7_read n (x0_shelf, x0_rowSort, x0_rowSize, x0_rows, x0_moved, x0_shown, x0_tape, x0_tapeSize, x0_refused, x0_lines, x0_line, x0_changes, x0_coins, x0_goods, x0_good, x0_works, x0_work, x0_years, x0_gone, x0_spent, x0_at, x0_token, x0_from, x0_figures, x0_fault, x0_numbers, x0_statements, x0_left, x0_far, x0_tons, x0_way, x0_steps, x0_met, x0_queue, x0_totals)) (fun r => (0 ≤ r.2.1 ∧ r.2.1 ≤ 20) ∧ (LnM r.2.2.1) ∧ (AI 0 99 r.2.2.2.1) ∧ (AI 0 9 r.2.2.2.2.1) ∧ (0 ≤ r.2.2.2.2.2.1 ∧ r.2.2.2.2.2.1 ≤ 8) ∧ (GdM r.2.2.2.2.2.2.1) ∧ (0 ≤ r.2.2.2.2.2.2.2.1 ∧ r.2.2.2.2.2.2.2.1 ≤ 7) ∧ (WkB r.2.2.2.2.2.2.2.2.1) ∧ (1 ≤ r.2.2.2.2.2.2.2.2.2.1 ∧ r.2.2.2.2.2.2.2.2.2.1 ≤ 30) ∧ (0 ≤ r.2.2.2.2.2.2.2.2.2.2.2.2.1 ∧ r.2.2.2.2.2.2.2.2.2.2.2.2.1 ≤ 250) ∧ ((r.1 = 0 ∨ r.1 = 1) ∧ (r.1 = 0 ∨ WkM r.2.2.2.2.2.2.2.2.1))) := by
  unfold fX7_read
  dsimp only [u35]
  refine Sf.bind (sX7_look hn h_x0_shelf h_x0_rowSize h_x0_tapeSize h_x0_lines h_x0_line h_x0_changes h_x0_coins h_x0_goods h_x0_good h_x0_works h_x0_work h_x0_years (by decide) h_x0_from h_x0_far h_x0_way h_x0_steps h_x0_queue (by grind)) ?_
  rintro ⟨g1, g2, g3, g4⟩ hr1
  obtain ⟨h_g3, hx_g1⟩ : (0 ≤ g3 ∧ g3 ≤ 250) ∧ ((0 ≤ g1 ∧ g1 ≤ x0_tapeSize) ∧ 0 ≤ g1 ∧ (g2 ≠ 3 ∨ 0 < g1)) := hr1
  dsimp only [u4]
  refine Sf.bind (sX7_statement hn h_x0_shelf h_x0_rowSize h_x0_tapeSize h_x0_lines h_x0_line h_x0_changes h_x0_coins h_x0_goods h_x0_good h_x0_works h_x0_work h_x0_years (by grind) h_g3 h_x0_far h_x0_way h_x0_steps h_x0_queue (by first | assumption | rfl | decide | grind)) ?_
  rintro ⟨v6, ⟨g8, g9, g10, g11, g12, g13, g14, g15, g16, g17, g18, g19, g20, g21, g22⟩⟩ hr2
  obtain ⟨h_g8, h_g9, h_g10, h_g11, h_g12, h_g13, h_g14, h_g15, h_g16, h_g19, hx_v6⟩ : (0 ≤ g8 ∧ g8 ≤ 20) ∧ (LnM g9) ∧ (AI 0 99 g10) ∧ (AI 0 9 g11) ∧ (0 ≤ g12 ∧ g12 ≤ 8) ∧ (GdM g13) ∧ (0 ≤ g14 ∧ g14 ≤ 7) ∧ (WkB g15) ∧ (1 ≤ g16 ∧ g16 ≤ 30) ∧ (0 ≤ g19 ∧ g19 ≤ 250) ∧ ((v6 = 0 ∨ v6 = 1) ∧ (0 ≤ g17 ∧ g17 ≤ x0_tapeSize) ∧ g1 ≤ g17 ∧ (v6 = 0 ∨ g18 ≠ 3 ∨ g1 < g17) ∧ (v6 = 0 ∨ WkM g15)) := hr2
  dsimp only [u15, u2]
  refine Sf.ite (fun hc3 => ?_) (fun hc3 => ?_)
  · exact Sf.ok (show (0 ≤ g8 ∧ g8 ≤ 20) ∧ (LnM g9) ∧ (AI 0 99 g10) ∧ (AI 0 9 g11) ∧ (0 ≤ g12 ∧ g12 ≤ 8) ∧ (GdM g13) ∧ (0 ≤ g14 ∧ g14 ≤ 7) ∧ (WkB g15) ∧ (1 ≤ g16 ∧ g16 ≤ 30) ∧ (0 ≤ g19 ∧ g19 ≤ 250) ∧ ((0 = 0 ∨ 0 = 1) ∧ (0 = 0 ∨ WkM g15)) from ⟨h_g8, h_g9, h_g10, h_g11, h_g12, h_g13, h_g14, h_g15, h_g16, h_g19, (by grind)⟩)
  · refine Sf.bindS (LX7_read_s23 hn h_x0_shelf h_x0_rowSize h_x0_tapeSize h_x0_far h_x0_way h_x0_steps h_x0_queue h_g8 h_g9 h_g10 h_g11 h_g12 h_g13 h_g14 (by grind) h_g16 (by grind) h_g19 (by grind)) ?_ ?_
    · rintro ⟨w42, w43, w44, w45, w46, w47, w48, w49, w50, w51, w52, w53, w54, w55, w56, w57⟩ hr4
      obtain ⟨h_w42, h_w43, h_w44, h_w45, h_w46, h_w47, h_w48, h_w49, h_w50, h_w51, h_w53⟩ : (0 ≤ w42 ∧ w42 ≤ 20) ∧ (LnM w43) ∧ (AI 0 99 w44) ∧ (AI 0 9 w45) ∧ (0 ≤ w46 ∧ w46 ≤ 8) ∧ (GdM w47) ∧ (0 ≤ w48 ∧ w48 ≤ 7) ∧ (WkM w49) ∧ (1 ≤ w50 ∧ w50 ≤ 30) ∧ (0 ≤ w51) ∧ (0 ≤ w53 ∧ w53 ≤ 250) := hr4
      dsimp only [u16]
      refine Sf.bind (sX7_wrong h_x0_shelf h_x0_rowSize h_x0_tapeSize h_w42 h_w43 h_w44 h_w45 h_w46 h_w47 h_w48 h_w49 h_w50 h_w53 h_x0_far h_x0_way h_x0_steps h_x0_queue) ?_
      rintro ⟨v58, g59⟩ hr5
      have h_v58 : (0 ≤ v58 ∧ v58 ≤ 0) := hr5
      dsimp only [u2]
      refine Sf.zbb (by grind) (fun v61 e_v61 => ?_)
      exact Sf.ok (show (0 ≤ w42 ∧ w42 ≤ 20) ∧ (LnM w43) ∧ (AI 0 99 w44) ∧ (AI 0 9 w45) ∧ (0 ≤ w46 ∧ w46 ≤ 8) ∧ (GdM w47) ∧ (0 ≤ w48 ∧ w48 ≤ 7) ∧ (WkB w49) ∧ (1 ≤ w50 ∧ w50 ≤ 30) ∧ (0 ≤ w53 ∧ w53 ≤ 250) ∧ ((v61 = 0 ∨ v61 = 1) ∧ (v61 = 0 ∨ WkM w49)) from ⟨h_w42, h_w43, h_w44, h_w45, h_w46, h_w47, h_w48, (h_w49.1), h_w50, h_w53, (by grind)⟩)
    · refine Sf.elimS ?_ ?_
      · rintro ⟨w62, w63, w64, w65, w66, w67, w68, w69, w70, w71, w72, w73, w74, w75, w76, w77⟩ hr6
        obtain ⟨h_w62, h_w63, h_w64, h_w65, h_w66, h_w67, h_w68, h_w69, h_w70, h_w73⟩ : (0 ≤ w62 ∧ w62 ≤ 20) ∧ (LnM w63) ∧ (AI 0 99 w64) ∧ (AI 0 9 w65) ∧ (0 ≤ w66 ∧ w66 ≤ 8) ∧ (GdM w67) ∧ (0 ≤ w68 ∧ w68 ≤ 7) ∧ (WkB w69) ∧ (1 ≤ w70 ∧ w70 ≤ 30) ∧ (0 ≤ w73 ∧ w73 ≤ 250) := hr6
        dsimp only [u16]
        exact Sf.ok (show (0 ≤ w62 ∧ w62 ≤ 20) ∧ (LnM w63) ∧ (AI 0 99 w64) ∧ (AI 0 9 w65) ∧ (0 ≤ w66 ∧ w66 ≤ 8) ∧ (GdM w67) ∧ (0 ≤ w68 ∧ w68 ≤ 7) ∧ (WkB w69) ∧ (1 ≤ w70 ∧ w70 ≤ 30) ∧ (0 ≤ w73 ∧ w73 ≤ 250) ∧ ((0 = 0 ∨ 0 = 1) ∧ (0 = 0 ∨ WkM w69)) from ⟨h_w62, h_w63, h_w64, h_w65, h_w66, h_w67, h_w68, h_w69, h_w70, h_w73, (by grind)⟩)
      · rintro ⟨w78, w79, w80, w81, w82, w83, w84, w85, w86, w87, w88, w89, w90, w91, w92, w93⟩ hr7
        obtain ⟨h_w78, h_w79, h_w80, h_w81, h_w82, h_w83, h_w84, h_w85, h_w86, h_w87, h_w89⟩ : (0 ≤ w78 ∧ w78 ≤ 20) ∧ (LnM w79) ∧ (AI 0 99 w80) ∧ (AI 0 9 w81) ∧ (0 ≤ w82 ∧ w82 ≤ 8) ∧ (GdM w83) ∧ (0 ≤ w84 ∧ w84 ≤ 7) ∧ (WkM w85) ∧ (1 ≤ w86 ∧ w86 ≤ 30) ∧ (0 ≤ w87) ∧ (0 ≤ w89 ∧ w89 ≤ 250) := hr7
        dsimp only [u16]
        exact Sf.ok (show (0 ≤ w78 ∧ w78 ≤ 20) ∧ (LnM w79) ∧ (AI 0 99 w80) ∧ (AI 0 9 w81) ∧ (0 ≤ w82 ∧ w82 ≤ 8) ∧ (GdM w83) ∧ (0 ≤ w84 ∧ w84 ≤ 7) ∧ (WkB w85) ∧ (1 ≤ w86 ∧ w86 ≤ 30) ∧ (0 ≤ w89 ∧ w89 ≤ 250) ∧ ((1 = 0 ∨ 1 = 1) ∧ (1 = 0 ∨ WkM w85)) from ⟨h_w78, h_w79, h_w80, h_w81, h_w82, h_w83, h_w84, (h_w85.1), h_w86, h_w89, (by grind)⟩)
theorem sX7_takeFrom {n : Nat} {x0_shelf x0_rowSort x0_rowSize : (Nat → Int32)} {x0_rows : (Nat → Nat → Int64)} {x0_moved : (Nat → Int64)} {x0_shown x0_tape : (Nat → Int32)} {x0_tapeSize : Int32} {x0_refused : (Nat → Int32)} {x0_lines : Int32} {x0_line : (Nat → Nat → Int32)} {x0_changes x0_coins : (Nat → Int32)} {x0_goods : Int32} {x0_good : (Nat → Nat → Int32)} {x0_works : Int32} {x0_work : (Nat → Nat → Int32)} {x0_years x0_gone x0_spent x0_at x0_token x0_from : Int32} {x0_figures : Int64} {x0_fault : Int32} {x0_numbers : (Nat → Int32)} {x0_statements : Int32} {x0_left x0_far : (Nat → Int32)} {x0_tons : Int32} {x0_way : (Nat → Int32)} {x0_steps : Int32} {x0_met : Int64} {x0_queue x0_totals x1_shelf x1_rowSort x1_rowSize : (Nat → Int32)} {x1_rows : (Nat → Nat → Int64)} {x1_moved : (Nat → Int64)} {x1_shown x1_tape : (Nat → Int32)} {x1_tapeSize : Int32} {x1_refused : (Nat → Int32)} {x1_lines : Int32} {x1_line : (Nat → Nat → Int32)} {x1_changes x1_coins : (Nat → Int32)} {x1_goods : Int32} {x1_good : (Nat → Nat → Int32)} {x1_works : Int32} {x1_work : (Nat → Nat → Int32)} {x1_years x1_gone x1_spent x1_at x1_token x1_from : Int32} {x1_figures : Int64} {x1_fault : Int32} {x1_numbers : (Nat → Int32)} {x1_statements : Int32} {x1_left x1_far : (Nat → Int32)} {x1_tons : Int32} {x1_way : (Nat → Int32)} {x1_steps : Int32} {x1_met : Int64} {x1_queue x1_totals : (Nat → Int32)} (hn : 1000000000000 ≤ n) (h_x0_line : (LnM x0_line)) (h_x0_changes : (AI 0 99 x0_changes)) (h_x0_coins : (AI 0 9 x0_coins)) (h_x0_good : (GdM x0_good)) (h_x0_work : (WkB x0_work)) (h_x1_lines : (0 ≤ x1_lines ∧ x1_lines ≤ 20)) (h_x1_line : (LnM x1_line)) (h_x1_changes : (AI 0 99 x1_changes)) (h_x1_coins : (AI 0 9 x1_coins)) (h_x1_goods : (0 ≤ x1_goods ∧ x1_goods ≤ 8)) (h_x1_good : (GdM x1_good)) (h_x1_works : (0 ≤ x1_works ∧ x1_works ≤ 7)) (h_x1_work : (WkM x1_work)) (h_x1_years : (1 ≤ x1_years ∧ x1_years ≤ 30)) : Sf (fX7_takeFrom n (x0_shelf, x0_rowSort, x0_rowSize, x0_rows, x0_moved, x0_shown, x0_tape, x0_tapeSize, x0_refused, x0_lines, x0_line, x0_changes, x0_coins, x0_goods, x0_good, x0_works, x0_work, x0_years, x0_gone, x0_spent, x0_at, x0_token, x0_from, x0_figures, x0_fault, x0_numbers, x0_statements, x0_left, x0_far, x0_tons, x0_way, x0_steps, x0_met, x0_queue, x0_totals) (x1_shelf, x1_rowSort, x1_rowSize, x1_rows, x1_moved, x1_shown, x1_tape, x1_tapeSize, x1_refused, x1_lines, x1_line, x1_changes, x1_coins, x1_goods, x1_good, x1_works, x1_work, x1_years, x1_gone, x1_spent, x1_at, x1_token, x1_from, x1_figures, x1_fault, x1_numbers, x1_statements, x1_left, x1_far, x1_tons, x1_way, x1_steps, x1_met, x1_queue, x1_totals)) (fun r => (0 ≤ r.1 ∧ r.1 ≤ 20) ∧ (LnM r.2.1) ∧ (AI 0 99 r.2.2.1) ∧ (AI 0 9 r.2.2.2.1) ∧ (0 ≤ r.2.2.2.2.1 ∧ r.2.2.2.2.1 ≤ 8) ∧ (GdM r.2.2.2.2.2.1) ∧ (0 ≤ r.2.2.2.2.2.2.1 ∧ r.2.2.2.2.2.2.1 ≤ 7) ∧ (WkM r.2.2.2.2.2.2.2.1) ∧ (1 ≤ r.2.2.2.2.2.2.2.2.1 ∧ r.2.2.2.2.2.2.2.2.1 ≤ 30)) := by
  unfold fX7_takeFrom
  dsimp only [u35]
  refine Sf.bind (s_overAll hn (by decide) (by decide)) (fun g1 e1 => ?_)
  refine Sf.bind (s_over hn (by decide)) (fun g3 e3 => ?_)
  refine Sf.bind (s_over hn (by decide)) (fun g5 e5 => ?_)
  refine Sf.bind (s_overAll hn (by decide) (by decide)) (fun g7 e7 => ?_)
  refine Sf.bind (s_overAll hn (by decide) (by decide)) (fun g9 e9 => ?_)
  exact Sf.ok ⟨h_x1_lines, GI.over e1 h_x1_line h_x0_line, AI.over e3 h_x1_changes h_x0_changes, AI.over e5 h_x1_coins h_x0_coins, h_x1_goods, GI.over e7 h_x1_good h_x0_good, h_x1_works, WkM.over e9 h_x1_work h_x0_work, h_x1_years⟩
set_option maxHeartbeats 1000000 in
theorem sX7_fresh {n : Nat} {x0_shelf x0_rowSort x0_rowSize : (Nat → Int32)} {x0_rows : (Nat → Nat → Int64)} {x0_moved : (Nat → Int64)} {x0_shown x0_tape : (Nat → Int32)} {x0_tapeSize : Int32} {x0_refused : (Nat → Int32)} {x0_lines : Int32} {x0_line : (Nat → Nat → Int32)} {x0_changes x0_coins : (Nat → Int32)} {x0_goods : Int32} {x0_good : (Nat → Nat → Int32)} {x0_works : Int32} {x0_work : (Nat → Nat → Int32)} {x0_years x0_gone x0_spent x0_at x0_token x0_from : Int32} {x0_figures : Int64} {x0_fault : Int32} {x0_numbers : (Nat → Int32)} {x0_statements : Int32} {x0_left x0_far : (Nat → Int32)} {x0_tons : Int32} {x0_way : (Nat → Int32)} {x0_steps : Int32} {x0_met : Int64} {x0_queue x0_totals x1_shelf x1_rowSort x1_rowSize : (Nat → Int32)} {x1_rows : (Nat → Nat → Int64)} {x1_moved : (Nat → Int64)} {x1_shown x1_tape : (Nat → Int32)} {x1_tapeSize : Int32} {x1_refused : (Nat → Int32)} {x1_lines : Int32} {x1_line : (Nat → Nat → Int32)} {x1_changes x1_coins : (Nat → Int32)} {x1_goods : Int32} {x1_good : (Nat → Nat → Int32)} {x1_works : Int32} {x1_work : (Nat → Nat → Int32)} {x1_years x1_gone x1_spent x1_at x1_token x1_from : Int32} {x1_figures : Int64} {x1_fault : Int32} {x1_numbers : (Nat → Int32)} {x1_statements : Int32} {x1_left x1_far : (Nat → Int32)} {x1_tons : Int32} {x1_way : (Nat → Int32)} {x1_steps : Int32} {x1_met : Int64} {x1_queue x1_totals : (Nat → Int32)} (hn : 1000000000000 ≤ n) (h_x0_shelf : (AI 0 2 x0_shelf)) (h_x0_rowSize : (AI 0 40 x0_rowSize)) (h_x0_tapeSize : (0 ≤ x0_tapeSize ∧ x0_tapeSize ≤ 250)) (h_x0_lines : (0 ≤ x0_lines ∧ x0_lines ≤ 20)) (h_x0_line : (LnM x0_line)) (h_x0_changes : (AI 0 99 x0_changes)) (h_x0_coins : (AI 0 9 x0_coins)) (h_x0_goods : (0 ≤ x0_goods ∧ x0_goods ≤ 8)) (h_x0_good : (GdM x0_good)) (h_x0_works : (0 ≤ x0_works ∧ x0_works ≤ 7)) (h_x0_work : (WkM x0_work)) (h_x0_years : (1 ≤ x0_years ∧ x0_years ≤ 30)) (h_x0_from : (0 ≤ x0_from ∧ x0_from ≤ 250)) (h_x0_far : (AI 0 1000000000 x0_far)) (h_x0_way : (AI 0 22 x0_way)) (h_x0_steps : (0 ≤ x0_steps ∧ x0_steps ≤ 37)) (h_x0_queue : (AI 0 35 x0_queue)) (h_x1_shelf : (AI 0 2 x1_shelf)) (h_x1_rowSize : (AI 0 40 x1_rowSize)) (h_x1_tapeSize : (0 ≤ x1_tapeSize ∧ x1_tapeSize ≤ 250)) (h_x1_lines : (0 ≤ x1_lines ∧ x1_lines ≤ 20)) (h_x1_line : (LnM x1_line)) (h_x1_changes : (AI 0 99 x1_changes)) (h_x1_coins : (AI 0 9 x1_coins)) (h_x1_goods : (0 ≤ x1_goods ∧ x1_goods ≤ 8)) (h_x1_good : (GdM x1_good)) (h_x1_works : (0 ≤ x1_works ∧ x1_works ≤ 7)) (h_x1_work : (WkM x1_work)) (h_x1_years : (1 ≤ x1_years ∧ x1_years ≤ 30)) (h_x1_from : (0 ≤ x1_from ∧ x1_from ≤ 250)) (h_x1_far : (AI 0 1000000000 x1_far)) (h_x1_way : (AI 0 22 x1_way)) (h_x1_steps : (0 ≤ x1_steps ∧ x1_steps ≤ 37)) (h_x1_queue : (AI 0 35 x1_queue)) : Sf (fX7_fresh n (x0_shelf, x0_rowSort, x0_rowSize, x0_rows, x0_moved, x0_shown, x0_tape, x0_tapeSize, x0_refused, x0_lines, x0_line, x0_changes, x0_coins, x0_goods, x0_good, x0_works, x0_work, x0_years, x0_gone, x0_spent, x0_at, x0_token, x0_from, x0_figures, x0_fault, x0_numbers, x0_statements, x0_left, x0_far, x0_tons, x0_way, x0_steps, x0_met, x0_queue, x0_totals) (x1_shelf, x1_rowSort, x1_rowSize, x1_rows, x1_moved, x1_shown, x1_tape, x1_tapeSize, x1_refused, x1_lines, x1_line, x1_changes, x1_coins, x1_goods, x1_good, x1_works, x1_work, x1_years, x1_gone, x1_spent, x1_at, x1_token, x1_from, x1_figures, x1_fault, x1_numbers, x1_statements, x1_left, x1_far, x1_tons, x1_way, x1_steps, x1_met, x1_queue, x1_totals)) (fun r => (0 ≤ r.1 ∧ r.1 ≤ 20) ∧ (LnM r.2.1) ∧ (AI 0 99 r.2.2.1) ∧ (AI 0 9 r.2.2.2.1) ∧ (0 ≤ r.2.2.2.2.1 ∧ r.2.2.2.2.1 ≤ 8) ∧ (GdM r.2.2.2.2.2.1) ∧ (0 ≤ r.2.2.2.2.2.2.1 ∧ r.2.2.2.2.2.2.1 ≤ 7) ∧ (WkM r.2.2.2.2.2.2.2.1) ∧ (1 ≤ r.2.2.2.2.2.2.2.2.1 ∧ r.2.2.2.2.2.2.2.2.1 ≤ 30)) := by
  unfold fX7_fresh
  dsimp only [u35]
  unfold fX7_fresh_j18
  refine Sf.bind (sX7_takeFrom hn h_x1_line h_x1_changes h_x1_coins h_x1_good (h_x1_work.1) h_x0_lines h_x0_line h_x0_changes h_x0_coins h_x0_goods h_x0_good h_x0_works h_x0_work h_x0_years) ?_
  rintro ⟨g2, g3, g4, g5, g6, g7, g8, g9, g10, g11, g12⟩ hr1
  obtain ⟨h_g2, h_g3, h_g4, h_g5, h_g6, h_g7, h_g8, h_g9, h_g10⟩ : (0 ≤ g2 ∧ g2 ≤ 20) ∧ (LnM g3) ∧ (AI 0 99 g4) ∧ (AI 0 9 g5) ∧ (0 ≤ g6 ∧ g6 ≤ 8) ∧ (GdM g7) ∧ (0 ≤ g8 ∧ g8 ≤ 7) ∧ (WkM g9) ∧ (1 ≤ g10 ∧ g10 ≤ 30) := hr1
  dsimp only [u11]
  exact Sf.ok (show (0 ≤ g2 ∧ g2 ≤ 20) ∧ (LnM g3) ∧ (AI 0 99 g4) ∧ (AI 0 9 g5) ∧ (0 ≤ g6 ∧ g6 ≤ 8) ∧ (GdM g7) ∧ (0 ≤ g8 ∧ g8 ≤ 7) ∧ (WkM g9) ∧ (1 ≤ g10 ∧ g10 ≤ 30) from ⟨h_g2, h_g3, h_g4, h_g5, h_g6, h_g7, h_g8, h_g9, h_g10⟩)
set_option maxHeartbeats 1000000 in
theorem sX7_land {n : Nat} {x0_shelf x0_rowSort x0_rowSize : (Nat → Int32)} {x0_rows : (Nat → Nat → Int64)} {x0_moved : (Nat → Int64)} {x0_shown x0_tape : (Nat → Int32)} {x0_tapeSize : Int32} {x0_refused : (Nat → Int32)} {x0_lines : Int32} {x0_line : (Nat → Nat → Int32)} {x0_changes x0_coins : (Nat → Int32)} {x0_goods : Int32} {x0_good : (Nat → Nat → Int32)} {x0_works : Int32} {x0_work : (Nat → Nat → Int32)} {x0_years x0_gone x0_spent x0_at x0_token x0_from : Int32} {x0_figures : Int64} {x0_fault : Int32} {x0_numbers : (Nat → Int32)} {x0_statements : Int32} {x0_left x0_far : (Nat → Int32)} {x0_tons : Int32} {x0_way : (Nat → Int32)} {x0_steps : Int32} {x0_met : Int64} {x0_queue x0_totals x1_shelf x1_rowSort x1_rowSize : (Nat → Int32)} {x1_rows : (Nat → Nat → Int64)} {x1_moved : (Nat → Int64)} {x1_shown x1_tape : (Nat → Int32)} {x1_tapeSize : Int32} {x1_refused : (Nat → Int32)} {x1_lines : Int32} {x1_line : (Nat → Nat → Int32)} {x1_changes x1_coins : (Nat → Int32)} {x1_goods : Int32} {x1_good : (Nat → Nat → Int32)} {x1_works : Int32} {x1_work : (Nat → Nat → Int32)} {x1_years x1_gone x1_spent x1_at x1_token x1_from : Int32} {x1_figures : Int64} {x1_fault : Int32} {x1_numbers : (Nat → Int32)} {x1_statements : Int32} {x1_left x1_far : (Nat → Int32)} {x1_tons : Int32} {x1_way : (Nat → Int32)} {x1_steps : Int32} {x1_met : Int64} {x1_queue x1_totals : (Nat → Int32)} (hn : 1000000000000 ≤ n) (h_x0_shelf : (AI 0 2 x0_shelf)) (h_x0_rowSize : (AI 0 40 x0_rowSize)) (h_x0_tapeSize : (0 ≤ x0_tapeSize ∧ x0_tapeSize ≤ 250)) (h_x0_lines : (0 ≤ x0_lines ∧ x0_lines ≤ 20)) (h_x0_line : (LnM x0_line)) (h_x0_changes : (AI 0 99 x0_changes)) (h_x0_coins : (AI 0 9 x0_coins)) (h_x0_goods : (0 ≤ x0_goods ∧ x0_goods ≤ 8)) (h_x0_good : (GdM x0_good)) (h_x0_works : (0 ≤ x0_works ∧ x0_works ≤ 7)) (h_x0_work : (WkM x0_work)) (h_x0_years : (1 ≤ x0_years ∧ x0_years ≤ 30)) (h_x0_from : (0 ≤ x0_from ∧ x0_from ≤ 250)) (h_x0_far : (AI 0 1000000000 x0_far)) (h_x0_way : (AI 0 22 x0_way)) (h_x0_steps : (0 ≤ x0_steps ∧ x0_steps ≤ 37)) (h_x0_queue : (AI 0 35 x0_queue)) (h_x1_shelf : (AI 0 2 x1_shelf)) (h_x1_rowSize : (AI 0 40 x1_rowSize)) (h_x1_tapeSize : (0 ≤ x1_tapeSize ∧ x1_tapeSize ≤ 250)) (h_x1_lines : (0 ≤ x1_lines ∧ x1_lines ≤ 20)) (h_x1_line : (LnM x1_line)) (h_x1_changes : (AI 0 99 x1_changes)) (h_x1_coins : (AI 0 9 x1_coins)) (h_x1_goods : (0 ≤ x1_goods ∧ x1_goods ≤ 8)) (h_x1_good : (GdM x1_good)) (h_x1_works : (0 ≤ x1_works ∧ x1_works ≤ 7)) (h_x1_work : (WkM x1_work)) (h_x1_years : (1 ≤ x1_years ∧ x1_years ≤ 30)) (h_x1_from : (0 ≤ x1_from ∧ x1_from ≤ 250)) (h_x1_far : (AI 0 1000000000 x1_far)) (h_x1_way : (AI 0 22 x1_way)) (h_x1_steps : (0 ≤ x1_steps ∧ x1_steps ≤ 37)) (h_x1_queue : (AI 0 35 x1_queue)) : Sf (fX7_land n (x0_shelf, x0_rowSort, x0_rowSize, x0_rows, x0_moved, x0_shown, x0_tape, x0_tapeSize, x0_refused, x0_lines, x0_line, x0_changes, x0_coins, x0_goods, x0_good, x0_works, x0_work, x0_years, x0_gone, x0_spent, x0_at, x0_token, x0_from, x0_figures, x0_fault, x0_numbers, x0_statements, x0_left, x0_far, x0_tons, x0_way, x0_steps, x0_met, x0_queue, x0_totals) (x1_shelf, x1_rowSort, x1_rowSize, x1_rows, x1_moved, x1_shown, x1_tape, x1_tapeSize, x1_refused, x1_lines, x1_line, x1_changes, x1_coins, x1_goods, x1_good, x1_works, x1_work, x1_years, x1_gone, x1_spent, x1_at, x1_token, x1_from, x1_figures, x1_fault, x1_numbers, x1_statements, x1_left, x1_far, x1_tons, x1_way, x1_steps, x1_met, x1_queue, x1_totals)) (fun r => (0 ≤ r.2.1.1 ∧ r.2.1.1 ≤ 250) ∧ (0 ≤ r.2.1.2.2.1 ∧ r.2.1.2.2.1 ≤ 20) ∧ (LnM r.2.1.2.2.2.1) ∧ (AI 0 99 r.2.1.2.2.2.2.1) ∧ (AI 0 9 r.2.1.2.2.2.2.2.1) ∧ (0 ≤ r.2.1.2.2.2.2.2.2.1 ∧ r.2.1.2.2.2.2.2.2.1 ≤ 8) ∧ (GdM r.2.1.2.2.2.2.2.2.2.1) ∧ (0 ≤ r.2.1.2.2.2.2.2.2.2.2.1 ∧ r.2.1.2.2.2.2.2.2.2.2.1 ≤ 7) ∧ (WkM r.2.1.2.2.2.2.2.2.2.2.2.1) ∧ (1 ≤ r.2.1.2.2.2.2.2.2.2.2.2.2.1 ∧ r.2.1.2.2.2.2.2.2.2.2.2.2.1 ≤ 30) ∧ (0 ≤ r.2.1.2.2.2.2.2.2.2.2.2.2.2.2.2.2.2.1 ∧ r.2.1.2.2.2.2.2.2.2.2.2.2.2.2.2.2.2.1 ≤ 250) ∧ (0 ≤ r.2.2.1 ∧ r.2.2.1 ≤ 20) ∧ (LnM r.2.2.2.1) ∧ (AI 0 99 r.2.2.2.2.1) ∧ (AI 0 9 r.2.2.2.2.2.1) ∧ (0 ≤ r.2.2.2.2.2.2.1 ∧ r.2.2.2.2.2.2.1 ≤ 8) ∧ (GdM r.2.2.2.2.2.2.2.1) ∧ (0 ≤ r.2.2.2.2.2.2.2.2.1 ∧ r.2.2.2.2.2.2.2.2.1 ≤ 7) ∧ (WkM r.2.2.2.2.2.2.2.2.2.1) ∧ (1 ≤ r.2.2.2.2.2.2.2.2.2.2.1 ∧ r.2.2.2.2.2.2.2.2.2.2.1 ≤ 30)) := by
  unfold fX7_land
  dsimp only [u35]
  refine Sf.bind (sX7_fresh hn h_x0_shelf h_x0_rowSize h_x0_tapeSize h_x0_lines h_x0_line h_x0_changes h_x0_coins h_x0_goods h_x0_good h_x0_works h_x0_work h_x0_years h_x0_from h_x0_far h_x0_way h_x0_steps h_x0_queue h_x1_shelf h_x1_rowSize h_x1_tapeSize h_x1_lines h_x1_line h_x1_changes h_x1_coins h_x1_goods h_x1_good h_x1_works h_x1_work h_x1_years h_x1_from h_x1_far h_x1_way h_x1_steps h_x1_queue) ?_
  rintro ⟨g2, g3, g4, g5, g6, g7, g8, g9, g10, g11, g12⟩ hr1
  obtain ⟨h_g2, h_g3, h_g4, h_g5, h_g6, h_g7, h_g8, h_g9, h_g10⟩ : (0 ≤ g2 ∧ g2 ≤ 20) ∧ (LnM g3) ∧ (AI 0 99 g4) ∧ (AI 0 9 g5) ∧ (0 ≤ g6 ∧ g6 ≤ 8) ∧ (GdM g7) ∧ (0 ≤ g8 ∧ g8 ≤ 7) ∧ (WkM g9) ∧ (1 ≤ g10 ∧ g10 ≤ 30) := hr1
  dsimp only [u11]
  refine Sf.bind (sX7_read hn h_x0_shelf h_x0_rowSize h_x0_tapeSize h_x0_lines h_x0_line h_x0_changes h_x0_coins h_x0_goods h_x0_good h_x0_works h_x0_work h_x0_years h_x0_from h_x0_far h_x0_way h_x0_steps h_x0_queue) ?_
  rintro ⟨v14, ⟨g16, g17, g18, g19, g20, g21, g22, g23, g24, g25, g26, g27, g28, g29, g30, g31⟩⟩ hr2
  obtain ⟨h_g16, h_g17, h_g18, h_g19, h_g20, h_g21, h_g22, h_g23, h_g24, h_g27, hx_v14⟩ : (0 ≤ g16 ∧ g16 ≤ 20) ∧ (LnM g17) ∧ (AI 0 99 g18) ∧ (AI 0 9 g19) ∧ (0 ≤ g20 ∧ g20 ≤ 8) ∧ (GdM g21) ∧ (0 ≤ g22 ∧ g22 ≤ 7) ∧ (WkB g23) ∧ (1 ≤ g24 ∧ g24 ≤ 30) ∧ (0 ≤ g27 ∧ g27 ≤ 250) ∧ ((v14 = 0 ∨ v14 = 1) ∧ (v14 = 0 ∨ WkM g23)) := hr2
  dsimp only [u16, u2]
  refine Sf.ite (fun hc3 => ?_) (fun hc3 => ?_)
  · refine Sf.bind (sX7_takeFrom hn h_g17 h_g18 h_g19 h_g21 h_g23 h_g2 h_g3 h_g4 h_g5 h_g6 h_g7 h_g8 h_g9 h_g10) ?_
    rintro ⟨g34, g35, g36, g37, g38, g39, g40, g41, g42, g43, g44⟩ hr4
    obtain ⟨h_g34, h_g35, h_g36, h_g37, h_g38, h_g39, h_g40, h_g41, h_g42⟩ : (0 ≤ g34 ∧ g34 ≤ 20) ∧ (LnM g35) ∧ (AI 0 99 g36) ∧ (AI 0 9 g37) ∧ (0 ≤ g38 ∧ g38 ≤ 8) ∧ (GdM g39) ∧ (0 ≤ g40 ∧ g40 ≤ 7) ∧ (WkM g41) ∧ (1 ≤ g42 ∧ g42 ≤ 30) := hr4
    dsimp only [u11]
    refine Sf.bind (sX7_refuse h_x0_shelf h_x0_rowSize (by decide) h_g34 h_g35 h_g36 h_g37 h_g38 h_g39 h_g40 h_g41 h_g42 h_g27 h_x0_far h_x0_way h_x0_steps h_x0_queue (by decide)) ?_
    rintro ⟨v46, g47⟩ hr5
    have hx_v46 : (v46 = (-2)) := hr5
    dsimp only [u2]
    exact Sf.ok (show (0 ≤ 0 ∧ 0 ≤ 250) ∧ (0 ≤ g34 ∧ g34 ≤ 20) ∧ (LnM g35) ∧ (AI 0 99 g36) ∧ (AI 0 9 g37) ∧ (0 ≤ g38 ∧ g38 ≤ 8) ∧ (GdM g39) ∧ (0 ≤ g40 ∧ g40 ≤ 7) ∧ (WkM g41) ∧ (1 ≤ g42 ∧ g42 ≤ 30) ∧ (0 ≤ g27 ∧ g27 ≤ 250) ∧ (0 ≤ g2 ∧ g2 ≤ 20) ∧ (LnM g3) ∧ (AI 0 99 g4) ∧ (AI 0 9 g5) ∧ (0 ≤ g6 ∧ g6 ≤ 8) ∧ (GdM g7) ∧ (0 ≤ g8 ∧ g8 ≤ 7) ∧ (WkM g9) ∧ (1 ≤ g10 ∧ g10 ≤ 30) from ⟨(by decide), h_g34, h_g35, h_g36, h_g37, h_g38, h_g39, h_g40, h_g41, h_g42, h_g27, h_g2, h_g3, h_g4, h_g5, h_g6, h_g7, h_g8, h_g9, h_g10⟩)
  · exact Sf.ok (show (0 ≤ 0 ∧ 0 ≤ 250) ∧ (0 ≤ g16 ∧ g16 ≤ 20) ∧ (LnM g17) ∧ (AI 0 99 g18) ∧ (AI 0 9 g19) ∧ (0 ≤ g20 ∧ g20 ≤ 8) ∧ (GdM g21) ∧ (0 ≤ g22 ∧ g22 ≤ 7) ∧ (WkM g23) ∧ (1 ≤ g24 ∧ g24 ≤ 30) ∧ (0 ≤ g27 ∧ g27 ≤ 250) ∧ (0 ≤ g2 ∧ g2 ≤ 20) ∧ (LnM g3) ∧ (AI 0 99 g4) ∧ (AI 0 9 g5) ∧ (0 ≤ g6 ∧ g6 ≤ 8) ∧ (GdM g7) ∧ (0 ≤ g8 ∧ g8 ≤ 7) ∧ (WkM g9) ∧ (1 ≤ g10 ∧ g10 ≤ 30) from ⟨(by decide), h_g16, h_g17, h_g18, h_g19, h_g20, h_g21, h_g22, (by grind), h_g24, h_g27, h_g2, h_g3, h_g4, h_g5, h_g6, h_g7, h_g8, h_g9, h_g10⟩)
set_option maxHeartbeats 1000000 in
theorem sX7_lineOf {x0_shelf x0_rowSort x0_rowSize : (Nat → Int32)} {x0_rows : (Nat → Nat → Int64)} {x0_moved : (Nat → Int64)} {x0_shown x0_tape : (Nat → Int32)} {x0_tapeSize : Int32} {x0_refused : (Nat → Int32)} {x0_lines : Int32} {x0_line : (Nat → Nat → Int32)} {x0_changes x0_coins : (Nat → Int32)} {x0_goods : Int32} {x0_good : (Nat → Nat → Int32)} {x0_works : Int32} {x0_work : (Nat → Nat → Int32)} {x0_years x0_gone x0_spent x0_at x0_token x0_from : Int32} {x0_figures : Int64} {x0_fault : Int32} {x0_numbers : (Nat → Int32)} {x0_statements : Int32} {x0_left x0_far : (Nat → Int32)} {x0_tons : Int32} {x0_way : (Nat → Int32)} {x0_steps : Int32} {x0_met : Int64} {x0_queue x0_totals : (Nat → Int32)} {p1 p2 : Int32}  (h_x0_shelf : (AI 0 2 x0_shelf)) (h_x0_rowSize : (AI 0 40 x0_rowSize)) (h_x0_tapeSize : (0 ≤ x0_tapeSize ∧ x0_tapeSize ≤ 250)) (h_x0_lines : (0 ≤ x0_lines ∧ x0_lines ≤ 20)) (h_x0_line : (LnM x0_line)) (h_x0_changes : (AI 0 99 x0_changes)) (h_x0_coins : (AI 0 9 x0_coins)) (h_x0_goods : (0 ≤ x0_goods ∧ x0_goods ≤ 8)) (h_x0_good : (GdM x0_good)) (h_x0_works : (0 ≤ x0_works ∧ x0_works ≤ 7)) (h_x0_work : (WkM x0_work)) (h_x0_years : (1 ≤ x0_years ∧ x0_years ≤ 30)) (h_x0_from : (0 ≤ x0_from ∧ x0_from ≤ 250)) (h_x0_far : (AI 0 1000000000 x0_far)) (h_x0_way : (AI 0 22 x0_way)) (h_x0_steps : (0 ≤ x0_steps ∧ x0_steps ≤ 37)) (h_x0_queue : (AI 0 35 x0_queue)) : Sf (fX7_lineOf (x0_shelf, x0_rowSort, x0_rowSize, x0_rows, x0_moved, x0_shown, x0_tape, x0_tapeSize, x0_refused, x0_lines, x0_line, x0_changes, x0_coins, x0_goods, x0_good, x0_works, x0_work, x0_years, x0_gone, x0_spent, x0_at, x0_token, x0_from, x0_figures, x0_fault, x0_numbers, x0_statements, x0_left, x0_far, x0_tons, x0_way, x0_steps, x0_met, x0_queue, x0_totals) p1 p2) (fun r => True) := by
  unfold fX7_lineOf
  dsimp only [u35]
  refine Sf.bind (sX7_isLine h_x0_shelf h_x0_rowSize h_x0_tapeSize h_x0_lines h_x0_line h_x0_changes h_x0_coins h_x0_goods h_x0_good h_x0_works h_x0_work h_x0_years h_x0_from h_x0_far h_x0_way h_x0_steps h_x0_queue) ?_
  intro v1 hr1
  have hx_v1 : ((v1 = 1 ∧ 0 ≤ p1 ∧ p1 < x0_lines) ∨ (v1 = 0 ∧ ¬ (0 ≤ p1 ∧ p1 < x0_lines))) := hr1
  refine Sf.ite (fun hc2 => ?_) (fun hc2 => ?_)
  · refine Sf.bind (sX7_refuse h_x0_shelf h_x0_rowSize h_x0_tapeSize h_x0_lines h_x0_line h_x0_changes h_x0_coins h_x0_goods h_x0_good h_x0_works h_x0_work h_x0_years h_x0_from h_x0_far h_x0_way h_x0_steps h_x0_queue (by decide)) ?_
    rintro ⟨v3, g4⟩ hr3
    have hx_v3 : (v3 = (-2)) := hr3
    dsimp only [u2]
    exact Sf.ok trivial
  · refine Sf.bind (s_inq p2 0 6 (by decide) (by decide)) ?_
    intro v6 hr_v6
    refine Sf.ite (fun hc4 => ?_) (fun hc4 => ?_)
    · refine Sf.bind (sX7_refuse h_x0_shelf h_x0_rowSize h_x0_tapeSize h_x0_lines h_x0_line h_x0_changes h_x0_coins h_x0_goods h_x0_good h_x0_works h_x0_work h_x0_years h_x0_from h_x0_far h_x0_way h_x0_steps h_x0_queue (by decide)) ?_
      rintro ⟨v8, g9⟩ hr5
      have hx_v8 : (v8 = (-2)) := hr5
      dsimp only [u2]
      exact Sf.ok trivial
    · refine Sf.ckb 20 rfl (by grind) (fun q11 e_q11 h_q11 => ?_)
      refine Sf.rdb 7 rfl (by grind) (fun v12 e_v12 => ?_)
      clear e_v12
      exact Sf.ok trivial
set_option maxHeartbeats 1000000 in
theorem sX7_goodsOf {x0_shelf x0_rowSort x0_rowSize : (Nat → Int32)} {x0_rows : (Nat → Nat → Int64)} {x0_moved : (Nat → Int64)} {x0_shown x0_tape : (Nat → Int32)} {x0_tapeSize : Int32} {x0_refused : (Nat → Int32)} {x0_lines : Int32} {x0_line : (Nat → Nat → Int32)} {x0_changes x0_coins : (Nat → Int32)} {x0_goods : Int32} {x0_good : (Nat → Nat → Int32)} {x0_works : Int32} {x0_work : (Nat → Nat → Int32)} {x0_years x0_gone x0_spent x0_at x0_token x0_from : Int32} {x0_figures : Int64} {x0_fault : Int32} {x0_numbers : (Nat → Int32)} {x0_statements : Int32} {x0_left x0_far : (Nat → Int32)} {x0_tons : Int32} {x0_way : (Nat → Int32)} {x0_steps : Int32} {x0_met : Int64} {x0_queue x0_totals : (Nat → Int32)} {p1 p2 : Int32}  (h_x0_shelf : (AI 0 2 x0_shelf)) (h_x0_rowSize : (AI 0 40 x0_rowSize)) (h_x0_tapeSize : (0 ≤ x0_tapeSize ∧ x0_tapeSize ≤ 250)) (h_x0_lines : (0 ≤ x0_lines ∧ x0_lines ≤ 20)) (h_x0_line : (LnM x0_line)) (h_x0_changes : (AI 0 99 x0_changes)) (h_x0_coins : (AI 0 9 x0_coins)) (h_x0_goods : (0 ≤ x0_goods ∧ x0_goods ≤ 8)) (h_x0_good : (GdM x0_good)) (h_x0_works : (0 ≤ x0_works ∧ x0_works ≤ 7)) (h_x0_work : (WkM x0_work)) (h_x0_years : (1 ≤ x0_years ∧ x0_years ≤ 30)) (h_x0_from : (0 ≤ x0_from ∧ x0_from ≤ 250)) (h_x0_far : (AI 0 1000000000 x0_far)) (h_x0_way : (AI 0 22 x0_way)) (h_x0_steps : (0 ≤ x0_steps ∧ x0_steps ≤ 37)) (h_x0_queue : (AI 0 35 x0_queue)) : Sf (fX7_goodsOf (x0_shelf, x0_rowSort, x0_rowSize, x0_rows, x0_moved, x0_shown, x0_tape, x0_tapeSize, x0_refused, x0_lines, x0_line, x0_changes, x0_coins, x0_goods, x0_good, x0_works, x0_work, x0_years, x0_gone, x0_spent, x0_at, x0_token, x0_from, x0_figures, x0_fault, x0_numbers, x0_statements, x0_left, x0_far, x0_tons, x0_way, x0_steps, x0_met, x0_queue, x0_totals) p1 p2) (fun r => True) := by
  unfold fX7_goodsOf
  dsimp only [u35]
  refine Sf.bind (s_inq p1 0 (x0_goods - 1) (by decide) rfl) ?_
  intro v1 hr_v1
  refine Sf.ite (fun hc1 => ?_) (fun hc1 => ?_)
  · refine Sf.bind (sX7_refuse h_x0_shelf h_x0_rowSize h_x0_tapeSize h_x0_lines h_x0_line h_x0_changes h_x0_coins h_x0_goods h_x0_good h_x0_works h_x0_work h_x0_years h_x0_from h_x0_far h_x0_way h_x0_steps h_x0_queue (by decide)) ?_
    rintro ⟨v3, g4⟩ hr2
    have hx_v3 : (v3 = (-2)) := hr2
    dsimp only [u2]
    exact Sf.ok trivial
  · refine Sf.bind (s_inq p2 0 2 (by decide) (by decide)) ?_
    intro v6 hr_v6
    refine Sf.ite (fun hc3 => ?_) (fun hc3 => ?_)
    · refine Sf.bind (sX7_refuse h_x0_shelf h_x0_rowSize h_x0_tapeSize h_x0_lines h_x0_line h_x0_changes h_x0_coins h_x0_goods h_x0_good h_x0_works h_x0_work h_x0_years h_x0_from h_x0_far h_x0_way h_x0_steps h_x0_queue (by decide)) ?_
      rintro ⟨v8, g9⟩ hr4
      have hx_v8 : (v8 = (-2)) := hr4
      dsimp only [u2]
      exact Sf.ok trivial
    · refine Sf.ckb 8 rfl (by grind) (fun q11 e_q11 h_q11 => ?_)
      refine Sf.rdb 3 rfl (by grind) (fun v12 e_v12 => ?_)
      clear e_v12
      exact Sf.ok trivial
set_option maxHeartbeats 1000000 in
theorem sX7_workOf {x0_shelf x0_rowSort x0_rowSize : (Nat → Int32)} {x0_rows : (Nat → Nat → Int64)} {x0_moved : (Nat → Int64)} {x0_shown x0_tape : (Nat → Int32)} {x0_tapeSize : Int32} {x0_refused : (Nat → Int32)} {x0_lines : Int32} {x0_line : (Nat → Nat → Int32)} {x0_changes x0_coins : (Nat → Int32)} {x0_goods : Int32} {x0_good : (Nat → Nat → Int32)} {x0_works : Int32} {x0_work : (Nat → Nat → Int32)} {x0_years x0_gone x0_spent x0_at x0_token x0_from : Int32} {x0_figures : Int64} {x0_fault : Int32} {x0_numbers : (Nat → Int32)} {x0_statements : Int32} {x0_left x0_far : (Nat → Int32)} {x0_tons : Int32} {x0_way : (Nat → Int32)} {x0_steps : Int32} {x0_met : Int64} {x0_queue x0_totals : (Nat → Int32)} {p1 p2 : Int32}  (h_x0_shelf : (AI 0 2 x0_shelf)) (h_x0_rowSize : (AI 0 40 x0_rowSize)) (h_x0_tapeSize : (0 ≤ x0_tapeSize ∧ x0_tapeSize ≤ 250)) (h_x0_lines : (0 ≤ x0_lines ∧ x0_lines ≤ 20)) (h_x0_line : (LnM x0_line)) (h_x0_changes : (AI 0 99 x0_changes)) (h_x0_coins : (AI 0 9 x0_coins)) (h_x0_goods : (0 ≤ x0_goods ∧ x0_goods ≤ 8)) (h_x0_good : (GdM x0_good)) (h_x0_works : (0 ≤ x0_works ∧ x0_works ≤ 7)) (h_x0_work : (WkM x0_work)) (h_x0_years : (1 ≤ x0_years ∧ x0_years ≤ 30)) (h_x0_from : (0 ≤ x0_from ∧ x0_from ≤ 250)) (h_x0_far : (AI 0 1000000000 x0_far)) (h_x0_way : (AI 0 22 x0_way)) (h_x0_steps : (0 ≤ x0_steps ∧ x0_steps ≤ 37)) (h_x0_queue : (AI 0 35 x0_queue)) : Sf (fX7_workOf (x0_shelf, x0_rowSort, x0_rowSize, x0_rows, x0_moved, x0_shown, x0_tape, x0_tapeSize, x0_refused, x0_lines, x0_line, x0_changes, x0_coins, x0_goods, x0_good, x0_works, x0_work, x0_years, x0_gone, x0_spent, x0_at, x0_token, x0_from, x0_figures, x0_fault, x0_numbers, x0_statements, x0_left, x0_far, x0_tons, x0_way, x0_steps, x0_met, x0_queue, x0_totals) p1 p2) (fun r => True) := by
  unfold fX7_workOf
  dsimp only [u35]
  refine Sf.bind (sX7_isWork h_x0_shelf h_x0_rowSize h_x0_tapeSize h_x0_lines h_x0_line h_x0_changes h_x0_coins h_x0_goods h_x0_good h_x0_works h_x0_work h_x0_years h_x0_from h_x0_far h_x0_way h_x0_steps h_x0_queue) ?_
  intro v1 hr1
  have hx_v1 : ((v1 = 1 ∧ 0 ≤ p1 ∧ p1 < x0_works) ∨ (v1 = 0 ∧ ¬ (0 ≤ p1 ∧ p1 < x0_works))) := hr1
  refine Sf.ite (fun hc2 => ?_) (fun hc2 => ?_)
  · refine Sf.bind (sX7_refuse h_x0_shelf h_x0_rowSize h_x0_tapeSize h_x0_lines h_x0_line h_x0_changes h_x0_coins h_x0_goods h_x0_good h_x0_works h_x0_work h_x0_years h_x0_from h_x0_far h_x0_way h_x0_steps h_x0_queue (by decide)) ?_
    rintro ⟨v3, g4⟩ hr3
    have hx_v3 : (v3 = (-2)) := hr3
    dsimp only [u2]
    exact Sf.ok trivial
  · refine Sf.bind (s_inq p2 0 4 (by decide) (by decide)) ?_
    intro v6 hr_v6
    refine Sf.ite (fun hc4 => ?_) (fun hc4 => ?_)
    · refine Sf.bind (sX7_refuse h_x0_shelf h_x0_rowSize h_x0_tapeSize h_x0_lines h_x0_line h_x0_changes h_x0_coins h_x0_goods h_x0_good h_x0_works h_x0_work h_x0_years h_x0_from h_x0_far h_x0_way h_x0_steps h_x0_queue (by decide)) ?_
      rintro ⟨v8, g9⟩ hr5
      have hx_v8 : (v8 = (-2)) := hr5
      dsimp only [u2]
      exact Sf.ok trivial
    · refine Sf.ckb 7 rfl (by grind) (fun q11 e_q11 h_q11 => ?_)
      refine Sf.rdb 5 rfl (by grind) (fun v12 e_v12 => ?_)
      clear e_v12
      exact Sf.ok trivial
set_option maxHeartbeats 1000000 in
theorem sX7_bears {x0_shelf x0_rowSort x0_rowSize : (Nat → Int32)} {x0_rows : (Nat → Nat → Int64)} {x0_moved : (Nat → Int64)} {x0_shown x0_tape : (Nat → Int32)} {x0_tapeSize : Int32} {x0_refused : (Nat → Int32)} {x0_lines : Int32} {x0_line : (Nat → Nat → Int32)} {x0_changes x0_coins : (Nat → Int32)} {x0_goods : Int32} {x0_good : (Nat → Nat → Int32)} {x0_works : Int32} {x0_work : (Nat → Nat → Int32)} {x0_years x0_gone x0_spent x0_at x0_token x0_from : Int32} {x0_figures : Int64} {x0_fault : Int32} {x0_numbers : (Nat → Int32)} {x0_statements : Int32} {x0_left x0_far : (Nat → Int32)} {x0_tons : Int32} {x0_way : (Nat → Int32)} {x0_steps : Int32} {x0_met : Int64} {x0_queue x0_totals : (Nat → Int32)} {p1 p2 : Int32}  (h_x0_shelf : (AI 0 2 x0_shelf)) (h_x0_rowSize : (AI 0 40 x0_rowSize)) (h_x0_tapeSize : (0 ≤ x0_tapeSize ∧ x0_tapeSize ≤ 250)) (h_x0_lines : (0 ≤ x0_lines ∧ x0_lines ≤ 20)) (h_x0_line : (LnM x0_line)) (h_x0_changes : (AI 0 99 x0_changes)) (h_x0_coins : (AI 0 9 x0_coins)) (h_x0_goods : (0 ≤ x0_goods ∧ x0_goods ≤ 8)) (h_x0_good : (GdM x0_good)) (h_x0_works : (0 ≤ x0_works ∧ x0_works ≤ 7)) (h_x0_work : (WkM x0_work)) (h_x0_years : (1 ≤ x0_years ∧ x0_years ≤ 30)) (h_x0_from : (0 ≤ x0_from ∧ x0_from ≤ 250)) (h_x0_far : (AI 0 1000000000 x0_far)) (h_x0_way : (AI 0 22 x0_way)) (h_x0_steps : (0 ≤ x0_steps ∧ x0_steps ≤ 37)) (h_x0_queue : (AI 0 35 x0_queue)) (h_p1 : (0 ≤ p1 ∧ p1 ≤ 19)) : Sf (fX7_bears (x0_shelf, x0_rowSort, x0_rowSize, x0_rows, x0_moved, x0_shown, x0_tape, x0_tapeSize, x0_refused, x0_lines, x0_line, x0_changes, x0_coins, x0_goods, x0_good, x0_works, x0_work, x0_years, x0_gone, x0_spent, x0_at, x0_token, x0_from, x0_figures, x0_fault, x0_numbers, x0_statements, x0_left, x0_far, x0_tons, x0_way, x0_steps, x0_met, x0_queue, x0_totals) p1 p2) (fun r => (0 ≤ r ∧ r ≤ 1)) := by
  unfold fX7_bears
  dsimp only [u35]
  refine Sf.ckb 20 rfl (by grind) (fun q1 e_q1 h_q1 => ?_)
  refine Sf.rdl 6 rfl rfl (fun v2 e_v2 => ?_)
  have h_v2 : 0 ≤ v2 ∧ v2 ≤ 1 := by rw [e_v2]; exact (h_x0_line q1) 6
  clear e_v2
  refine Sf.ite (fun hc1 => ?_) (fun hc1 => ?_)
  · refine Sf.ckb 20 rfl (by grind) (fun q3 e_q3 h_q3 => ?_)
    refine Sf.rdl 2 rfl rfl (fun v4 e_v4 => ?_)
    have h_v4 : 0 ≤ v4 ∧ v4 ≤ 7 := by rw [e_v4]; exact (h_x0_line q3) 2
    clear e_v4
    refine Sf.ite (fun hc2 => ?_) (fun hc2 => ?_)
    · exact Sf.ok (show (0 ≤ 0 ∧ 0 ≤ 1) from (by decide))
    · refine Sf.rdb 20 rfl (by grind) (fun v5 e_v5 => ?_)
      clear e_v5
      refine Sf.ite (fun hc3 => ?_) (fun hc3 => ?_)
      · exact Sf.ok (show (0 ≤ 0 ∧ 0 ≤ 1) from (by decide))
      · exact Sf.ok (show (0 ≤ 1 ∧ 1 ≤ 1) from (by decide))
  · exact Sf.ok (show (0 ≤ 0 ∧ 0 ≤ 1) from (by decide))
theorem TX7_refill_s2 {x0_lines : Int32} {x0_line : (Nat → Nat → Int32)} {z2 : Int32} {z3 : (Nat → Int32)}  (h_x0_lines : (0 ≤ x0_lines ∧ x0_lines ≤ 20)) (h_x0_line : (LnM x0_line)) (h_z2 : (0 ≤ z2)) : Sf (fX7_refill_s2 x0_lines x0_line z2 z3) (LQ (u2 (fun z2 z3 => (0 ≤ z2))) (u2 (fun z2 z3 => muUp z2)) (muUp z2) (fun e => True)) := by
  unfold fX7_refill_s2
  refine Sf.ite (fun hc1 => ?_) (fun hc1 => ?_)
  · exact Sf.inr trivial
  · refine Sf.ckb 20 rfl (by grind) (fun q6 e_q6 h_q6 => ?_)
    refine Sf.rdl 4 rfl rfl (fun v7 e_v7 => ?_)
    have h_v7 : 0 ≤ v7 ∧ v7 ≤ 999 := by rw [e_v7]; exact (h_x0_line q6) 4
    clear e_v7
    refine Sf.wrb 20 rfl (by grind) (fun f8 e_f8 => ?_)
    clear e_f8
    exact Sf.inl (show (0 ≤ (z2 + 1)) from (by grind)) (muUp_lt hc1)
theorem LX7_refill_s2 {n : Nat} {x0_lines : Int32} {x0_line : (Nat → Nat → Int32)} {z2 : Int32} {z3 : (Nat → Int32)} (hn : 1000000000000 ≤ n) (h_x0_lines : (0 ≤ x0_lines ∧ x0_lines ≤ 20)) (h_x0_line : (LnM x0_line)) (h_z2 : (0 ≤ z2)) : Sf (lp (u2 (fX7_refill_s2 x0_lines x0_line)) n (z2, z3)) (fun e => True) :=
  Sf.loop2 (fun z2 z3 => (0 ≤ z2)) (fun z2 z3 => muUp z2) (fun z2 z3 h => TX7_refill_s2 h_x0_lines h_x0_line h) h_z2 (muUp_n hn)
set_option maxHeartbeats 1000000 in
theorem sX7_refill {n : Nat} {x0_shelf x0_rowSort x0_rowSize : (Nat → Int32)} {x0_rows : (Nat → Nat → Int64)} {x0_moved : (Nat → Int64)} {x0_shown x0_tape : (Nat → Int32)} {x0_tapeSize : Int32} {x0_refused : (Nat → Int32)} {x0_lines : Int32} {x0_line : (Nat → Nat → Int32)} {x0_changes x0_coins : (Nat → Int32)} {x0_goods : Int32} {x0_good : (Nat → Nat → Int32)} {x0_works : Int32} {x0_work : (Nat → Nat → Int32)} {x0_years x0_gone x0_spent x0_at x0_token x0_from : Int32} {x0_figures : Int64} {x0_fault : Int32} {x0_numbers : (Nat → Int32)} {x0_statements : Int32} {x0_left x0_far : (Nat → Int32)} {x0_tons : Int32} {x0_way : (Nat → Int32)} {x0_steps : Int32} {x0_met : Int64} {x0_queue x0_totals : (Nat → Int32)} (hn : 1000000000000 ≤ n) (h_x0_shelf : (AI 0 2 x0_shelf)) (h_x0_rowSize : (AI 0 40 x0_rowSize)) (h_x0_tapeSize : (0 ≤ x0_tapeSize ∧ x0_tapeSize ≤ 250)) (h_x0_lines : (0 ≤ x0_lines ∧ x0_lines ≤ 20)) (h_x0_line : (LnM x0_line)) (h_x0_changes : (AI 0 99 x0_changes)) (h_x0_coins : (AI 0 9 x0_coins)) (h_x0_goods : (0 ≤ x0_goods ∧ x0_goods ≤ 8)) (h_x0_good : (GdM x0_good)) (h_x0_works : (0 ≤ x0_works ∧ x0_works ≤ 7)) (h_x0_work : (WkM x0_work)) (h_x0_years : (1 ≤ x0_years ∧ x0_years ≤ 30)) (h_x0_from : (0 ≤ x0_from ∧ x0_from ≤ 250)) (h_x0_far : (AI 0 1000000000 x0_far)) (h_x0_way : (AI 0 22 x0_way)) (h_x0_steps : (0 ≤ x0_steps ∧ x0_steps ≤ 37)) (h_x0_queue : (AI 0 35 x0_queue)) : Sf (fX7_refill n (x0_shelf, x0_rowSort, x0_rowSize, x0_rows, x0_moved, x0_shown, x0_tape, x0_tapeSize, x0_refused, x0_lines, x0_line, x0_changes, x0_coins, x0_goods, x0_good, x0_works, x0_work, x0_years, x0_gone, x0_spent, x0_at, x0_token, x0_from, x0_figures, x0_fault, x0_numbers, x0_statements, x0_left, x0_far, x0_tons, x0_way, x0_steps, x0_met, x0_queue, x0_totals)) (fun r => True) := by
  unfold fX7_refill
  dsimp only [u35]
  refine Sf.bind (LX7_refill_s2 hn h_x0_lines h_x0_line (by decide)) ?_
  intro w5 hr1
  exact Sf.ok trivial
end
section
theorem nl9 {l : Int32} (h : 0 ≤ l ∧ l ≤ 20) : 9 + l ≤ 29 := by grind
theorem sh7 {w : Int32} (h : 0 ≤ w ∧ w ≤ 7) : 1 ≤ (1 : Int32) <<< (w &&& 31) ∧ (1 : Int32) <<< (w &&& 31) ≤ 128 := by
  have : w = 0 ∨ w = 1 ∨ w = 2 ∨ w = 3 ∨ w = 4 ∨ w = 5 ∨ w = 6 ∨ w = 7 := by grind
  rcases this with rfl | rfl | rfl | rfl | rfl | rfl | rfl | rfl <;> decide
theorem or7 {a b : Int32} (h : 0 ≤ a ∧ a < 128) (h2 : 0 ≤ b ∧ b ≤ 6) : 0 ≤ a ||| ((1 : Int32) <<< (b &&& 31)) ∧ a ||| ((1 : Int32) <<< (b &&& 31)) < 128 := by
  have key : ∀ (i : Fin 128) (j : Fin 7), 0 ≤ (Int32.ofNat i.1) ||| ((1 : Int32) <<< ((Int32.ofNat j.1) &&& 31)) ∧ (Int32.ofNat i.1) ||| ((1 : Int32) <<< ((Int32.ofNat j.1) &&& 31)) < 128 := by decide +kernel
  have ea : a = Int32.ofNat a.toNatClampNeg := (Int32.ofNat_toNatClampNeg a h.1).symm
  have eb : b = Int32.ofNat b.toNatClampNeg := (Int32.ofNat_toNatClampNeg b h2.1).symm
  have la : a.toNatClampNeg < 128 := i32_lt (M := 128) rfl h
  have lb : b.toNatClampNeg < 7 := i32_lt (M := 7) rfl (by grind)
  rw [ea, eb]
  exact key ⟨_, la⟩ ⟨_, lb⟩
theorem pl_ix {x : Int64} {v w : Int32} {X : Prop} (h : (v = 1 ∧ (0 : Int64) ≤ x ∧ x ≤ (w - 1).toInt64) ∨ (v = 0 ∧ X)) (hv : ¬ v = 0) (hw : 0 ≤ w ∧ w ≤ 7) : 0 ≤ x.toInt32 ∧ x.toInt32 ≤ 6 := by
  rcases h with ⟨_, h1, h2⟩ | ⟨h, _⟩
  · have e : (0 : Int32).toInt64 = 0 := rfl
    rw [← e] at h1
    have := i64_rng h1 h2
    have h3 : w - 1 ≤ 6 := by clear this h1 h2; grind
    exact ⟨this.1, Int32.le_trans this.2 h3⟩
  · exact absurd h hv
def guU (w : Nat → Nat → Int32) : Nat := ((List.range 7).map (fun q => if w q 4 = 0 then 1 else 0)).sum
theorem sum_lt {f g : Nat → Nat} {q : Nat} : ∀ (l : List Nat), q ∈ l → (∀ k, k ∈ l → g k ≤ f k) → g q < f q → (l.map g).sum < (l.map f).sum := by
  intro l
  induction l with
  | nil => intro h; cases h
  | cons a t ih =>
    intro hq hle hlt
    simp only [List.map_cons, List.sum_cons]
    have hle' : ∀ l : List Nat, (∀ k, k ∈ l → g k ≤ f k) → (l.map g).sum ≤ (l.map f).sum := by
      intro l
      induction l with
      | nil => intro _; exact Nat.le_refl _
      | cons b u ih2 =>
        intro h
        simp only [List.map_cons, List.sum_cons]
        have h1 := h b (List.mem_cons_self ..)
        have h2 := ih2 (fun k hk => h k (List.mem_cons_of_mem _ hk))
        omega
    rcases List.mem_cons.mp hq with rfl | hq
    · have := hle' t (fun k hk => hle k (List.mem_cons_of_mem _ hk))
      omega
    · have h1 := ih hq (fun k hk => hle k (List.mem_cons_of_mem _ hk)) hlt
      have h2 := hle a (List.mem_cons_self ..)
      omega
theorem guU_lt {w : Nat → Nat → Int32} {q : Nat} (hq : q < 7) (h : w q 4 = 0) : guU (va_up w q (va_up (w q) 4 1)) < guU w := by
  refine sum_lt (q := q) _ (List.mem_range.mpr hq) (fun k _ => ?_) ?_
  · show (if va_up w q (va_up (w q) 4 1) k 4 = 0 then 1 else 0) ≤ (if w k 4 = 0 then 1 else 0)
    by_cases hk : k = q
    · subst hk
      rw [va_up_self, va_up_self, if_neg (by decide)]
      exact Nat.zero_le _
    · rw [va_up_ne _ _ hk]
      exact Nat.le_refl _
  · show (if va_up w q (va_up (w q) 4 1) q 4 = 0 then 1 else 0) < (if w q 4 = 0 then 1 else 0)
    rw [va_up_self, va_up_self, if_neg (by decide), if_pos h]
    decide
theorem guU_n {w : Nat → Nat → Int32} {n : Nat} (hn : 1000000000000 ≤ n) : guU w < n := by
  have key : ∀ l : List Nat, (l.map (fun q => if w q 4 = 0 then 1 else 0)).sum ≤ l.length := by
    intro l
    induction l with
    | nil => exact Nat.le_refl _
    | cons a t ih =>
      simp only [List.map_cons, List.sum_cons, List.length_cons]
      by_cases h : w a 4 = 0
      · rw [if_pos h]; omega
      · rw [if_neg h]; omega
  have h7 := key (List.range 7)
  have e : (List.range 7).length = 7 := List.length_range
  rw [e] at h7
  unfold guU
  omega
end

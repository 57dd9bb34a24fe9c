set_option maxHeartbeats 1000000 in
theorem sX7_refuse {x0_shelf x0_rowSort x0_rowSize : (Nat → Int32)} {x0_rows : (Nat → Nat → Int64)} {x0_moved : (Nat → Int64)} {x0_shown x0_tape : (Nat → Int32)} {x0_tapeSize : Int32} {x0_refused : (Nat → Int32)} {x0_lines : Int32} {x0_line : (Nat → Nat → Int32)} {x0_changes x0_coins : (Nat → Int32)} {x0_goods : Int32} {x0_good : (Nat → Nat → Int32)} {x0_works : Int32} {x0_work : (Nat → Nat → Int32)} {x0_years x0_gone x0_spent x0_at x0_token x0_from : Int32} {x0_figures : Int64} {x0_fault : Int32} {x0_numbers : (Nat → Int32)} {x0_statements : Int32} {x0_left x0_far : (Nat → Int32)} {x0_tons : Int32} {x0_way : (Nat → Int32)} {x0_steps : Int32} {x0_met : Int64} {x0_queue x0_totals : (Nat → Int32)} {p1 : Int32}  (h_x0_shelf : (AI 0 2 x0_shelf)) (h_x0_rowSize : (AI 0 40 x0_rowSize)) (h_x0_tapeSize : (0 ≤ x0_tapeSize ∧ x0_tapeSize ≤ 250)) (h_x0_lines : (0 ≤ x0_lines ∧ x0_lines ≤ 20)) (h_x0_line : (LnM x0_line)) (h_x0_changes : (AI 0 99 x0_changes)) (h_x0_coins : (AI 0 9 x0_coins)) (h_x0_goods : (0 ≤ x0_goods ∧ x0_goods ≤ 8)) (h_x0_good : (GdM x0_good)) (h_x0_works : (0 ≤ x0_works ∧ x0_works ≤ 7)) (h_x0_work : (WkM x0_work)) (h_x0_years : (1 ≤ x0_years ∧ x0_years ≤ 30)) (h_x0_from : (0 ≤ x0_from ∧ x0_from ≤ 250)) (h_x0_far : (AI 0 1000000000 x0_far)) (h_x0_way : (AI 0 22 x0_way)) (h_x0_steps : (0 ≤ x0_steps ∧ x0_steps ≤ 37)) (h_x0_queue : (AI 0 35 x0_queue)) (h_p1 : ((-6) ≤ p1 ∧ p1 ≤ (-2))) : Sf (fX7_refuse (x0_shelf, x0_rowSort, x0_rowSize, x0_rows, x0_moved, x0_shown, x0_tape, x0_tapeSize, x0_refused, x0_lines, x0_line, x0_changes, x0_coins, x0_goods, x0_good, x0_works, x0_work, x0_years, x0_gone, x0_spent, x0_at, x0_token, x0_from, x0_figures, x0_fault, x0_numbers, x0_statements, x0_left, x0_far, x0_tons, x0_way, x0_steps, x0_met, x0_queue, x0_totals) p1) (fun r => (r.1 = p1)) := by
  unfold fX7_refuse
  dsimp only [u35]
  refine Sf.rdb 8 rfl (by grind) (fun v1 e_v1 => ?_)
  clear e_v1
  refine Sf.wrb 8 rfl (by grind) (fun f2 e_f2 => ?_)
  clear e_f2
  exact Sf.ok (show (p1 = p1) from (by grind))
set_option maxHeartbeats 1000000 in
theorem sX7_isPlace {p0 : Int32}   : Sf (fX7_isPlace p0) (fun r => ((r = 1 ∧ 0 ≤ p0 ∧ p0 ≤ 11) ∨ (r = 0 ∧ (p0 < 0 ∨ 11 < p0)))) := by
  unfold fX7_isPlace
  refine Sf.bind (s_inq p0 0 11 (by decide) (by decide)) ?_
  intro v1 hr_v1
  refine Sf.zbb (by grind) (fun v3 e_v3 => ?_)
  exact Sf.ok (show ((v3 = 1 ∧ 0 ≤ p0 ∧ p0 ≤ 11) ∨ (v3 = 0 ∧ (p0 < 0 ∨ 11 < p0))) from (by grind))
set_option maxHeartbeats 1000000 in
theorem sX7_isLine {x0_shelf x0_rowSort x0_rowSize : (Nat → Int32)} {x0_rows : (Nat → Nat → Int64)} {x0_moved : (Nat → Int64)} {x0_shown x0_tape : (Nat → Int32)} {x0_tapeSize : Int32} {x0_refused : (Nat → Int32)} {x0_lines : Int32} {x0_line : (Nat → Nat → Int32)} {x0_changes x0_coins : (Nat → Int32)} {x0_goods : Int32} {x0_good : (Nat → Nat → Int32)} {x0_works : Int32} {x0_work : (Nat → Nat → Int32)} {x0_years x0_gone x0_spent x0_at x0_token x0_from : Int32} {x0_figures : Int64} {x0_fault : Int32} {x0_numbers : (Nat → Int32)} {x0_statements : Int32} {x0_left x0_far : (Nat → Int32)} {x0_tons : Int32} {x0_way : (Nat → Int32)} {x0_steps : Int32} {x0_met : Int64} {x0_queue x0_totals : (Nat → Int32)} {p1 : Int32}  (h_x0_shelf : (AI 0 2 x0_shelf)) (h_x0_rowSize : (AI 0 40 x0_rowSize)) (h_x0_tapeSize : (0 ≤ x0_tapeSize ∧ x0_tapeSize ≤ 250)) (h_x0_lines : (0 ≤ x0_lines ∧ x0_lines ≤ 20)) (h_x0_line : (LnM x0_line)) (h_x0_changes : (AI 0 99 x0_changes)) (h_x0_coins : (AI 0 9 x0_coins)) (h_x0_goods : (0 ≤ x0_goods ∧ x0_goods ≤ 8)) (h_x0_good : (GdM x0_good)) (h_x0_works : (0 ≤ x0_works ∧ x0_works ≤ 7)) (h_x0_work : (WkM x0_work)) (h_x0_years : (1 ≤ x0_years ∧ x0_years ≤ 30)) (h_x0_from : (0 ≤ x0_from ∧ x0_from ≤ 250)) (h_x0_far : (AI 0 1000000000 x0_far)) (h_x0_way : (AI 0 22 x0_way)) (h_x0_steps : (0 ≤ x0_steps ∧ x0_steps ≤ 37)) (h_x0_queue : (AI 0 35 x0_queue)) : Sf (fX7_isLine (x0_shelf, x0_rowSort, x0_rowSize, x0_rows, x0_moved, x0_shown, x0_tape, x0_tapeSize, x0_refused, x0_lines, x0_line, x0_changes, x0_coins, x0_goods, x0_good, x0_works, x0_work, x0_years, x0_gone, x0_spent, x0_at, x0_token, x0_from, x0_figures, x0_fault, x0_numbers, x0_statements, x0_left, x0_far, x0_tons, x0_way, x0_steps, x0_met, x0_queue, x0_totals) p1) (fun r => ((r = 1 ∧ 0 ≤ p1 ∧ p1 < x0_lines) ∨ (r = 0 ∧ ¬ (0 ≤ p1 ∧ p1 < x0_lines)))) := by
  unfold fX7_isLine
  dsimp only [u35]
  refine Sf.bind (s_inq p1 0 (x0_lines - 1) (by decide) rfl) ?_
  intro v1 hr_v1
  refine Sf.zbb (by grind) (fun v3 e_v3 => ?_)
  exact Sf.ok (show ((v3 = 1 ∧ 0 ≤ p1 ∧ p1 < x0_lines) ∨ (v3 = 0 ∧ ¬ (0 ≤ p1 ∧ p1 < x0_lines))) from (by grind))
set_option maxHeartbeats 1000000 in
theorem sX7_isWork {x0_shelf x0_rowSort x0_rowSize : (Nat → Int32)} {x0_rows : (Nat → Nat → Int64)} {x0_moved : (Nat → Int64)} {x0_shown x0_tape : (Nat → Int32)} {x0_tapeSize : Int32} {x0_refused : (Nat → Int32)} {x0_lines : Int32} {x0_line : (Nat → Nat → Int32)} {x0_changes x0_coins : (Nat → Int32)} {x0_goods : Int32} {x0_good : (Nat → Nat → Int32)} {x0_works : Int32} {x0_work : (Nat → Nat → Int32)} {x0_years x0_gone x0_spent x0_at x0_token x0_from : Int32} {x0_figures : Int64} {x0_fault : Int32} {x0_numbers : (Nat → Int32)} {x0_statements : Int32} {x0_left x0_far : (Nat → Int32)} {x0_tons : Int32} {x0_way : (Nat → Int32)} {x0_steps : Int32} {x0_met : Int64} {x0_queue x0_totals : (Nat → Int32)} {p1 : Int32}  (h_x0_shelf : (AI 0 2 x0_shelf)) (h_x0_rowSize : (AI 0 40 x0_rowSize)) (h_x0_tapeSize : (0 ≤ x0_tapeSize ∧ x0_tapeSize ≤ 250)) (h_x0_lines : (0 ≤ x0_lines ∧ x0_lines ≤ 20)) (h_x0_line : (LnM x0_line)) (h_x0_changes : (AI 0 99 x0_changes)) (h_x0_coins : (AI 0 9 x0_coins)) (h_x0_goods : (0 ≤ x0_goods ∧ x0_goods ≤ 8)) (h_x0_good : (GdM x0_good)) (h_x0_works : (0 ≤ x0_works ∧ x0_works ≤ 7)) (h_x0_work : (WkM x0_work)) (h_x0_years : (1 ≤ x0_years ∧ x0_years ≤ 30)) (h_x0_from : (0 ≤ x0_from ∧ x0_from ≤ 250)) (h_x0_far : (AI 0 1000000000 x0_far)) (h_x0_way : (AI 0 22 x0_way)) (h_x0_steps : (0 ≤ x0_steps ∧ x0_steps ≤ 37)) (h_x0_queue : (AI 0 35 x0_queue)) : Sf (fX7_isWork (x0_shelf, x0_rowSort, x0_rowSize, x0_rows, x0_moved, x0_shown, x0_tape, x0_tapeSize, x0_refused, x0_lines, x0_line, x0_changes, x0_coins, x0_goods, x0_good, x0_works, x0_work, x0_years, x0_gone, x0_spent, x0_at, x0_token, x0_from, x0_figures, x0_fault, x0_numbers, x0_statements, x0_left, x0_far, x0_tons, x0_way, x0_steps, x0_met, x0_queue, x0_totals) p1) (fun r => ((r = 1 ∧ 0 ≤ p1 ∧ p1 < x0_works) ∨ (r = 0 ∧ ¬ (0 ≤ p1 ∧ p1 < x0_works)))) := by
  unfold fX7_isWork
  dsimp only [u35]
  refine Sf.bind (s_inq p1 0 (x0_works - 1) (by decide) rfl) ?_
  intro v1 hr_v1
  refine Sf.zbb (by grind) (fun v3 e_v3 => ?_)
  exact Sf.ok (show ((v3 = 1 ∧ 0 ≤ p1 ∧ p1 < x0_works) ∨ (v3 = 0 ∧ ¬ (0 ≤ p1 ∧ p1 < x0_works))) from (by grind))
theorem TX7_row_s67 {p1 z17 : Int32} {z18 : (Nat → Nat → Int64)}  (h_p1 : (0 ≤ p1 ∧ p1 ≤ 7)) (h_z17 : (0 ≤ z17)) : Sf (fX7_row_s67 p1 z17 z18) (LQ (u2 (fun z17 z18 => (0 ≤ z17))) (u2 (fun z17 z18 => muUp z17)) (muUp z17) (fun e => True)) := by
  unfold fX7_row_s67
  refine Sf.ite (fun hc1 => ?_) (fun hc1 => ?_)
  · exact Sf.inr trivial
  · refine Sf.ckb 8 rfl (by grind) (fun q21 e_q21 h_q21 => ?_)
    refine Sf.wrb 40 rfl (by grind) (fun f22 e_f22 => ?_)
    clear e_f22
    exact Sf.inl (show (0 ≤ (z17 + 1)) from (by grind)) (muUp_lt hc1)
theorem LX7_row_s67 {n : Nat} {p1 z17 : Int32} {z18 : (Nat → Nat → Int64)} (hn : 1000000000000 ≤ n) (h_p1 : (0 ≤ p1 ∧ p1 ≤ 7)) (h_z17 : (0 ≤ z17)) : Sf (lp (u2 (fX7_row_s67 p1)) n (z17, z18)) (fun e => True) :=
  Sf.loop2 (fun z17 z18 => (0 ≤ z17)) (fun z17 z18 => muUp z17) (fun z17 z18 h => TX7_row_s67 h_p1 h) h_z17 (muUp_n hn)
set_option maxHeartbeats 1000000 in
theorem sX7_row {n : Nat} {x0_shelf x0_rowSort x0_rowSize : (Nat → Int32)} {x0_rows : (Nat → Nat → Int64)} {x0_moved : (Nat → Int64)} {x0_shown x0_tape : (Nat → Int32)} {x0_tapeSize : Int32} {x0_refused : (Nat → Int32)} {x0_lines : Int32} {x0_line : (Nat → Nat → Int32)} {x0_changes x0_coins : (Nat → Int32)} {x0_goods : Int32} {x0_good : (Nat → Nat → Int32)} {x0_works : Int32} {x0_work : (Nat → Nat → Int32)} {x0_years x0_gone x0_spent x0_at x0_token x0_from : Int32} {x0_figures : Int64} {x0_fault : Int32} {x0_numbers : (Nat → Int32)} {x0_statements : Int32} {x0_left x0_far : (Nat → Int32)} {x0_tons : Int32} {x0_way : (Nat → Int32)} {x0_steps : Int32} {x0_met : Int64} {x0_queue x0_totals : (Nat → Int32)} {p1 p2 p3 : Int32} (hn : 1000000000000 ≤ n) (h_x0_shelf : (AI 0 2 x0_shelf)) (h_x0_rowSize : (AI 0 40 x0_rowSize)) (h_x0_tapeSize : (0 ≤ x0_tapeSize ∧ x0_tapeSize ≤ 250)) (h_x0_lines : (0 ≤ x0_lines ∧ x0_lines ≤ 20)) (h_x0_line : (LnM x0_line)) (h_x0_changes : (AI 0 99 x0_changes)) (h_x0_coins : (AI 0 9 x0_coins)) (h_x0_goods : (0 ≤ x0_goods ∧ x0_goods ≤ 8)) (h_x0_good : (GdM x0_good)) (h_x0_works : (0 ≤ x0_works ∧ x0_works ≤ 7)) (h_x0_work : (WkM x0_work)) (h_x0_years : (1 ≤ x0_years ∧ x0_years ≤ 30)) (h_x0_from : (0 ≤ x0_from ∧ x0_from ≤ 250)) (h_x0_far : (AI 0 1000000000 x0_far)) (h_x0_way : (AI 0 22 x0_way)) (h_x0_steps : (0 ≤ x0_steps ∧ x0_steps ≤ 37)) (h_x0_queue : (AI 0 35 x0_queue)) : Sf (fX7_row n (x0_shelf, x0_rowSort, x0_rowSize, x0_rows, x0_moved, x0_shown, x0_tape, x0_tapeSize, x0_refused, x0_lines, x0_line, x0_changes, x0_coins, x0_goods, x0_good, x0_works, x0_work, x0_years, x0_gone, x0_spent, x0_at, x0_token, x0_from, x0_figures, x0_fault, x0_numbers, x0_statements, x0_left, x0_far, x0_tons, x0_way, x0_steps, x0_met, x0_queue, x0_totals) p1 p2 p3) (fun r => (AI 0 2 r.2.1) ∧ (AI 0 40 r.2.2.2.1)) := by
  unfold fX7_row
  dsimp only [u35]
  refine Sf.bind (s_inq p1 0 7 (by decide) (by decide)) ?_
  intro v1 hr_v1
  refine Sf.ite (fun hc1 => ?_) (fun hc1 => ?_)
  · refine Sf.bind (sX7_refuse h_x0_shelf h_x0_rowSize h_x0_tapeSize h_x0_lines h_x0_line h_x0_changes h_x0_coins h_x0_goods h_x0_good h_x0_works h_x0_work h_x0_years h_x0_from h_x0_far h_x0_way h_x0_steps h_x0_queue (by decide)) ?_
    rintro ⟨v3, g4⟩ hr2
    have hx_v3 : (v3 = (-2)) := hr2
    dsimp only [u2]
    exact Sf.ok (show (AI 0 2 x0_shelf) ∧ (AI 0 40 x0_rowSize) from ⟨h_x0_shelf, h_x0_rowSize⟩)
  · refine Sf.bind (s_inq p2 0 4 (by decide) (by decide)) ?_
    intro v6 hr_v6
    refine Sf.ite (fun hc3 => ?_) (fun hc3 => ?_)
    · refine Sf.bind (sX7_refuse h_x0_shelf h_x0_rowSize h_x0_tapeSize h_x0_lines h_x0_line h_x0_changes h_x0_coins h_x0_goods h_x0_good h_x0_works h_x0_work h_x0_years h_x0_from h_x0_far h_x0_way h_x0_steps h_x0_queue (by decide)) ?_
      rintro ⟨v8, g9⟩ hr4
      have hx_v8 : (v8 = (-2)) := hr4
      dsimp only [u2]
      exact Sf.ok (show (AI 0 2 x0_shelf) ∧ (AI 0 40 x0_rowSize) from ⟨h_x0_shelf, h_x0_rowSize⟩)
    · refine Sf.bind (s_inq p3 0 40 (by decide) (by decide)) ?_
      intro v11 hr_v11
      refine Sf.ite (fun hc5 => ?_) (fun hc5 => ?_)
      · refine Sf.bind (sX7_refuse h_x0_shelf h_x0_rowSize h_x0_tapeSize h_x0_lines h_x0_line h_x0_changes h_x0_coins h_x0_goods h_x0_good h_x0_works h_x0_work h_x0_years h_x0_from h_x0_far h_x0_way h_x0_steps h_x0_queue (by decide)) ?_
        rintro ⟨v23, g24⟩ hr6
        have hx_v23 : (v23 = (-2)) := hr6
        dsimp only [u2]
        exact Sf.ok (show (AI 0 2 x0_shelf) ∧ (AI 0 40 x0_rowSize) from ⟨h_x0_shelf, h_x0_rowSize⟩)
      · refine Sf.wrI 8 rfl h_x0_shelf (by grind) (by decide) (fun f13 h_f13 e_f13 => ?_)
        clear e_f13
        refine Sf.wrb 8 rfl (by grind) (fun f14 e_f14 => ?_)
        clear e_f14
        refine Sf.wrI 8 rfl h_x0_rowSize (by grind) (by grind) (fun f15 h_f15 e_f15 => ?_)
        clear e_f15
        refine Sf.bind (LX7_row_s67 hn (by grind) (by decide)) ?_
        intro w20 hr7
        exact Sf.ok (show (AI 0 2 f13) ∧ (AI 0 40 f15) from ⟨h_f13, h_f15⟩)
set_option maxHeartbeats 1000000 in
theorem sX7_fit {p0 : Int32} {p1 : Int64}   : Sf (fX7_fit p0 p1) (fun r => True) := by
  unfold fX7_fit
  refine Sf.ite (fun hc1 => ?_) (fun hc1 => ?_)
  · exact Sf.ok trivial
  · refine Sf.ite (fun hc2 => ?_) (fun hc2 => ?_)
    · exact Sf.ok trivial
    · refine Sf.ite (fun hc3 => ?_) (fun hc3 => ?_)
      · exact Sf.ok trivial
      · refine Sf.ite (fun hc4 => ?_) (fun hc4 => ?_)
        · exact Sf.ok trivial
        · refine Sf.ite (fun hc5 => ?_) (fun hc5 => ?_)
          · exact Sf.ok trivial
          · exact Sf.ok trivial
set_option maxHeartbeats 1000000 in
theorem sX7_set {x0_shelf x0_rowSort x0_rowSize : (Nat → Int32)} {x0_rows : (Nat → Nat → Int64)} {x0_moved : (Nat → Int64)} {x0_shown x0_tape : (Nat → Int32)} {x0_tapeSize : Int32} {x0_refused : (Nat → Int32)} {x0_lines : Int32} {x0_line : (Nat → Nat → Int32)} {x0_changes x0_coins : (Nat → Int32)} {x0_goods : Int32} {x0_good : (Nat → Nat → Int32)} {x0_works : Int32} {x0_work : (Nat → Nat → Int32)} {x0_years x0_gone x0_spent x0_at x0_token x0_from : Int32} {x0_figures : Int64} {x0_fault : Int32} {x0_numbers : (Nat → Int32)} {x0_statements : Int32} {x0_left x0_far : (Nat → Int32)} {x0_tons : Int32} {x0_way : (Nat → Int32)} {x0_steps : Int32} {x0_met : Int64} {x0_queue x0_totals : (Nat → Int32)} {p1 p2 : Int32} {p3 : Int64}  (h_x0_shelf : (AI 0 2 x0_shelf)) (h_x0_rowSize : (AI 0 40 x0_rowSize)) (h_x0_tapeSize : (0 ≤ x0_tapeSize ∧ x0_tapeSize ≤ 250)) (h_x0_lines : (0 ≤ x0_lines ∧ x0_lines ≤ 20)) (h_x0_line : (LnM x0_line)) (h_x0_changes : (AI 0 99 x0_changes)) (h_x0_coins : (AI 0 9 x0_coins)) (h_x0_goods : (0 ≤ x0_goods ∧ x0_goods ≤ 8)) (h_x0_good : (GdM x0_good)) (h_x0_works : (0 ≤ x0_works ∧ x0_works ≤ 7)) (h_x0_work : (WkM x0_work)) (h_x0_years : (1 ≤ x0_years ∧ x0_years ≤ 30)) (h_x0_from : (0 ≤ x0_from ∧ x0_from ≤ 250)) (h_x0_far : (AI 0 1000000000 x0_far)) (h_x0_way : (AI 0 22 x0_way)) (h_x0_steps : (0 ≤ x0_steps ∧ x0_steps ≤ 37)) (h_x0_queue : (AI 0 35 x0_queue)) : Sf (fX7_set (x0_shelf, x0_rowSort, x0_rowSize, x0_rows, x0_moved, x0_shown, x0_tape, x0_tapeSize, x0_refused, x0_lines, x0_line, x0_changes, x0_coins, x0_goods, x0_good, x0_works, x0_work, x0_years, x0_gone, x0_spent, x0_at, x0_token, x0_from, x0_figures, x0_fault, x0_numbers, x0_statements, x0_left, x0_far, x0_tons, x0_way, x0_steps, x0_met, x0_queue, x0_totals) p1 p2 p3) (fun r => True) := by
  unfold fX7_set
  dsimp only [u35]
  refine Sf.bind (s_inq p1 0 7 (by decide) (by decide)) ?_
  intro v1 hr_v1
  refine Sf.ite (fun hc1 => ?_) (fun hc1 => ?_)
  · refine Sf.bind (sX7_refuse h_x0_shelf h_x0_rowSize h_x0_tapeSize h_x0_lines h_x0_line h_x0_changes h_x0_coins h_x0_goods h_x0_good h_x0_works h_x0_work h_x0_years h_x0_from h_x0_far h_x0_way h_x0_steps h_x0_queue (by decide)) ?_
    rintro ⟨v22, g23⟩ hr2
    have hx_v22 : (v22 = (-2)) := hr2
    dsimp only [u2]
    exact Sf.ok trivial
  · refine Sf.rdI 8 rfl h_x0_shelf (by grind) (fun v3 h_v3 e_v3 => ?_)
    refine Sf.ite (fun hc3 => ?_) (fun hc3 => ?_)
    · refine Sf.bind (sX7_refuse h_x0_shelf h_x0_rowSize h_x0_tapeSize h_x0_lines h_x0_line h_x0_changes h_x0_coins h_x0_goods h_x0_good h_x0_works h_x0_work h_x0_years h_x0_from h_x0_far h_x0_way h_x0_steps h_x0_queue (by decide)) ?_
      rintro ⟨v19, g20⟩ hr4
      have hx_v19 : (v19 = (-3)) := hr4
      dsimp only [u2]
      exact Sf.ok trivial
    · refine Sf.rdI 8 rfl h_x0_shelf (by grind) (fun v4 h_v4 e_v4 => ?_)
      have hs5 : v4 = v3 := e_v4.trans e_v3.symm
      clear e_v4
      refine Sf.ite (fun hc6 => ?_) (fun hc6 => ?_)
      · refine Sf.bind (sX7_refuse h_x0_shelf h_x0_rowSize h_x0_tapeSize h_x0_lines h_x0_line h_x0_changes h_x0_coins h_x0_goods h_x0_good h_x0_works h_x0_work h_x0_years h_x0_from h_x0_far h_x0_way h_x0_steps h_x0_queue (by decide)) ?_
        rintro ⟨v16, g17⟩ hr7
        have hx_v16 : (v16 = (-4)) := hr7
        dsimp only [u2]
        exact Sf.ok trivial
      · refine Sf.rdI 8 rfl h_x0_rowSize (by grind) (fun v5 h_v5 e_v5 => ?_)
        clear e_v5
        refine Sf.bind (s_inq p2 0 (v5 - 1) (by decide) rfl) ?_
        intro v6 hr_v6
        refine Sf.ite (fun hc8 => ?_) (fun hc8 => ?_)
        · refine Sf.bind (sX7_refuse h_x0_shelf h_x0_rowSize h_x0_tapeSize h_x0_lines h_x0_line h_x0_changes h_x0_coins h_x0_goods h_x0_good h_x0_works h_x0_work h_x0_years h_x0_from h_x0_far h_x0_way h_x0_steps h_x0_queue (by decide)) ?_
          rintro ⟨v13, g14⟩ hr9
          have hx_v13 : (v13 = (-2)) := hr9
          dsimp only [u2]
          exact Sf.ok trivial
        · refine Sf.ckb 8 rfl (by grind) (fun q8 e_q8 h_q8 => ?_)
          refine Sf.rdb 8 rfl (by grind) (fun v9 e_v9 => ?_)
          clear e_v9
          refine Sf.bind (sX7_fit ) ?_
          intro v10 hr10
          refine Sf.wrb 40 rfl (by grind) (fun f12 e_f12 => ?_)
          clear e_f12
          exact Sf.ok trivial
theorem TX7_copy_s191 {p1 p3 p5 : Int32} {x0_rows : (Nat → Nat → Int64)} {z45 : Int32} {z46 : (Nat → Int64)}  (h_p1 : (0 ≤ p1 ∧ p1 ≤ 7)) (h_p3 : (0 ≤ p3 ∧ p3 ≤ 40)) (h_p5 : (0 ≤ p5 ∧ p5 ≤ 40)) (h_z45 : (0 ≤ z45)) (hi_0 : p3 + p5 ≤ 40) : Sf (fX7_copy_s191 p1 p3 p5 x0_rows z45 z46) (LQ (u2 (fun z45 z46 => (0 ≤ z45) ∧ (p3 + p5 ≤ 40))) (u2 (fun z45 z46 => muUp z45)) (muUp z45) (fun e => True)) := by
  unfold fX7_copy_s191
  refine Sf.ite (fun hc1 => ?_) (fun hc1 => ?_)
  · exact Sf.inr trivial
  · refine Sf.ckb 8 rfl (by grind) (fun q57 e_q57 h_q57 => ?_)
    have hq2 : 0 ≤ (p3 + z45) ∧ (p3 + z45) < 40 := by grind
    refine Sf.rdb 40 rfl hq2 (fun v58 e_v58 => ?_)
    clear e_v58
    refine Sf.wrb 40 rfl (by grind) (fun f59 e_f59 => ?_)
    clear e_f59
    exact Sf.inl (show (0 ≤ (z45 + 1)) ∧ (p3 + p5 ≤ 40) from ⟨(by grind), (by grind)⟩) (muUp_lt hc1)
theorem LX7_copy_s191 {n : Nat} {p1 p3 p5 : Int32} {x0_rows : (Nat → Nat → Int64)} {z45 : Int32} {z46 : (Nat → Int64)} (hn : 1000000000000 ≤ n) (h_p1 : (0 ≤ p1 ∧ p1 ≤ 7)) (h_p3 : (0 ≤ p3 ∧ p3 ≤ 40)) (h_p5 : (0 ≤ p5 ∧ p5 ≤ 40)) (h_z45 : (0 ≤ z45)) (hi_0 : p3 + p5 ≤ 40) : Sf (lp (u2 (fX7_copy_s191 p1 p3 p5 x0_rows)) n (z45, z46)) (fun e => True) :=
  Sf.loop2 (fun z45 z46 => (0 ≤ z45) ∧ (p3 + p5 ≤ 40)) (fun z45 z46 => muUp z45) (fun z45 z46 h => TX7_copy_s191 h_p1 h_p3 h_p5 h.1 h.2) (show (0 ≤ z45) ∧ (p3 + p5 ≤ 40) from ⟨h_z45, hi_0⟩) (muUp_n hn)
theorem TX7_copy_s225 {p2 p4 p5 : Int32} {w48 : (Nat → Int64)} {z50 : Int32} {z51 : (Nat → Nat → Int64)}  (h_p2 : (0 ≤ p2 ∧ p2 ≤ 7)) (h_p4 : (0 ≤ p4 ∧ p4 ≤ 40)) (h_p5 : (0 ≤ p5 ∧ p5 ≤ 40)) (h_z50 : (0 ≤ z50)) (hi_0 : p4 + p5 ≤ 40) : Sf (fX7_copy_s225 p2 p4 p5 w48 z50 z51) (LQ (u2 (fun z50 z51 => (0 ≤ z50) ∧ (p4 + p5 ≤ 40))) (u2 (fun z50 z51 => muUp z50)) (muUp z50) (fun e => True)) := by
  unfold fX7_copy_s225
  refine Sf.ite (fun hc1 => ?_) (fun hc1 => ?_)
  · exact Sf.inr trivial
  · refine Sf.ckb 8 rfl (by grind) (fun q54 e_q54 h_q54 => ?_)
    refine Sf.rdb 40 rfl (by grind) (fun v55 e_v55 => ?_)
    clear e_v55
    have hq2 : 0 ≤ (p4 + z50) ∧ (p4 + z50) < 40 := by grind
    refine Sf.wrb 40 rfl hq2 (fun f56 e_f56 => ?_)
    clear e_f56
    exact Sf.inl (show (0 ≤ (z50 + 1)) ∧ (p4 + p5 ≤ 40) from ⟨(by grind), (by grind)⟩) (muUp_lt hc1)
theorem LX7_copy_s225 {n : Nat} {p2 p4 p5 : Int32} {w48 : (Nat → Int64)} {z50 : Int32} {z51 : (Nat → Nat → Int64)} (hn : 1000000000000 ≤ n) (h_p2 : (0 ≤ p2 ∧ p2 ≤ 7)) (h_p4 : (0 ≤ p4 ∧ p4 ≤ 40)) (h_p5 : (0 ≤ p5 ∧ p5 ≤ 40)) (h_z50 : (0 ≤ z50)) (hi_0 : p4 + p5 ≤ 40) : Sf (lp (u2 (fX7_copy_s225 p2 p4 p5 w48)) n (z50, z51)) (fun e => True) :=
  Sf.loop2 (fun z50 z51 => (0 ≤ z50) ∧ (p4 + p5 ≤ 40)) (fun z50 z51 => muUp z50) (fun z50 z51 h => TX7_copy_s225 h_p2 h_p4 h_p5 h.1 h.2) (show (0 ≤ z50) ∧ (p4 + p5 ≤ 40) from ⟨h_z50, hi_0⟩) (muUp_n hn)
set_option maxHeartbeats 1000000 in
theorem sX7_copy {n : Nat} {x0_shelf x0_rowSort x0_rowSize : (Nat → Int32)} {x0_rows : (Nat → Nat → Int64)} {x0_moved : (Nat → Int64)} {x0_shown x0_tape : (Nat → Int32)} {x0_tapeSize : Int32} {x0_refused : (Nat → Int32)} {x0_lines : Int32} {x0_line : (Nat → Nat → Int32)} {x0_changes x0_coins : (Nat → Int32)} {x0_goods : Int32} {x0_good : (Nat → Nat → Int32)} {x0_works : Int32} {x0_work : (Nat → Nat → Int32)} {x0_years x0_gone x0_spent x0_at x0_token x0_from : Int32} {x0_figures : Int64} {x0_fault : Int32} {x0_numbers : (Nat → Int32)} {x0_statements : Int32} {x0_left x0_far : (Nat → Int32)} {x0_tons : Int32} {x0_way : (Nat → Int32)} {x0_steps : Int32} {x0_met : Int64} {x0_queue x0_totals : (Nat → Int32)} {p1 p2 p3 p4 p5 : Int32} (hn : 1000000000000 ≤ n) (h_x0_shelf : (AI 0 2 x0_shelf)) (h_x0_rowSize : (AI 0 40 x0_rowSize)) (h_x0_tapeSize : (0 ≤ x0_tapeSize ∧ x0_tapeSize ≤ 250)) (h_x0_lines : (0 ≤ x0_lines ∧ x0_lines ≤ 20)) (h_x0_line : (LnM x0_line)) (h_x0_changes : (AI 0 99 x0_changes)) (h_x0_coins : (AI 0 9 x0_coins)) (h_x0_goods : (0 ≤ x0_goods ∧ x0_goods ≤ 8)) (h_x0_good : (GdM x0_good)) (h_x0_works : (0 ≤ x0_works ∧ x0_works ≤ 7)) (h_x0_work : (WkM x0_work)) (h_x0_years : (1 ≤ x0_years ∧ x0_years ≤ 30)) (h_x0_from : (0 ≤ x0_from ∧ x0_from ≤ 250)) (h_x0_far : (AI 0 1000000000 x0_far)) (h_x0_way : (AI 0 22 x0_way)) (h_x0_steps : (0 ≤ x0_steps ∧ x0_steps ≤ 37)) (h_x0_queue : (AI 0 35 x0_queue)) : Sf (fX7_copy n (x0_shelf, x0_rowSort, x0_rowSize, x0_rows, x0_moved, x0_shown, x0_tape, x0_tapeSize, x0_refused, x0_lines, x0_line, x0_changes, x0_coins, x0_goods, x0_good, x0_works, x0_work, x0_years, x0_gone, x0_spent, x0_at, x0_token, x0_from, x0_figures, x0_fault, x0_numbers, x0_statements, x0_left, x0_far, x0_tons, x0_way, x0_steps, x0_met, x0_queue, x0_totals) p1 p2 p3 p4 p5) (fun r => True) := by
  unfold fX7_copy
  dsimp only [u35]
  refine Sf.bind (s_inq p1 0 7 (by decide) (by decide)) ?_
  intro v1 hr_v1
  refine Sf.ite (fun hc1 => ?_) (fun hc1 => ?_)
  · refine Sf.bind (sX7_refuse h_x0_shelf h_x0_rowSize h_x0_tapeSize h_x0_lines h_x0_line h_x0_changes h_x0_coins h_x0_goods h_x0_good h_x0_works h_x0_work h_x0_years h_x0_from h_x0_far h_x0_way h_x0_steps h_x0_queue (by decide)) ?_
    rintro ⟨v3, g4⟩ hr2
    have hx_v3 : (v3 = (-2)) := hr2
    dsimp only [u2]
    exact Sf.ok trivial
  · refine Sf.bind (s_inq p2 0 7 (by decide) (by decide)) ?_
    intro v6 hr_v6
    refine Sf.ite (fun hc3 => ?_) (fun hc3 => ?_)
    · refine Sf.bind (sX7_refuse h_x0_shelf h_x0_rowSize h_x0_tapeSize h_x0_lines h_x0_line h_x0_changes h_x0_coins h_x0_goods h_x0_good h_x0_works h_x0_work h_x0_years h_x0_from h_x0_far h_x0_way h_x0_steps h_x0_queue (by decide)) ?_
      rintro ⟨v72, g73⟩ hr4
      have hx_v72 : (v72 = (-2)) := hr4
      dsimp only [u2]
      exact Sf.ok trivial
    · refine Sf.rdI 8 rfl h_x0_shelf (by grind) (fun v8 h_v8 e_v8 => ?_)
      refine Sf.ite (fun hc5 => ?_) (fun hc5 => ?_)
      · refine Sf.bind (sX7_refuse h_x0_shelf h_x0_rowSize h_x0_tapeSize h_x0_lines h_x0_line h_x0_changes h_x0_coins h_x0_goods h_x0_good h_x0_works h_x0_work h_x0_years h_x0_from h_x0_far h_x0_way h_x0_steps h_x0_queue (by decide)) ?_
        rintro ⟨v9, g10⟩ hr6
        have hx_v9 : (v9 = (-3)) := hr6
        dsimp only [u2]
        exact Sf.ok trivial
      · refine Sf.rdI 8 rfl h_x0_shelf (by grind) (fun v12 h_v12 e_v12 => ?_)
        refine Sf.ite (fun hc7 => ?_) (fun hc7 => ?_)
        · refine Sf.bind (sX7_refuse h_x0_shelf h_x0_rowSize h_x0_tapeSize h_x0_lines h_x0_line h_x0_changes h_x0_coins h_x0_goods h_x0_good h_x0_works h_x0_work h_x0_years h_x0_from h_x0_far h_x0_way h_x0_steps h_x0_queue (by decide)) ?_
          rintro ⟨v13, g14⟩ hr8
          have hx_v13 : (v13 = (-3)) := hr8
          dsimp only [u2]
          exact Sf.ok trivial
        · refine Sf.rdI 8 rfl h_x0_shelf (by grind) (fun v16 h_v16 e_v16 => ?_)
          have hs9 : v16 = v8 := e_v16.trans e_v8.symm
          clear e_v16
          refine Sf.ite (fun hc10 => ?_) (fun hc10 => ?_)
          · refine Sf.rdI 8 rfl h_x0_shelf (by grind) (fun v66 h_v66 e_v66 => ?_)
            have hs11 : v66 = v12 := e_v66.trans e_v12.symm
            clear e_v66
            refine Sf.ite (fun hc12 => ?_) (fun hc12 => ?_)
            · refine Sf.rdb 8 rfl (by grind) (fun v67 e_v67 => ?_)
              clear e_v67
              refine Sf.rdb 8 rfl (by grind) (fun v68 e_v68 => ?_)
              clear e_v68
              refine Sf.ite (fun hc13 => ?_) (fun hc13 => ?_)
              · unfold fX7_copy_j93
                refine Sf.rdI 8 rfl h_x0_shelf (by grind) (fun v17 h_v17 e_v17 => ?_)
                have hs14 : v17 = v8 := e_v17.trans e_v8.symm
                clear e_v17
                refine Sf.ite (fun hc15 => ?_) (fun hc15 => ?_)
                · refine Sf.bind (sX7_refuse h_x0_shelf h_x0_rowSize h_x0_tapeSize h_x0_lines h_x0_line h_x0_changes h_x0_coins h_x0_goods h_x0_good h_x0_works h_x0_work h_x0_years h_x0_from h_x0_far h_x0_way h_x0_steps h_x0_queue (by decide)) ?_
                  rintro ⟨v18, g19⟩ hr16
                  have hx_v18 : (v18 = (-4)) := hr16
                  dsimp only [u2]
                  exact Sf.ok trivial
                · refine Sf.rdI 8 rfl h_x0_shelf (by grind) (fun v21 h_v21 e_v21 => ?_)
                  have hs17 : v21 = v12 := e_v21.trans e_v12.symm
                  clear e_v21
                  refine Sf.ite (fun hc18 => ?_) (fun hc18 => ?_)
                  · refine Sf.bind (sX7_refuse h_x0_shelf h_x0_rowSize h_x0_tapeSize h_x0_lines h_x0_line h_x0_changes h_x0_coins h_x0_goods h_x0_good h_x0_works h_x0_work h_x0_years h_x0_from h_x0_far h_x0_way h_x0_steps h_x0_queue (by decide)) ?_
                    rintro ⟨v63, g64⟩ hr19
                    have hx_v63 : (v63 = (-4)) := hr19
                    dsimp only [u2]
                    exact Sf.ok trivial
                  · refine Sf.ite (fun hc20 => ?_) (fun hc20 => ?_)
                    · refine Sf.bind (sX7_refuse h_x0_shelf h_x0_rowSize h_x0_tapeSize h_x0_lines h_x0_line h_x0_changes h_x0_coins h_x0_goods h_x0_good h_x0_works h_x0_work h_x0_years h_x0_from h_x0_far h_x0_way h_x0_steps h_x0_queue (by decide)) ?_
                      rintro ⟨v22, g23⟩ hr21
                      have hx_v22 : (v22 = (-2)) := hr21
                      dsimp only [u2]
                      exact Sf.ok trivial
                    · refine Sf.ite (fun hc22 => ?_) (fun hc22 => ?_)
                      · refine Sf.bind (sX7_refuse h_x0_shelf h_x0_rowSize h_x0_tapeSize h_x0_lines h_x0_line h_x0_changes h_x0_coins h_x0_goods h_x0_good h_x0_works h_x0_work h_x0_years h_x0_from h_x0_far h_x0_way h_x0_steps h_x0_queue (by decide)) ?_
                        rintro ⟨v25, g26⟩ hr23
                        have hx_v25 : (v25 = (-2)) := hr23
                        dsimp only [u2]
                        exact Sf.ok trivial
                      · refine Sf.ite (fun hc24 => ?_) (fun hc24 => ?_)
                        · refine Sf.bind (sX7_refuse h_x0_shelf h_x0_rowSize h_x0_tapeSize h_x0_lines h_x0_line h_x0_changes h_x0_coins h_x0_goods h_x0_good h_x0_works h_x0_work h_x0_years h_x0_from h_x0_far h_x0_way h_x0_steps h_x0_queue (by decide)) ?_
                          rintro ⟨v28, g29⟩ hr25
                          have hx_v28 : (v28 = (-2)) := hr25
                          dsimp only [u2]
                          exact Sf.ok trivial
                        · refine Sf.rdI 8 rfl h_x0_rowSize (by grind) (fun v31 h_v31 e_v31 => ?_)
                          refine Sf.ite (fun hc26 => ?_) (fun hc26 => ?_)
                          · refine Sf.bind (sX7_refuse h_x0_shelf h_x0_rowSize h_x0_tapeSize h_x0_lines h_x0_line h_x0_changes h_x0_coins h_x0_goods h_x0_good h_x0_works h_x0_work h_x0_years h_x0_from h_x0_far h_x0_way h_x0_steps h_x0_queue (by decide)) ?_
                            rintro ⟨v32, g33⟩ hr27
                            have hx_v32 : (v32 = (-2)) := hr27
                            dsimp only [u2]
                            exact Sf.ok trivial
                          · refine Sf.rdI 8 rfl h_x0_rowSize (by grind) (fun v35 h_v35 e_v35 => ?_)
                            refine Sf.ite (fun hc28 => ?_) (fun hc28 => ?_)
                            · refine Sf.bind (sX7_refuse h_x0_shelf h_x0_rowSize h_x0_tapeSize h_x0_lines h_x0_line h_x0_changes h_x0_coins h_x0_goods h_x0_good h_x0_works h_x0_work h_x0_years h_x0_from h_x0_far h_x0_way h_x0_steps h_x0_queue (by decide)) ?_
                              rintro ⟨v36, g37⟩ hr29
                              have hx_v36 : (v36 = (-2)) := hr29
                              dsimp only [u2]
                              exact Sf.ok trivial
                            · refine Sf.rdI 8 rfl h_x0_rowSize (by grind) (fun v39 h_v39 e_v39 => ?_)
                              have hs30 : v39 = v31 := e_v39.trans e_v31.symm
                              clear e_v39
                              refine Sf.ite (fun hc31 => ?_) (fun hc31 => ?_)
                              · refine Sf.bind (sX7_refuse h_x0_shelf h_x0_rowSize h_x0_tapeSize h_x0_lines h_x0_line h_x0_changes h_x0_coins h_x0_goods h_x0_good h_x0_works h_x0_work h_x0_years h_x0_from h_x0_far h_x0_way h_x0_steps h_x0_queue (by decide)) ?_
                                rintro ⟨v40, g41⟩ hr32
                                have hx_v40 : (v40 = (-2)) := hr32
                                dsimp only [u2]
                                exact Sf.ok trivial
                              · refine Sf.rdI 8 rfl h_x0_rowSize (by grind) (fun v43 h_v43 e_v43 => ?_)
                                have hs33 : v43 = v35 := e_v43.trans e_v35.symm
                                clear e_v43
                                refine Sf.ite (fun hc34 => ?_) (fun hc34 => ?_)
                                · refine Sf.bind (LX7_copy_s191 hn (by grind) (by grind) (by grind) (by decide) (by grind)) ?_
                                  intro w48 hr35
                                  refine Sf.bind (LX7_copy_s225 hn (by grind) (by grind) (by grind) (by decide) (by grind)) ?_
                                  intro w53 hr36
                                  exact Sf.ok trivial
                                · refine Sf.bind (sX7_refuse h_x0_shelf h_x0_rowSize h_x0_tapeSize h_x0_lines h_x0_line h_x0_changes h_x0_coins h_x0_goods h_x0_good h_x0_works h_x0_work h_x0_years h_x0_from h_x0_far h_x0_way h_x0_steps h_x0_queue (by decide)) ?_
                                  rintro ⟨v60, g61⟩ hr37
                                  have hx_v60 : (v60 = (-2)) := hr37
                                  dsimp only [u2]
                                  exact Sf.ok trivial
              · refine Sf.bind (sX7_refuse h_x0_shelf h_x0_rowSize h_x0_tapeSize h_x0_lines h_x0_line h_x0_changes h_x0_coins h_x0_goods h_x0_good h_x0_works h_x0_work h_x0_years h_x0_from h_x0_far h_x0_way h_x0_steps h_x0_queue (by decide)) ?_
                rintro ⟨v69, g70⟩ hr38
                have hx_v69 : (v69 = (-3)) := hr38
                dsimp only [u2]
                exact Sf.ok trivial
            · unfold fX7_copy_j93
              refine Sf.rdI 8 rfl h_x0_shelf (by grind) (fun v17 h_v17 e_v17 => ?_)
              have hs39 : v17 = v8 := e_v17.trans e_v8.symm
              clear e_v17
              refine Sf.ite (fun hc40 => ?_) (fun hc40 => ?_)
              · refine Sf.bind (sX7_refuse h_x0_shelf h_x0_rowSize h_x0_tapeSize h_x0_lines h_x0_line h_x0_changes h_x0_coins h_x0_goods h_x0_good h_x0_works h_x0_work h_x0_years h_x0_from h_x0_far h_x0_way h_x0_steps h_x0_queue (by decide)) ?_
                rintro ⟨v18, g19⟩ hr41
                have hx_v18 : (v18 = (-4)) := hr41
                dsimp only [u2]
                exact Sf.ok trivial
              · refine Sf.rdI 8 rfl h_x0_shelf (by grind) (fun v21 h_v21 e_v21 => ?_)
                have hs42 : v21 = v12 := e_v21.trans e_v12.symm
                clear e_v21
                refine Sf.ite (fun hc43 => ?_) (fun hc43 => ?_)
                · refine Sf.bind (sX7_refuse h_x0_shelf h_x0_rowSize h_x0_tapeSize h_x0_lines h_x0_line h_x0_changes h_x0_coins h_x0_goods h_x0_good h_x0_works h_x0_work h_x0_years h_x0_from h_x0_far h_x0_way h_x0_steps h_x0_queue (by decide)) ?_
                  rintro ⟨v63, g64⟩ hr44
                  have hx_v63 : (v63 = (-4)) := hr44
                  dsimp only [u2]
                  exact Sf.ok trivial
                · refine Sf.ite (fun hc45 => ?_) (fun hc45 => ?_)
                  · refine Sf.bind (sX7_refuse h_x0_shelf h_x0_rowSize h_x0_tapeSize h_x0_lines h_x0_line h_x0_changes h_x0_coins h_x0_goods h_x0_good h_x0_works h_x0_work h_x0_years h_x0_from h_x0_far h_x0_way h_x0_steps h_x0_queue (by decide)) ?_
                    rintro ⟨v22, g23⟩ hr46
                    have hx_v22 : (v22 = (-2)) := hr46
                    dsimp only [u2]
                    exact Sf.ok trivial
                  · refine Sf.ite (fun hc47 => ?_) (fun hc47 => ?_)
                    · refine Sf.bind (sX7_refuse h_x0_shelf h_x0_rowSize h_x0_tapeSize h_x0_lines h_x0_line h_x0_changes h_x0_coins h_x0_goods h_x0_good h_x0_works h_x0_work h_x0_years h_x0_from h_x0_far h_x0_way h_x0_steps h_x0_queue (by decide)) ?_
                      rintro ⟨v25, g26⟩ hr48
                      have hx_v25 : (v25 = (-2)) := hr48
                      dsimp only [u2]
                      exact Sf.ok trivial
                    · refine Sf.ite (fun hc49 => ?_) (fun hc49 => ?_)
                      · refine Sf.bind (sX7_refuse h_x0_shelf h_x0_rowSize h_x0_tapeSize h_x0_lines h_x0_line h_x0_changes h_x0_coins h_x0_goods h_x0_good h_x0_works h_x0_work h_x0_years h_x0_from h_x0_far h_x0_way h_x0_steps h_x0_queue (by decide)) ?_
                        rintro ⟨v28, g29⟩ hr50
                        have hx_v28 : (v28 = (-2)) := hr50
                        dsimp only [u2]
                        exact Sf.ok trivial
                      · refine Sf.rdI 8 rfl h_x0_rowSize (by grind) (fun v31 h_v31 e_v31 => ?_)
                        refine Sf.ite (fun hc51 => ?_) (fun hc51 => ?_)
                        · refine Sf.bind (sX7_refuse h_x0_shelf h_x0_rowSize h_x0_tapeSize h_x0_lines h_x0_line h_x0_changes h_x0_coins h_x0_goods h_x0_good h_x0_works h_x0_work h_x0_years h_x0_from h_x0_far h_x0_way h_x0_steps h_x0_queue (by decide)) ?_
                          rintro ⟨v32, g33⟩ hr52
                          have hx_v32 : (v32 = (-2)) := hr52
                          dsimp only [u2]
                          exact Sf.ok trivial
                        · refine Sf.rdI 8 rfl h_x0_rowSize (by grind) (fun v35 h_v35 e_v35 => ?_)
                          refine Sf.ite (fun hc53 => ?_) (fun hc53 => ?_)
                          · refine Sf.bind (sX7_refuse h_x0_shelf h_x0_rowSize h_x0_tapeSize h_x0_lines h_x0_line h_x0_changes h_x0_coins h_x0_goods h_x0_good h_x0_works h_x0_work h_x0_years h_x0_from h_x0_far h_x0_way h_x0_steps h_x0_queue (by decide)) ?_
                            rintro ⟨v36, g37⟩ hr54
                            have hx_v36 : (v36 = (-2)) := hr54
                            dsimp only [u2]
                            exact Sf.ok trivial
                          · refine Sf.rdI 8 rfl h_x0_rowSize (by grind) (fun v39 h_v39 e_v39 => ?_)
                            have hs55 : v39 = v31 := e_v39.trans e_v31.symm
                            clear e_v39
                            refine Sf.ite (fun hc56 => ?_) (fun hc56 => ?_)
                            · refine Sf.bind (sX7_refuse h_x0_shelf h_x0_rowSize h_x0_tapeSize h_x0_lines h_x0_line h_x0_changes h_x0_coins h_x0_goods h_x0_good h_x0_works h_x0_work h_x0_years h_x0_from h_x0_far h_x0_way h_x0_steps h_x0_queue (by decide)) ?_
                              rintro ⟨v40, g41⟩ hr57
                              have hx_v40 : (v40 = (-2)) := hr57
                              dsimp only [u2]
                              exact Sf.ok trivial
                            · refine Sf.rdI 8 rfl h_x0_rowSize (by grind) (fun v43 h_v43 e_v43 => ?_)
                              have hs58 : v43 = v35 := e_v43.trans e_v35.symm
                              clear e_v43
                              refine Sf.ite (fun hc59 => ?_) (fun hc59 => ?_)
                              · refine Sf.bind (LX7_copy_s191 hn (by grind) (by grind) (by grind) (by decide) (by grind)) ?_
                                intro w48 hr60
                                refine Sf.bind (LX7_copy_s225 hn (by grind) (by grind) (by grind) (by decide) (by grind)) ?_
                                intro w53 hr61
                                exact Sf.ok trivial
                              · refine Sf.bind (sX7_refuse h_x0_shelf h_x0_rowSize h_x0_tapeSize h_x0_lines h_x0_line h_x0_changes h_x0_coins h_x0_goods h_x0_good h_x0_works h_x0_work h_x0_years h_x0_from h_x0_far h_x0_way h_x0_steps h_x0_queue (by decide)) ?_
                                rintro ⟨v60, g61⟩ hr62
                                have hx_v60 : (v60 = (-2)) := hr62
                                dsimp only [u2]
                                exact Sf.ok trivial
          · unfold fX7_copy_j93
            refine Sf.rdI 8 rfl h_x0_shelf (by grind) (fun v17 h_v17 e_v17 => ?_)
            have hs63 : v17 = v8 := e_v17.trans e_v8.symm
            clear e_v17
            refine Sf.ite (fun hc64 => ?_) (fun hc64 => ?_)
            · refine Sf.bind (sX7_refuse h_x0_shelf h_x0_rowSize h_x0_tapeSize h_x0_lines h_x0_line h_x0_changes h_x0_coins h_x0_goods h_x0_good h_x0_works h_x0_work h_x0_years h_x0_from h_x0_far h_x0_way h_x0_steps h_x0_queue (by decide)) ?_
              rintro ⟨v18, g19⟩ hr65
              have hx_v18 : (v18 = (-4)) := hr65
              dsimp only [u2]
              exact Sf.ok trivial
            · refine Sf.rdI 8 rfl h_x0_shelf (by grind) (fun v21 h_v21 e_v21 => ?_)
              have hs66 : v21 = v12 := e_v21.trans e_v12.symm
              clear e_v21
              refine Sf.ite (fun hc67 => ?_) (fun hc67 => ?_)
              · refine Sf.bind (sX7_refuse h_x0_shelf h_x0_rowSize h_x0_tapeSize h_x0_lines h_x0_line h_x0_changes h_x0_coins h_x0_goods h_x0_good h_x0_works h_x0_work h_x0_years h_x0_from h_x0_far h_x0_way h_x0_steps h_x0_queue (by decide)) ?_
                rintro ⟨v63, g64⟩ hr68
                have hx_v63 : (v63 = (-4)) := hr68
                dsimp only [u2]
                exact Sf.ok trivial
              · refine Sf.ite (fun hc69 => ?_) (fun hc69 => ?_)
                · refine Sf.bind (sX7_refuse h_x0_shelf h_x0_rowSize h_x0_tapeSize h_x0_lines h_x0_line h_x0_changes h_x0_coins h_x0_goods h_x0_good h_x0_works h_x0_work h_x0_years h_x0_from h_x0_far h_x0_way h_x0_steps h_x0_queue (by decide)) ?_
                  rintro ⟨v22, g23⟩ hr70
                  have hx_v22 : (v22 = (-2)) := hr70
                  dsimp only [u2]
                  exact Sf.ok trivial
                · refine Sf.ite (fun hc71 => ?_) (fun hc71 => ?_)
                  · refine Sf.bind (sX7_refuse h_x0_shelf h_x0_rowSize h_x0_tapeSize h_x0_lines h_x0_line h_x0_changes h_x0_coins h_x0_goods h_x0_good h_x0_works h_x0_work h_x0_years h_x0_from h_x0_far h_x0_way h_x0_steps h_x0_queue (by decide)) ?_
                    rintro ⟨v25, g26⟩ hr72
                    have hx_v25 : (v25 = (-2)) := hr72
                    dsimp only [u2]
                    exact Sf.ok trivial
                  · refine Sf.ite (fun hc73 => ?_) (fun hc73 => ?_)
                    · refine Sf.bind (sX7_refuse h_x0_shelf h_x0_rowSize h_x0_tapeSize h_x0_lines h_x0_line h_x0_changes h_x0_coins h_x0_goods h_x0_good h_x0_works h_x0_work h_x0_years h_x0_from h_x0_far h_x0_way h_x0_steps h_x0_queue (by decide)) ?_
                      rintro ⟨v28, g29⟩ hr74
                      have hx_v28 : (v28 = (-2)) := hr74
                      dsimp only [u2]
                      exact Sf.ok trivial
                    · refine Sf.rdI 8 rfl h_x0_rowSize (by grind) (fun v31 h_v31 e_v31 => ?_)
                      refine Sf.ite (fun hc75 => ?_) (fun hc75 => ?_)
                      · refine Sf.bind (sX7_refuse h_x0_shelf h_x0_rowSize h_x0_tapeSize h_x0_lines h_x0_line h_x0_changes h_x0_coins h_x0_goods h_x0_good h_x0_works h_x0_work h_x0_years h_x0_from h_x0_far h_x0_way h_x0_steps h_x0_queue (by decide)) ?_
                        rintro ⟨v32, g33⟩ hr76
                        have hx_v32 : (v32 = (-2)) := hr76
                        dsimp only [u2]
                        exact Sf.ok trivial
                      · refine Sf.rdI 8 rfl h_x0_rowSize (by grind) (fun v35 h_v35 e_v35 => ?_)
                        refine Sf.ite (fun hc77 => ?_) (fun hc77 => ?_)
                        · refine Sf.bind (sX7_refuse h_x0_shelf h_x0_rowSize h_x0_tapeSize h_x0_lines h_x0_line h_x0_changes h_x0_coins h_x0_goods h_x0_good h_x0_works h_x0_work h_x0_years h_x0_from h_x0_far h_x0_way h_x0_steps h_x0_queue (by decide)) ?_
                          rintro ⟨v36, g37⟩ hr78
                          have hx_v36 : (v36 = (-2)) := hr78
                          dsimp only [u2]
                          exact Sf.ok trivial
                        · refine Sf.rdI 8 rfl h_x0_rowSize (by grind) (fun v39 h_v39 e_v39 => ?_)
                          have hs79 : v39 = v31 := e_v39.trans e_v31.symm
                          clear e_v39
                          refine Sf.ite (fun hc80 => ?_) (fun hc80 => ?_)
                          · refine Sf.bind (sX7_refuse h_x0_shelf h_x0_rowSize h_x0_tapeSize h_x0_lines h_x0_line h_x0_changes h_x0_coins h_x0_goods h_x0_good h_x0_works h_x0_work h_x0_years h_x0_from h_x0_far h_x0_way h_x0_steps h_x0_queue (by decide)) ?_
                            rintro ⟨v40, g41⟩ hr81
                            have hx_v40 : (v40 = (-2)) := hr81
                            dsimp only [u2]
                            exact Sf.ok trivial
                          · refine Sf.rdI 8 rfl h_x0_rowSize (by grind) (fun v43 h_v43 e_v43 => ?_)
                            have hs82 : v43 = v35 := e_v43.trans e_v35.symm
                            clear e_v43
                            refine Sf.ite (fun hc83 => ?_) (fun hc83 => ?_)
                            · refine Sf.bind (LX7_copy_s191 hn (by grind) (by grind) (by grind) (by decide) (by grind)) ?_
                              intro w48 hr84
                              refine Sf.bind (LX7_copy_s225 hn (by grind) (by grind) (by grind) (by decide) (by grind)) ?_
                              intro w53 hr85
                              exact Sf.ok trivial
                            · refine Sf.bind (sX7_refuse h_x0_shelf h_x0_rowSize h_x0_tapeSize h_x0_lines h_x0_line h_x0_changes h_x0_coins h_x0_goods h_x0_good h_x0_works h_x0_work h_x0_years h_x0_from h_x0_far h_x0_way h_x0_steps h_x0_queue (by decide)) ?_
                              rintro ⟨v60, g61⟩ hr86
                              have hx_v60 : (v60 = (-2)) := hr86
                              dsimp only [u2]
                              exact Sf.ok trivial
set_option maxHeartbeats 1000000 in
theorem sX7_element {x0_shelf x0_rowSort x0_rowSize : (Nat → Int32)} {x0_rows : (Nat → Nat → Int64)} {x0_moved : (Nat → Int64)} {x0_shown x0_tape : (Nat → Int32)} {x0_tapeSize : Int32} {x0_refused : (Nat → Int32)} {x0_lines : Int32} {x0_line : (Nat → Nat → Int32)} {x0_changes x0_coins : (Nat → Int32)} {x0_goods : Int32} {x0_good : (Nat → Nat → Int32)} {x0_works : Int32} {x0_work : (Nat → Nat → Int32)} {x0_years x0_gone x0_spent x0_at x0_token x0_from : Int32} {x0_figures : Int64} {x0_fault : Int32} {x0_numbers : (Nat → Int32)} {x0_statements : Int32} {x0_left x0_far : (Nat → Int32)} {x0_tons : Int32} {x0_way : (Nat → Int32)} {x0_steps : Int32} {x0_met : Int64} {x0_queue x0_totals : (Nat → Int32)} {p1 p2 : Int32}  (h_x0_shelf : (AI 0 2 x0_shelf)) (h_x0_rowSize : (AI 0 40 x0_rowSize)) (h_x0_tapeSize : (0 ≤ x0_tapeSize ∧ x0_tapeSize ≤ 250)) (h_x0_lines : (0 ≤ x0_lines ∧ x0_lines ≤ 20)) (h_x0_line : (LnM x0_line)) (h_x0_changes : (AI 0 99 x0_changes)) (h_x0_coins : (AI 0 9 x0_coins)) (h_x0_goods : (0 ≤ x0_goods ∧ x0_goods ≤ 8)) (h_x0_good : (GdM x0_good)) (h_x0_works : (0 ≤ x0_works ∧ x0_works ≤ 7)) (h_x0_work : (WkM x0_work)) (h_x0_years : (1 ≤ x0_years ∧ x0_years ≤ 30)) (h_x0_from : (0 ≤ x0_from ∧ x0_from ≤ 250)) (h_x0_far : (AI 0 1000000000 x0_far)) (h_x0_way : (AI 0 22 x0_way)) (h_x0_steps : (0 ≤ x0_steps ∧ x0_steps ≤ 37)) (h_x0_queue : (AI 0 35 x0_queue)) : Sf (fX7_element (x0_shelf, x0_rowSort, x0_rowSize, x0_rows, x0_moved, x0_shown, x0_tape, x0_tapeSize, x0_refused, x0_lines, x0_line, x0_changes, x0_coins, x0_goods, x0_good, x0_works, x0_work, x0_years, x0_gone, x0_spent, x0_at, x0_token, x0_from, x0_figures, x0_fault, x0_numbers, x0_statements, x0_left, x0_far, x0_tons, x0_way, x0_steps, x0_met, x0_queue, x0_totals) p1 p2) (fun r => True) := by
  unfold fX7_element
  dsimp only [u35]
  refine Sf.bind (s_inq p1 0 7 (by decide) (by decide)) ?_
  intro v1 hr_v1
  refine Sf.ite (fun hc1 => ?_) (fun hc1 => ?_)
  · exact Sf.ok trivial
  · refine Sf.rdI 8 rfl h_x0_shelf (by grind) (fun v3 h_v3 e_v3 => ?_)
    clear e_v3
    refine Sf.ite (fun hc2 => ?_) (fun hc2 => ?_)
    · refine Sf.rdI 8 rfl h_x0_rowSize (by grind) (fun v4 h_v4 e_v4 => ?_)
      clear e_v4
      refine Sf.bind (s_inq p2 0 (v4 - 1) (by decide) rfl) ?_
      intro v5 hr_v5
      refine Sf.ite (fun hc3 => ?_) (fun hc3 => ?_)
      · exact Sf.ok trivial
      · refine Sf.ckb 8 rfl (by grind) (fun q7 e_q7 h_q7 => ?_)
        refine Sf.rdb 40 rfl (by grind) (fun v8 e_v8 => ?_)
        clear e_v8
        exact Sf.ok trivial
    · exact Sf.ok trivial
set_option maxHeartbeats 1000000 in
theorem sX7_holds {x0_shelf x0_rowSort x0_rowSize : (Nat → Int32)} {x0_rows : (Nat → Nat → Int64)} {x0_moved : (Nat → Int64)} {x0_shown x0_tape : (Nat → Int32)} {x0_tapeSize : Int32} {x0_refused : (Nat → Int32)} {x0_lines : Int32} {x0_line : (Nat → Nat → Int32)} {x0_changes x0_coins : (Nat → Int32)} {x0_goods : Int32} {x0_good : (Nat → Nat → Int32)} {x0_works : Int32} {x0_work : (Nat → Nat → Int32)} {x0_years x0_gone x0_spent x0_at x0_token x0_from : Int32} {x0_figures : Int64} {x0_fault : Int32} {x0_numbers : (Nat → Int32)} {x0_statements : Int32} {x0_left x0_far : (Nat → Int32)} {x0_tons : Int32} {x0_way : (Nat → Int32)} {x0_steps : Int32} {x0_met : Int64} {x0_queue x0_totals : (Nat → Int32)} {p1 : Int32}  (h_x0_shelf : (AI 0 2 x0_shelf)) (h_x0_rowSize : (AI 0 40 x0_rowSize)) (h_x0_tapeSize : (0 ≤ x0_tapeSize ∧ x0_tapeSize ≤ 250)) (h_x0_lines : (0 ≤ x0_lines ∧ x0_lines ≤ 20)) (h_x0_line : (LnM x0_line)) (h_x0_changes : (AI 0 99 x0_changes)) (h_x0_coins : (AI 0 9 x0_coins)) (h_x0_goods : (0 ≤ x0_goods ∧ x0_goods ≤ 8)) (h_x0_good : (GdM x0_good)) (h_x0_works : (0 ≤ x0_works ∧ x0_works ≤ 7)) (h_x0_work : (WkM x0_work)) (h_x0_years : (1 ≤ x0_years ∧ x0_years ≤ 30)) (h_x0_from : (0 ≤ x0_from ∧ x0_from ≤ 250)) (h_x0_far : (AI 0 1000000000 x0_far)) (h_x0_way : (AI 0 22 x0_way)) (h_x0_steps : (0 ≤ x0_steps ∧ x0_steps ≤ 37)) (h_x0_queue : (AI 0 35 x0_queue)) : Sf (fX7_holds (x0_shelf, x0_rowSort, x0_rowSize, x0_rows, x0_moved, x0_shown, x0_tape, x0_tapeSize, x0_refused, x0_lines, x0_line, x0_changes, x0_coins, x0_goods, x0_good, x0_works, x0_work, x0_years, x0_gone, x0_spent, x0_at, x0_token, x0_from, x0_figures, x0_fault, x0_numbers, x0_statements, x0_left, x0_far, x0_tons, x0_way, x0_steps, x0_met, x0_queue, x0_totals) p1) (fun r => True) := by
  unfold fX7_holds
  dsimp only [u35]
  refine Sf.bind (s_inq p1 0 7 (by decide) (by decide)) ?_
  intro v1 hr_v1
  refine Sf.ite (fun hc1 => ?_) (fun hc1 => ?_)
  · exact Sf.ok trivial
  · refine Sf.rdI 8 rfl h_x0_shelf (by grind) (fun v3 h_v3 e_v3 => ?_)
    refine Sf.ite (fun hc2 => ?_) (fun hc2 => ?_)
    · exact Sf.ok trivial
    · refine Sf.rdI 8 rfl h_x0_shelf (by grind) (fun v4 h_v4 e_v4 => ?_)
      have hs3 : v4 = v3 := e_v4.trans e_v3.symm
      clear e_v4
      refine Sf.ite (fun hc4 => ?_) (fun hc4 => ?_)
      · refine Sf.rdb 8 rfl (by grind) (fun v6 e_v6 => ?_)
        clear e_v6
        exact Sf.ok trivial
      · refine Sf.rdb 8 rfl (by grind) (fun v5 e_v5 => ?_)
        clear e_v5
        exact Sf.ok trivial
set_option maxHeartbeats 1000000 in
theorem sX7_show {x0_shelf x0_rowSort x0_rowSize : (Nat → Int32)} {x0_rows : (Nat → Nat → Int64)} {x0_moved : (Nat → Int64)} {x0_shown x0_tape : (Nat → Int32)} {x0_tapeSize : Int32} {x0_refused : (Nat → Int32)} {x0_lines : Int32} {x0_line : (Nat → Nat → Int32)} {x0_changes x0_coins : (Nat → Int32)} {x0_goods : Int32} {x0_good : (Nat → Nat → Int32)} {x0_works : Int32} {x0_work : (Nat → Nat → Int32)} {x0_years x0_gone x0_spent x0_at x0_token x0_from : Int32} {x0_figures : Int64} {x0_fault : Int32} {x0_numbers : (Nat → Int32)} {x0_statements : Int32} {x0_left x0_far : (Nat → Int32)} {x0_tons : Int32} {x0_way : (Nat → Int32)} {x0_steps : Int32} {x0_met : Int64} {x0_queue x0_totals : (Nat → Int32)} {p1 p2 : Int32}  (h_x0_shelf : (AI 0 2 x0_shelf)) (h_x0_rowSize : (AI 0 40 x0_rowSize)) (h_x0_tapeSize : (0 ≤ x0_tapeSize ∧ x0_tapeSize ≤ 250)) (h_x0_lines : (0 ≤ x0_lines ∧ x0_lines ≤ 20)) (h_x0_line : (LnM x0_line)) (h_x0_changes : (AI 0 99 x0_changes)) (h_x0_coins : (AI 0 9 x0_coins)) (h_x0_goods : (0 ≤ x0_goods ∧ x0_goods ≤ 8)) (h_x0_good : (GdM x0_good)) (h_x0_works : (0 ≤ x0_works ∧ x0_works ≤ 7)) (h_x0_work : (WkM x0_work)) (h_x0_years : (1 ≤ x0_years ∧ x0_years ≤ 30)) (h_x0_from : (0 ≤ x0_from ∧ x0_from ≤ 250)) (h_x0_far : (AI 0 1000000000 x0_far)) (h_x0_way : (AI 0 22 x0_way)) (h_x0_steps : (0 ≤ x0_steps ∧ x0_steps ≤ 37)) (h_x0_queue : (AI 0 35 x0_queue)) : Sf (fX7_show (x0_shelf, x0_rowSort, x0_rowSize, x0_rows, x0_moved, x0_shown, x0_tape, x0_tapeSize, x0_refused, x0_lines, x0_line, x0_changes, x0_coins, x0_goods, x0_good, x0_works, x0_work, x0_years, x0_gone, x0_spent, x0_at, x0_token, x0_from, x0_figures, x0_fault, x0_numbers, x0_statements, x0_left, x0_far, x0_tons, x0_way, x0_steps, x0_met, x0_queue, x0_totals) p1 p2) (fun r => (AI 0 2 r.2.1)) := by
  unfold fX7_show
  dsimp only [u35]
  refine Sf.bind (s_inq p1 0 7 (by decide) (by decide)) ?_
  intro v1 hr_v1
  refine Sf.ite (fun hc1 => ?_) (fun hc1 => ?_)
  · refine Sf.bind (sX7_refuse h_x0_shelf h_x0_rowSize h_x0_tapeSize h_x0_lines h_x0_line h_x0_changes h_x0_coins h_x0_goods h_x0_good h_x0_works h_x0_work h_x0_years h_x0_from h_x0_far h_x0_way h_x0_steps h_x0_queue (by decide)) ?_
    rintro ⟨v3, g4⟩ hr2
    have hx_v3 : (v3 = (-2)) := hr2
    dsimp only [u2]
    exact Sf.ok (show (AI 0 2 x0_shelf) from h_x0_shelf)
  · refine Sf.ite (fun hc3 => ?_) (fun hc3 => ?_)
    · unfold fX7_show_j32
      refine Sf.ite (fun hc4 => ?_) (fun hc4 => ?_)
      · unfold fX7_show_j47
        refine Sf.wrI 8 rfl h_x0_shelf (by grind) (by decide) (fun f7 h_f7 e_f7 => ?_)
        clear e_f7
        refine Sf.wrb 8 rfl (by grind) (fun f8 e_f8 => ?_)
        clear e_f8
        exact Sf.ok (show (AI 0 2 f7) from h_f7)
      · unfold fX7_show_j47
        refine Sf.wrI 8 rfl h_x0_shelf (by grind) (by decide) (fun f7 h_f7 e_f7 => ?_)
        clear e_f7
        refine Sf.wrb 8 rfl (by grind) (fun f8 e_f8 => ?_)
        clear e_f8
        exact Sf.ok (show (AI 0 2 f7) from h_f7)
    · refine Sf.bind (sX7_isWork h_x0_shelf h_x0_rowSize h_x0_tapeSize h_x0_lines h_x0_line h_x0_changes h_x0_coins h_x0_goods h_x0_good h_x0_works h_x0_work h_x0_years h_x0_from h_x0_far h_x0_way h_x0_steps h_x0_queue) ?_
      intro v9 hr5
      have hx_v9 : ((v9 = 1 ∧ 0 ≤ p2 ∧ p2 < x0_works) ∨ (v9 = 0 ∧ ¬ (0 ≤ p2 ∧ p2 < x0_works))) := hr5
      refine Sf.ite (fun hc6 => ?_) (fun hc6 => ?_)
      · refine Sf.bind (sX7_refuse h_x0_shelf h_x0_rowSize h_x0_tapeSize h_x0_lines h_x0_line h_x0_changes h_x0_coins h_x0_goods h_x0_good h_x0_works h_x0_work h_x0_years h_x0_from h_x0_far h_x0_way h_x0_steps h_x0_queue (by decide)) ?_
        rintro ⟨v11, g12⟩ hr7
        have hx_v11 : (v11 = (-2)) := hr7
        dsimp only [u2]
        exact Sf.ok (show (AI 0 2 x0_shelf) from h_x0_shelf)
      · unfold fX7_show_j32
        refine Sf.ite (fun hc8 => ?_) (fun hc8 => ?_)
        · unfold fX7_show_j47
          refine Sf.wrI 8 rfl h_x0_shelf (by grind) (by decide) (fun f7 h_f7 e_f7 => ?_)
          clear e_f7
          refine Sf.wrb 8 rfl (by grind) (fun f8 e_f8 => ?_)
          clear e_f8
          exact Sf.ok (show (AI 0 2 f7) from h_f7)
        · unfold fX7_show_j47
          refine Sf.wrI 8 rfl h_x0_shelf (by grind) (by decide) (fun f7 h_f7 e_f7 => ?_)
          clear e_f7
          refine Sf.wrb 8 rfl (by grind) (fun f8 e_f8 => ?_)
          clear e_f8
          exact Sf.ok (show (AI 0 2 f7) from h_f7)
set_option maxHeartbeats 1000000 in
theorem sX7_isUnder {p0 p1 : Int32}   : Sf (fX7_isUnder p0 p1) (fun r => True) := by
  unfold fX7_isUnder
  refine Sf.ite (fun hc1 => ?_) (fun hc1 => ?_)
  · exact Sf.ok trivial
  · refine Sf.ite (fun hc2 => ?_) (fun hc2 => ?_)
    · exact Sf.ok trivial
    · refine Sf.ite (fun hc3 => ?_) (fun hc3 => ?_)
      · refine Sf.ite (fun hc4 => ?_) (fun hc4 => ?_)
        · exact Sf.ok trivial
        · unfold fX7_isUnder_j19
          refine Sf.ite (fun hc5 => ?_) (fun hc5 => ?_)
          · refine Sf.ite (fun hc6 => ?_) (fun hc6 => ?_)
            · exact Sf.ok trivial
            · exact Sf.ok trivial
          · exact Sf.ok trivial
      · unfold fX7_isUnder_j19
        refine Sf.ite (fun hc7 => ?_) (fun hc7 => ?_)
        · refine Sf.ite (fun hc8 => ?_) (fun hc8 => ?_)
          · exact Sf.ok trivial
          · exact Sf.ok trivial
        · exact Sf.ok trivial
set_option maxHeartbeats 1000000 in
theorem sX7_newLine {x0_shelf x0_rowSort x0_rowSize : (Nat → Int32)} {x0_rows : (Nat → Nat → Int64)} {x0_moved : (Nat → Int64)} {x0_shown x0_tape : (Nat → Int32)} {x0_tapeSize : Int32} {x0_refused : (Nat → Int32)} {x0_lines : Int32} {x0_line : (Nat → Nat → Int32)} {x0_changes x0_coins : (Nat → Int32)} {x0_goods : Int32} {x0_good : (Nat → Nat → Int32)} {x0_works : Int32} {x0_work : (Nat → Nat → Int32)} {x0_years x0_gone x0_spent x0_at x0_token x0_from : Int32} {x0_figures : Int64} {x0_fault : Int32} {x0_numbers : (Nat → Int32)} {x0_statements : Int32} {x0_left x0_far : (Nat → Int32)} {x0_tons : Int32} {x0_way : (Nat → Int32)} {x0_steps : Int32} {x0_met : Int64} {x0_queue x0_totals : (Nat → Int32)} {p1 p2 : Int32}  (h_x0_shelf : (AI 0 2 x0_shelf)) (h_x0_rowSize : (AI 0 40 x0_rowSize)) (h_x0_tapeSize : (0 ≤ x0_tapeSize ∧ x0_tapeSize ≤ 250)) (h_x0_lines : (0 ≤ x0_lines ∧ x0_lines ≤ 20)) (h_x0_line : (LnM x0_line)) (h_x0_changes : (AI 0 99 x0_changes)) (h_x0_coins : (AI 0 9 x0_coins)) (h_x0_goods : (0 ≤ x0_goods ∧ x0_goods ≤ 8)) (h_x0_good : (GdM x0_good)) (h_x0_works : (0 ≤ x0_works ∧ x0_works ≤ 7)) (h_x0_work : (WkM x0_work)) (h_x0_years : (1 ≤ x0_years ∧ x0_years ≤ 30)) (h_x0_from : (0 ≤ x0_from ∧ x0_from ≤ 250)) (h_x0_far : (AI 0 1000000000 x0_far)) (h_x0_way : (AI 0 22 x0_way)) (h_x0_steps : (0 ≤ x0_steps ∧ x0_steps ≤ 37)) (h_x0_queue : (AI 0 35 x0_queue)) (h_p1 : (0 ≤ p1 ∧ p1 ≤ 11)) (h_p2 : (0 ≤ p2 ∧ p2 ≤ 11)) (he_0 : x0_lines < 20) : Sf (fX7_newLine (x0_shelf, x0_rowSort, x0_rowSize, x0_rows, x0_moved, x0_shown, x0_tape, x0_tapeSize, x0_refused, x0_lines, x0_line, x0_changes, x0_coins, x0_goods, x0_good, x0_works, x0_work, x0_years, x0_gone, x0_spent, x0_at, x0_token, x0_from, x0_figures, x0_fault, x0_numbers, x0_statements, x0_left, x0_far, x0_tons, x0_way, x0_steps, x0_met, x0_queue, x0_totals) p1 p2) (fun r => (LnM r)) := by
  unfold fX7_newLine
  dsimp only [u35]
  refine Sf.ckb 20 rfl (by grind) (fun q1 e_q1 h_q1 => ?_)
  refine Sf.wrl 0 rfl rfl (fun f2 e_f2 => ?_)
  have h_f2 : RI lnB f2 := by rw [e_f2]; exact RI.up (h_x0_line q1) (show 0 ≤ p1 ∧ p1 ≤ 11 from h_p1)
  clear e_f2
  refine Sf.wrl 1 rfl rfl (fun f3 e_f3 => ?_)
  have h_f3 : RI lnB f3 := by rw [e_f3]; exact RI.up ((GI.up h_x0_line h_f2) q1) (show 0 ≤ p2 ∧ p2 ≤ 11 from h_p2)
  clear e_f3
  refine Sf.wrl 2 rfl rfl (fun f4 e_f4 => ?_)
  have h_f4 : RI lnB f4 := by rw [e_f4]; exact RI.up ((GI.up (GI.up h_x0_line h_f2) h_f3) q1) (show 0 ≤ 7 ∧ 7 ≤ 7 from (by decide))
  clear e_f4
  refine Sf.wrl 3 rfl rfl (fun f5 e_f5 => ?_)
  have h_f5 : RI lnB f5 := by rw [e_f5]; exact RI.up ((GI.up (GI.up (GI.up h_x0_line h_f2) h_f3) h_f4) q1) (show 0 ≤ 10 ∧ 10 ≤ 60 from (by decide))
  clear e_f5
  refine Sf.wrl 4 rfl rfl (fun f6 e_f6 => ?_)
  have h_f6 : RI lnB f6 := by rw [e_f6]; exact RI.up ((GI.up (GI.up (GI.up (GI.up h_x0_line h_f2) h_f3) h_f4) h_f5) q1) (show 0 ≤ 999 ∧ 999 ≤ 999 from (by decide))
  clear e_f6
  refine Sf.wrl 5 rfl rfl (fun f7 e_f7 => ?_)
  have h_f7 : RI lnB f7 := by rw [e_f7]; exact RI.up ((GI.up (GI.up (GI.up (GI.up (GI.up h_x0_line h_f2) h_f3) h_f4) h_f5) h_f6) q1) (show 0 ≤ 0 ∧ 0 ≤ 5 from (by decide))
  clear e_f7
  refine Sf.wrl 6 rfl rfl (fun f8 e_f8 => ?_)
  have h_f8 : RI lnB f8 := by rw [e_f8]; exact RI.up ((GI.up (GI.up (GI.up (GI.up (GI.up (GI.up h_x0_line h_f2) h_f3) h_f4) h_f5) h_f6) h_f7) q1) (show 0 ≤ 0 ∧ 0 ≤ 1 from (by decide))
  clear e_f8
  exact Sf.ok (show (LnM (va_up (va_up (va_up (va_up (va_up (va_up (va_up x0_line q1 f2) q1 f3) q1 f4) q1 f5) q1 f6) q1 f7) q1 f8)) from (GI.up (GI.up (GI.up (GI.up (GI.up (GI.up (GI.up h_x0_line h_f2) h_f3) h_f4) h_f5) h_f6) h_f7) h_f8))
set_option maxHeartbeats 1000000 in
theorem sX7_line {x0_shelf x0_rowSort x0_rowSize : (Nat → Int32)} {x0_rows : (Nat → Nat → Int64)} {x0_moved : (Nat → Int64)} {x0_shown x0_tape : (Nat → Int32)} {x0_tapeSize : Int32} {x0_refused : (Nat → Int32)} {x0_lines : Int32} {x0_line : (Nat → Nat → Int32)} {x0_changes x0_coins : (Nat → Int32)} {x0_goods : Int32} {x0_good : (Nat → Nat → Int32)} {x0_works : Int32} {x0_work : (Nat → Nat → Int32)} {x0_years x0_gone x0_spent x0_at x0_token x0_from : Int32} {x0_figures : Int64} {x0_fault : Int32} {x0_numbers : (Nat → Int32)} {x0_statements : Int32} {x0_left x0_far : (Nat → Int32)} {x0_tons : Int32} {x0_way : (Nat → Int32)} {x0_steps : Int32} {x0_met : Int64} {x0_queue x0_totals : (Nat → Int32)} {p1 p2 p3 p4 p5 p6 : Int32}  (h_x0_shelf : (AI 0 2 x0_shelf)) (h_x0_rowSize : (AI 0 40 x0_rowSize)) (h_x0_tapeSize : (0 ≤ x0_tapeSize ∧ x0_tapeSize ≤ 250)) (h_x0_lines : (0 ≤ x0_lines ∧ x0_lines ≤ 20)) (h_x0_line : (LnM x0_line)) (h_x0_changes : (AI 0 99 x0_changes)) (h_x0_coins : (AI 0 9 x0_coins)) (h_x0_goods : (0 ≤ x0_goods ∧ x0_goods ≤ 8)) (h_x0_good : (GdM x0_good)) (h_x0_works : (0 ≤ x0_works ∧ x0_works ≤ 7)) (h_x0_work : (WkM x0_work)) (h_x0_years : (1 ≤ x0_years ∧ x0_years ≤ 30)) (h_x0_from : (0 ≤ x0_from ∧ x0_from ≤ 250)) (h_x0_far : (AI 0 1000000000 x0_far)) (h_x0_way : (AI 0 22 x0_way)) (h_x0_steps : (0 ≤ x0_steps ∧ x0_steps ≤ 37)) (h_x0_queue : (AI 0 35 x0_queue)) : Sf (fX7_line (x0_shelf, x0_rowSort, x0_rowSize, x0_rows, x0_moved, x0_shown, x0_tape, x0_tapeSize, x0_refused, x0_lines, x0_line, x0_changes, x0_coins, x0_goods, x0_good, x0_works, x0_work, x0_years, x0_gone, x0_spent, x0_at, x0_token, x0_from, x0_figures, x0_fault, x0_numbers, x0_statements, x0_left, x0_far, x0_tons, x0_way, x0_steps, x0_met, x0_queue, x0_totals) p1 p2 p3 p4 p5 p6) (fun r => (0 ≤ r.2.2.1 ∧ r.2.2.1 ≤ 20) ∧ (LnM r.2.2.2)) := by
  unfold fX7_line
  dsimp only [u35]
  refine Sf.bind (sX7_isPlace ) ?_
  intro v1 hr1
  have hx_v1 : ((v1 = 1 ∧ 0 ≤ p1 ∧ p1 ≤ 11) ∨ (v1 = 0 ∧ (p1 < 0 ∨ 11 < p1))) := hr1
  refine Sf.ite (fun hc2 => ?_) (fun hc2 => ?_)
  · unfold fX7_line_j48
    unfold fX7_line_j49
    refine Sf.ite (fun hc3 => ?_) (fun hc3 => absurd (by decide) hc3)
    refine Sf.bind (sX7_refuse h_x0_shelf h_x0_rowSize h_x0_tapeSize h_x0_lines h_x0_line h_x0_changes h_x0_coins h_x0_goods h_x0_good h_x0_works h_x0_work h_x0_years h_x0_from h_x0_far h_x0_way h_x0_steps h_x0_queue (by decide)) ?_
    rintro ⟨v4, g5⟩ hr4
    have hx_v4 : (v4 = (-2)) := hr4
    dsimp only [u2]
    exact Sf.ok (show (0 ≤ x0_lines ∧ x0_lines ≤ 20) ∧ (LnM x0_line) from ⟨h_x0_lines, h_x0_line⟩)
  · refine Sf.bind (sX7_isPlace ) ?_
    intro v30 hr5
    have hx_v30 : ((v30 = 1 ∧ 0 ≤ p2 ∧ p2 ≤ 11) ∨ (v30 = 0 ∧ (p2 < 0 ∨ 11 < p2))) := hr5
    refine Sf.ite (fun hc6 => ?_) (fun hc6 => ?_)
    · unfold fX7_line_j48
      unfold fX7_line_j49
      refine Sf.ite (fun hc7 => ?_) (fun hc7 => absurd (by decide) hc7)
      refine Sf.bind (sX7_refuse h_x0_shelf h_x0_rowSize h_x0_tapeSize h_x0_lines h_x0_line h_x0_changes h_x0_coins h_x0_goods h_x0_good h_x0_works h_x0_work h_x0_years h_x0_from h_x0_far h_x0_way h_x0_steps h_x0_queue (by decide)) ?_
      rintro ⟨v4, g5⟩ hr8
      have hx_v4 : (v4 = (-2)) := hr8
      dsimp only [u2]
      exact Sf.ok (show (0 ≤ x0_lines ∧ x0_lines ≤ 20) ∧ (LnM x0_line) from ⟨h_x0_lines, h_x0_line⟩)
    · refine Sf.ite (fun hc9 => ?_) (fun hc9 => ?_)
      · unfold fX7_line_j48
        unfold fX7_line_j49
        refine Sf.ite (fun hc10 => ?_) (fun hc10 => absurd (by decide) hc10)
        refine Sf.bind (sX7_refuse h_x0_shelf h_x0_rowSize h_x0_tapeSize h_x0_lines h_x0_line h_x0_changes h_x0_coins h_x0_goods h_x0_good h_x0_works h_x0_work h_x0_years h_x0_from h_x0_far h_x0_way h_x0_steps h_x0_queue (by decide)) ?_
        rintro ⟨v4, g5⟩ hr11
        have hx_v4 : (v4 = (-2)) := hr11
        dsimp only [u2]
        exact Sf.ok (show (0 ≤ x0_lines ∧ x0_lines ≤ 20) ∧ (LnM x0_line) from ⟨h_x0_lines, h_x0_line⟩)
      · refine Sf.bind (s_inq p3 1 7 (by decide) (by decide)) ?_
        intro v32 hr_v32
        refine Sf.ite (fun hc12 => ?_) (fun hc12 => ?_)
        · unfold fX7_line_j48
          unfold fX7_line_j49
          refine Sf.ite (fun hc13 => ?_) (fun hc13 => absurd (by decide) hc13)
          refine Sf.bind (sX7_refuse h_x0_shelf h_x0_rowSize h_x0_tapeSize h_x0_lines h_x0_line h_x0_changes h_x0_coins h_x0_goods h_x0_good h_x0_works h_x0_work h_x0_years h_x0_from h_x0_far h_x0_way h_x0_steps h_x0_queue (by decide)) ?_
          rintro ⟨v4, g5⟩ hr14
          have hx_v4 : (v4 = (-2)) := hr14
          dsimp only [u2]
          exact Sf.ok (show (0 ≤ x0_lines ∧ x0_lines ≤ 20) ∧ (LnM x0_line) from ⟨h_x0_lines, h_x0_line⟩)
        · refine Sf.bind (s_inq p4 1 60 (by decide) (by decide)) ?_
          intro v34 hr_v34
          refine Sf.ite (fun hc15 => ?_) (fun hc15 => ?_)
          · unfold fX7_line_j48
            unfold fX7_line_j49
            refine Sf.ite (fun hc16 => ?_) (fun hc16 => absurd (by decide) hc16)
            refine Sf.bind (sX7_refuse h_x0_shelf h_x0_rowSize h_x0_tapeSize h_x0_lines h_x0_line h_x0_changes h_x0_coins h_x0_goods h_x0_good h_x0_works h_x0_work h_x0_years h_x0_from h_x0_far h_x0_way h_x0_steps h_x0_queue (by decide)) ?_
            rintro ⟨v4, g5⟩ hr17
            have hx_v4 : (v4 = (-2)) := hr17
            dsimp only [u2]
            exact Sf.ok (show (0 ≤ x0_lines ∧ x0_lines ≤ 20) ∧ (LnM x0_line) from ⟨h_x0_lines, h_x0_line⟩)
          · unfold fX7_line_j49
            refine Sf.ite (fun hc18 => absurd hc18 (by decide)) (fun hc18 => ?_)
            refine Sf.bind (s_inq p5 1 999 (by decide) (by decide)) ?_
            intro v7 hr_v7
            refine Sf.ite (fun hc19 => ?_) (fun hc19 => ?_)
            · refine Sf.bind (sX7_refuse h_x0_shelf h_x0_rowSize h_x0_tapeSize h_x0_lines h_x0_line h_x0_changes h_x0_coins h_x0_goods h_x0_good h_x0_works h_x0_work h_x0_years h_x0_from h_x0_far h_x0_way h_x0_steps h_x0_queue (by decide)) ?_
              rintro ⟨v9, g10⟩ hr20
              have hx_v9 : (v9 = (-2)) := hr20
              dsimp only [u2]
              exact Sf.ok (show (0 ≤ x0_lines ∧ x0_lines ≤ 20) ∧ (LnM x0_line) from ⟨h_x0_lines, h_x0_line⟩)
            · refine Sf.bind (s_inq p6 0 5 (by decide) (by decide)) ?_
              intro v12 hr_v12
              refine Sf.ite (fun hc21 => ?_) (fun hc21 => ?_)
              · refine Sf.bind (sX7_refuse h_x0_shelf h_x0_rowSize h_x0_tapeSize h_x0_lines h_x0_line h_x0_changes h_x0_coins h_x0_goods h_x0_good h_x0_works h_x0_work h_x0_years h_x0_from h_x0_far h_x0_way h_x0_steps h_x0_queue (by decide)) ?_
                rintro ⟨v27, g28⟩ hr22
                have hx_v27 : (v27 = (-2)) := hr22
                dsimp only [u2]
                exact Sf.ok (show (0 ≤ x0_lines ∧ x0_lines ≤ 20) ∧ (LnM x0_line) from ⟨h_x0_lines, h_x0_line⟩)
              · refine Sf.ite (fun hc23 => ?_) (fun hc23 => ?_)
                · refine Sf.bind (sX7_refuse h_x0_shelf h_x0_rowSize h_x0_tapeSize h_x0_lines h_x0_line h_x0_changes h_x0_coins h_x0_goods h_x0_good h_x0_works h_x0_work h_x0_years h_x0_from h_x0_far h_x0_way h_x0_steps h_x0_queue (by decide)) ?_
                  rintro ⟨v24, g25⟩ hr24
                  have hx_v24 : (v24 = (-6)) := hr24
                  dsimp only [u2]
                  exact Sf.ok (show (0 ≤ x0_lines ∧ x0_lines ≤ 20) ∧ (LnM x0_line) from ⟨h_x0_lines, h_x0_line⟩)
                · refine Sf.bind (sX7_newLine h_x0_shelf h_x0_rowSize h_x0_tapeSize h_x0_lines h_x0_line h_x0_changes h_x0_coins h_x0_goods h_x0_good h_x0_works h_x0_work h_x0_years h_x0_from h_x0_far h_x0_way h_x0_steps h_x0_queue (by grind) (by grind) (by grind)) ?_
                  intro g14 hr25
                  have h_g14 : (LnM g14) := hr25
                  refine Sf.ckb 20 rfl (by grind) (fun q16 e_q16 h_q16 => ?_)
                  refine Sf.wrl 2 rfl rfl (fun f17 e_f17 => ?_)
                  have h_f17 : RI lnB f17 := by rw [e_f17]; exact RI.up (h_g14 q16) (show 0 ≤ p3 ∧ p3 ≤ 7 from (by grind))
                  clear e_f17
                  refine Sf.ckb 20 rfl (by grind) (fun q18 e_q18 h_q18 => ?_)
                  refine Sf.wrl 3 rfl rfl (fun f19 e_f19 => ?_)
                  have h_f19 : RI lnB f19 := by rw [e_f19]; exact RI.up ((GI.up h_g14 h_f17) q18) (show 0 ≤ p4 ∧ p4 ≤ 60 from (by grind))
                  clear e_f19
                  refine Sf.ckb 20 rfl (by grind) (fun q20 e_q20 h_q20 => ?_)
                  refine Sf.wrl 4 rfl rfl (fun f21 e_f21 => ?_)
                  have h_f21 : RI lnB f21 := by rw [e_f21]; exact RI.up ((GI.up (GI.up h_g14 h_f17) h_f19) q20) (show 0 ≤ p5 ∧ p5 ≤ 999 from (by grind))
                  clear e_f21
                  refine Sf.ckb 20 rfl (by grind) (fun q22 e_q22 h_q22 => ?_)
                  refine Sf.wrl 5 rfl rfl (fun f23 e_f23 => ?_)
                  have h_f23 : RI lnB f23 := by rw [e_f23]; exact RI.up ((GI.up (GI.up (GI.up h_g14 h_f17) h_f19) h_f21) q22) (show 0 ≤ p6 ∧ p6 ≤ 5 from (by grind))
                  clear e_f23
                  exact Sf.ok (show (0 ≤ (x0_lines + 1) ∧ (x0_lines + 1) ≤ 20) ∧ (LnM (va_up (va_up (va_up (va_up g14 q16 f17) q18 f19) q20 f21) q22 f23)) from ⟨(by grind), (GI.up (GI.up (GI.up (GI.up h_g14 h_f17) h_f19) h_f21) h_f23)⟩)
set_option maxHeartbeats 1000000 in
theorem sX7_goods {x0_shelf x0_rowSort x0_rowSize : (Nat → Int32)} {x0_rows : (Nat → Nat → Int64)} {x0_moved : (Nat → Int64)} {x0_shown x0_tape : (Nat → Int32)} {x0_tapeSize : Int32} {x0_refused : (Nat → Int32)} {x0_lines : Int32} {x0_line : (Nat → Nat → Int32)} {x0_changes x0_coins : (Nat → Int32)} {x0_goods : Int32} {x0_good : (Nat → Nat → Int32)} {x0_works : Int32} {x0_work : (Nat → Nat → Int32)} {x0_years x0_gone x0_spent x0_at x0_token x0_from : Int32} {x0_figures : Int64} {x0_fault : Int32} {x0_numbers : (Nat → Int32)} {x0_statements : Int32} {x0_left x0_far : (Nat → Int32)} {x0_tons : Int32} {x0_way : (Nat → Int32)} {x0_steps : Int32} {x0_met : Int64} {x0_queue x0_totals : (Nat → Int32)} {p1 p2 p3 : Int32}  (h_x0_shelf : (AI 0 2 x0_shelf)) (h_x0_rowSize : (AI 0 40 x0_rowSize)) (h_x0_tapeSize : (0 ≤ x0_tapeSize ∧ x0_tapeSize ≤ 250)) (h_x0_lines : (0 ≤ x0_lines ∧ x0_lines ≤ 20)) (h_x0_line : (LnM x0_line)) (h_x0_changes : (AI 0 99 x0_changes)) (h_x0_coins : (AI 0 9 x0_coins)) (h_x0_goods : (0 ≤ x0_goods ∧ x0_goods ≤ 8)) (h_x0_good : (GdM x0_good)) (h_x0_works : (0 ≤ x0_works ∧ x0_works ≤ 7)) (h_x0_work : (WkM x0_work)) (h_x0_years : (1 ≤ x0_years ∧ x0_years ≤ 30)) (h_x0_from : (0 ≤ x0_from ∧ x0_from ≤ 250)) (h_x0_far : (AI 0 1000000000 x0_far)) (h_x0_way : (AI 0 22 x0_way)) (h_x0_steps : (0 ≤ x0_steps ∧ x0_steps ≤ 37)) (h_x0_queue : (AI 0 35 x0_queue)) : Sf (fX7_goods (x0_shelf, x0_rowSort, x0_rowSize, x0_rows, x0_moved, x0_shown, x0_tape, x0_tapeSize, x0_refused, x0_lines, x0_line, x0_changes, x0_coins, x0_goods, x0_good, x0_works, x0_work, x0_years, x0_gone, x0_spent, x0_at, x0_token, x0_from, x0_figures, x0_fault, x0_numbers, x0_statements, x0_left, x0_far, x0_tons, x0_way, x0_steps, x0_met, x0_queue, x0_totals) p1 p2 p3) (fun r => (0 ≤ r.2.2.1 ∧ r.2.2.1 ≤ 8) ∧ (GdM r.2.2.2)) := by
  unfold fX7_goods
  dsimp only [u35]
  refine Sf.bind (sX7_isPlace ) ?_
  intro v1 hr1
  have hx_v1 : ((v1 = 1 ∧ 0 ≤ p1 ∧ p1 ≤ 11) ∨ (v1 = 0 ∧ (p1 < 0 ∨ 11 < p1))) := hr1
  refine Sf.ite (fun hc2 => ?_) (fun hc2 => ?_)
  · refine Sf.bind (sX7_refuse h_x0_shelf h_x0_rowSize h_x0_tapeSize h_x0_lines h_x0_line h_x0_changes h_x0_coins h_x0_goods h_x0_good h_x0_works h_x0_work h_x0_years h_x0_from h_x0_far h_x0_way h_x0_steps h_x0_queue (by decide)) ?_
    rintro ⟨v3, g4⟩ hr3
    have hx_v3 : (v3 = (-2)) := hr3
    dsimp only [u2]
    exact Sf.ok (show (0 ≤ x0_goods ∧ x0_goods ≤ 8) ∧ (GdM x0_good) from ⟨h_x0_goods, h_x0_good⟩)
  · refine Sf.bind (sX7_isPlace ) ?_
    intro v6 hr4
    have hx_v6 : ((v6 = 1 ∧ 0 ≤ p2 ∧ p2 ≤ 11) ∨ (v6 = 0 ∧ (p2 < 0 ∨ 11 < p2))) := hr4
    refine Sf.ite (fun hc5 => ?_) (fun hc5 => ?_)
    · refine Sf.bind (sX7_refuse h_x0_shelf h_x0_rowSize h_x0_tapeSize h_x0_lines h_x0_line h_x0_changes h_x0_coins h_x0_goods h_x0_good h_x0_works h_x0_work h_x0_years h_x0_from h_x0_far h_x0_way h_x0_steps h_x0_queue (by decide)) ?_
      rintro ⟨v8, g9⟩ hr6
      have hx_v8 : (v8 = (-2)) := hr6
      dsimp only [u2]
      exact Sf.ok (show (0 ≤ x0_goods ∧ x0_goods ≤ 8) ∧ (GdM x0_good) from ⟨h_x0_goods, h_x0_good⟩)
    · refine Sf.ite (fun hc7 => ?_) (fun hc7 => ?_)
      · refine Sf.bind (sX7_refuse h_x0_shelf h_x0_rowSize h_x0_tapeSize h_x0_lines h_x0_line h_x0_changes h_x0_coins h_x0_goods h_x0_good h_x0_works h_x0_work h_x0_years h_x0_from h_x0_far h_x0_way h_x0_steps h_x0_queue (by decide)) ?_
        rintro ⟨v11, g12⟩ hr8
        have hx_v11 : (v11 = (-2)) := hr8
        dsimp only [u2]
        exact Sf.ok (show (0 ≤ x0_goods ∧ x0_goods ≤ 8) ∧ (GdM x0_good) from ⟨h_x0_goods, h_x0_good⟩)
      · refine Sf.bind (s_inq p3 1 99 (by decide) (by decide)) ?_
        intro v14 hr_v14
        refine Sf.ite (fun hc9 => ?_) (fun hc9 => ?_)
        · refine Sf.bind (sX7_refuse h_x0_shelf h_x0_rowSize h_x0_tapeSize h_x0_lines h_x0_line h_x0_changes h_x0_coins h_x0_goods h_x0_good h_x0_works h_x0_work h_x0_years h_x0_from h_x0_far h_x0_way h_x0_steps h_x0_queue (by decide)) ?_
          rintro ⟨v25, g26⟩ hr10
          have hx_v25 : (v25 = (-2)) := hr10
          dsimp only [u2]
          exact Sf.ok (show (0 ≤ x0_goods ∧ x0_goods ≤ 8) ∧ (GdM x0_good) from ⟨h_x0_goods, h_x0_good⟩)
        · refine Sf.ite (fun hc11 => ?_) (fun hc11 => ?_)
          · refine Sf.bind (sX7_refuse h_x0_shelf h_x0_rowSize h_x0_tapeSize h_x0_lines h_x0_line h_x0_changes h_x0_coins h_x0_goods h_x0_good h_x0_works h_x0_work h_x0_years h_x0_from h_x0_far h_x0_way h_x0_steps h_x0_queue (by decide)) ?_
            rintro ⟨v22, g23⟩ hr12
            have hx_v22 : (v22 = (-6)) := hr12
            dsimp only [u2]
            exact Sf.ok (show (0 ≤ x0_goods ∧ x0_goods ≤ 8) ∧ (GdM x0_good) from ⟨h_x0_goods, h_x0_good⟩)
          · refine Sf.ckb 8 rfl (by grind) (fun q16 e_q16 h_q16 => ?_)
            refine Sf.wrl 0 rfl rfl (fun f17 e_f17 => ?_)
            have h_f17 : RI gdB f17 := by rw [e_f17]; exact RI.up (h_x0_good q16) (show 0 ≤ p1 ∧ p1 ≤ 11 from (by grind))
            clear e_f17
            refine Sf.ckb 8 rfl (by grind) (fun q18 e_q18 h_q18 => ?_)
            refine Sf.wrl 1 rfl rfl (fun f19 e_f19 => ?_)
            have h_f19 : RI gdB f19 := by rw [e_f19]; exact RI.up ((GI.up h_x0_good h_f17) q18) (show 0 ≤ p2 ∧ p2 ≤ 11 from (by grind))
            clear e_f19
            refine Sf.ckb 8 rfl (by grind) (fun q20 e_q20 h_q20 => ?_)
            refine Sf.wrl 2 rfl rfl (fun f21 e_f21 => ?_)
            have h_f21 : RI gdB f21 := by rw [e_f21]; exact RI.up ((GI.up (GI.up h_x0_good h_f17) h_f19) q20) (show 0 ≤ p3 ∧ p3 ≤ 99 from (by grind))
            clear e_f21
            exact Sf.ok (show (0 ≤ (x0_goods + 1) ∧ (x0_goods + 1) ≤ 8) ∧ (GdM (va_up (va_up (va_up x0_good q16 f17) q18 f19) q20 f21)) from ⟨(by grind), (GI.up (GI.up (GI.up h_x0_good h_f17) h_f19) h_f21)⟩)
set_option maxHeartbeats 1000000 in
theorem sX7_mayBeFirst {x0_shelf x0_rowSort x0_rowSize : (Nat → Int32)} {x0_rows : (Nat → Nat → Int64)} {x0_moved : (Nat → Int64)} {x0_shown x0_tape : (Nat → Int32)} {x0_tapeSize : Int32} {x0_refused : (Nat → Int32)} {x0_lines : Int32} {x0_line : (Nat → Nat → Int32)} {x0_changes x0_coins : (Nat → Int32)} {x0_goods : Int32} {x0_good : (Nat → Nat → Int32)} {x0_works : Int32} {x0_work : (Nat → Nat → Int32)} {x0_years x0_gone x0_spent x0_at x0_token x0_from : Int32} {x0_figures : Int64} {x0_fault : Int32} {x0_numbers : (Nat → Int32)} {x0_statements : Int32} {x0_left x0_far : (Nat → Int32)} {x0_tons : Int32} {x0_way : (Nat → Int32)} {x0_steps : Int32} {x0_met : Int64} {x0_queue x0_totals : (Nat → Int32)} {p1 p2 : Int32}  (h_x0_shelf : (AI 0 2 x0_shelf)) (h_x0_rowSize : (AI 0 40 x0_rowSize)) (h_x0_tapeSize : (0 ≤ x0_tapeSize ∧ x0_tapeSize ≤ 250)) (h_x0_lines : (0 ≤ x0_lines ∧ x0_lines ≤ 20)) (h_x0_line : (LnM x0_line)) (h_x0_changes : (AI 0 99 x0_changes)) (h_x0_coins : (AI 0 9 x0_coins)) (h_x0_goods : (0 ≤ x0_goods ∧ x0_goods ≤ 8)) (h_x0_good : (GdM x0_good)) (h_x0_works : (0 ≤ x0_works ∧ x0_works ≤ 7)) (h_x0_work : (WkM x0_work)) (h_x0_years : (1 ≤ x0_years ∧ x0_years ≤ 30)) (h_x0_from : (0 ≤ x0_from ∧ x0_from ≤ 250)) (h_x0_far : (AI 0 1000000000 x0_far)) (h_x0_way : (AI 0 22 x0_way)) (h_x0_steps : (0 ≤ x0_steps ∧ x0_steps ≤ 37)) (h_x0_queue : (AI 0 35 x0_queue)) : Sf (fX7_mayBeFirst (x0_shelf, x0_rowSort, x0_rowSize, x0_rows, x0_moved, x0_shown, x0_tape, x0_tapeSize, x0_refused, x0_lines, x0_line, x0_changes, x0_coins, x0_goods, x0_good, x0_works, x0_work, x0_years, x0_gone, x0_spent, x0_at, x0_token, x0_from, x0_figures, x0_fault, x0_numbers, x0_statements, x0_left, x0_far, x0_tons, x0_way, x0_steps, x0_met, x0_queue, x0_totals) p1 p2) (fun r => (0 ≤ r ∧ r ≤ 1) ∧ (r = 0 ∨ (0 ≤ p2 ∧ p2 ≤ 19 ∧ (p1 = 1 ∨ p1 = 2 ∨ p2 ≤ 11)))) := by
  unfold fX7_mayBeFirst
  dsimp only [u35]
  refine Sf.ite (fun hc1 => ?_) (fun hc1 => ?_)
  · refine Sf.bind (sX7_isLine h_x0_shelf h_x0_rowSize h_x0_tapeSize h_x0_lines h_x0_line h_x0_changes h_x0_coins h_x0_goods h_x0_good h_x0_works h_x0_work h_x0_years h_x0_from h_x0_far h_x0_way h_x0_steps h_x0_queue) ?_
    intro v1 hr2
    have hx_v1 : ((v1 = 1 ∧ 0 ≤ p2 ∧ p2 < x0_lines) ∨ (v1 = 0 ∧ ¬ (0 ≤ p2 ∧ p2 < x0_lines))) := hr2
    refine Sf.zbb (by grind) (fun v3 e_v3 => ?_)
    exact Sf.ok (show (0 ≤ v3 ∧ v3 ≤ 1) ∧ (v3 = 0 ∨ (0 ≤ p2 ∧ p2 ≤ 19 ∧ (p1 = 1 ∨ p1 = 2 ∨ p2 ≤ 11))) from ⟨(by grind), (by grind)⟩)
  · refine Sf.ite (fun hc3 => ?_) (fun hc3 => ?_)
    · refine Sf.bind (sX7_isLine h_x0_shelf h_x0_rowSize h_x0_tapeSize h_x0_lines h_x0_line h_x0_changes h_x0_coins h_x0_goods h_x0_good h_x0_works h_x0_work h_x0_years h_x0_from h_x0_far h_x0_way h_x0_steps h_x0_queue) ?_
      intro v7 hr4
      have hx_v7 : ((v7 = 1 ∧ 0 ≤ p2 ∧ p2 < x0_lines) ∨ (v7 = 0 ∧ ¬ (0 ≤ p2 ∧ p2 < x0_lines))) := hr4
      refine Sf.zbb (by grind) (fun v9 e_v9 => ?_)
      exact Sf.ok (show (0 ≤ v9 ∧ v9 ≤ 1) ∧ (v9 = 0 ∨ (0 ≤ p2 ∧ p2 ≤ 19 ∧ (p1 = 1 ∨ p1 = 2 ∨ p2 ≤ 11))) from ⟨(by grind), (by grind)⟩)
    · refine Sf.bind (sX7_isPlace ) ?_
      intro v4 hr5
      have hx_v4 : ((v4 = 1 ∧ 0 ≤ p2 ∧ p2 ≤ 11) ∨ (v4 = 0 ∧ (p2 < 0 ∨ 11 < p2))) := hr5
      refine Sf.zbb (by grind) (fun v6 e_v6 => ?_)
      exact Sf.ok (show (0 ≤ v6 ∧ v6 ≤ 1) ∧ (v6 = 0 ∨ (0 ≤ p2 ∧ p2 ≤ 19 ∧ (p1 = 1 ∨ p1 = 2 ∨ p2 ≤ 11))) from ⟨(by grind), (by grind)⟩)
set_option maxHeartbeats 1000000 in
theorem sX7_mayBeSecond {p1 p2 p3 : Int32}   : Sf (fX7_mayBeSecond p1 p2 p3) (fun r => (0 ≤ r ∧ r ≤ 1) ∧ (r = 0 ∨ (0 ≤ p3 ∧ p3 ≤ 99 ∧ (p1 = 1 ∨ p1 = 2 → p3 ≤ 2) ∧ (p1 = 1 ∨ p1 = 2 ∨ p1 = 3 ∨ p3 ≤ 11)))) := by
  unfold fX7_mayBeSecond
  refine Sf.ite (fun hc1 => ?_) (fun hc1 => ?_)
  · unfold fX7_mayBeSecond_j10
    refine Sf.bind (s_inq p3 0 2 (by decide) (by decide)) ?_
    intro v1 hr_v1
    refine Sf.zbb (by grind) (fun v3 e_v3 => ?_)
    exact Sf.ok (show (0 ≤ v3 ∧ v3 ≤ 1) ∧ (v3 = 0 ∨ (0 ≤ p3 ∧ p3 ≤ 99 ∧ (p1 = 1 ∨ p1 = 2 → p3 ≤ 2) ∧ (p1 = 1 ∨ p1 = 2 ∨ p1 = 3 ∨ p3 ≤ 11))) from ⟨(by grind), (by grind)⟩)
  · refine Sf.ite (fun hc2 => ?_) (fun hc2 => ?_)
    · unfold fX7_mayBeSecond_j10
      refine Sf.bind (s_inq p3 0 2 (by decide) (by decide)) ?_
      intro v1 hr_v1
      refine Sf.zbb (by grind) (fun v3 e_v3 => ?_)
      exact Sf.ok (show (0 ≤ v3 ∧ v3 ≤ 1) ∧ (v3 = 0 ∨ (0 ≤ p3 ∧ p3 ≤ 99 ∧ (p1 = 1 ∨ p1 = 2 → p3 ≤ 2) ∧ (p1 = 1 ∨ p1 = 2 ∨ p1 = 3 ∨ p3 ≤ 11))) from ⟨(by grind), (by grind)⟩)
    · refine Sf.ite (fun hc3 => ?_) (fun hc3 => ?_)
      · refine Sf.bind (s_inq p3 0 99 (by decide) (by decide)) ?_
        intro v6 hr_v6
        refine Sf.zbb (by grind) (fun v8 e_v8 => ?_)
        exact Sf.ok (show (0 ≤ v8 ∧ v8 ≤ 1) ∧ (v8 = 0 ∨ (0 ≤ p3 ∧ p3 ≤ 99 ∧ (p1 = 1 ∨ p1 = 2 → p3 ≤ 2) ∧ (p1 = 1 ∨ p1 = 2 ∨ p1 = 3 ∨ p3 ≤ 11))) from ⟨(by grind), (by grind)⟩)
      · refine Sf.bind (sX7_isPlace ) ?_
        intro v4 hr4
        have hx_v4 : ((v4 = 1 ∧ 0 ≤ p3 ∧ p3 ≤ 11) ∨ (v4 = 0 ∧ (p3 < 0 ∨ 11 < p3))) := hr4
        refine Sf.ite (fun hc5 => ?_) (fun hc5 => ?_)
        · exact Sf.ok (show (0 ≤ 0 ∧ 0 ≤ 1) ∧ (0 = 0 ∨ (0 ≤ p3 ∧ p3 ≤ 99 ∧ (p1 = 1 ∨ p1 = 2 → p3 ≤ 2) ∧ (p1 = 1 ∨ p1 = 2 ∨ p1 = 3 ∨ p3 ≤ 11))) from ⟨(by decide), (by grind)⟩)
        · refine Sf.ite (fun hc6 => ?_) (fun hc6 => ?_)
          · exact Sf.ok (show (0 ≤ 0 ∧ 0 ≤ 1) ∧ (0 = 0 ∨ (0 ≤ p3 ∧ p3 ≤ 99 ∧ (p1 = 1 ∨ p1 = 2 → p3 ≤ 2) ∧ (p1 = 1 ∨ p1 = 2 ∨ p1 = 3 ∨ p3 ≤ 11))) from ⟨(by decide), (by grind)⟩)
          · exact Sf.ok (show (0 ≤ 1 ∧ 1 ≤ 1) ∧ (1 = 0 ∨ (0 ≤ p3 ∧ p3 ≤ 99 ∧ (p1 = 1 ∨ p1 = 2 → p3 ≤ 2) ∧ (p1 = 1 ∨ p1 = 2 ∨ p1 = 3 ∨ p3 ≤ 11))) from ⟨(by decide), (by grind)⟩)
set_option maxHeartbeats 1000000 in
theorem sX7_change {x0_shelf x0_rowSort x0_rowSize : (Nat → Int32)} {x0_rows : (Nat → Nat → Int64)} {x0_moved : (Nat → Int64)} {x0_shown x0_tape : (Nat → Int32)} {x0_tapeSize : Int32} {x0_refused : (Nat → Int32)} {x0_lines : Int32} {x0_line : (Nat → Nat → Int32)} {x0_changes x0_coins : (Nat → Int32)} {x0_goods : Int32} {x0_good : (Nat → Nat → Int32)} {x0_works : Int32} {x0_work : (Nat → Nat → Int32)} {x0_years x0_gone x0_spent x0_at x0_token x0_from : Int32} {x0_figures : Int64} {x0_fault : Int32} {x0_numbers : (Nat → Int32)} {x0_statements : Int32} {x0_left x0_far : (Nat → Int32)} {x0_tons : Int32} {x0_way : (Nat → Int32)} {x0_steps : Int32} {x0_met : Int64} {x0_queue x0_totals : (Nat → Int32)} {p1 p2 : Int32}  (h_x0_shelf : (AI 0 2 x0_shelf)) (h_x0_rowSize : (AI 0 40 x0_rowSize)) (h_x0_tapeSize : (0 ≤ x0_tapeSize ∧ x0_tapeSize ≤ 250)) (h_x0_lines : (0 ≤ x0_lines ∧ x0_lines ≤ 20)) (h_x0_line : (LnM x0_line)) (h_x0_changes : (AI 0 99 x0_changes)) (h_x0_coins : (AI 0 9 x0_coins)) (h_x0_goods : (0 ≤ x0_goods ∧ x0_goods ≤ 8)) (h_x0_good : (GdM x0_good)) (h_x0_works : (0 ≤ x0_works ∧ x0_works ≤ 7)) (h_x0_work : (WkM x0_work)) (h_x0_years : (1 ≤ x0_years ∧ x0_years ≤ 30)) (h_x0_from : (0 ≤ x0_from ∧ x0_from ≤ 250)) (h_x0_far : (AI 0 1000000000 x0_far)) (h_x0_way : (AI 0 22 x0_way)) (h_x0_steps : (0 ≤ x0_steps ∧ x0_steps ≤ 37)) (h_x0_queue : (AI 0 35 x0_queue)) : Sf (fX7_change (x0_shelf, x0_rowSort, x0_rowSize, x0_rows, x0_moved, x0_shown, x0_tape, x0_tapeSize, x0_refused, x0_lines, x0_line, x0_changes, x0_coins, x0_goods, x0_good, x0_works, x0_work, x0_years, x0_gone, x0_spent, x0_at, x0_token, x0_from, x0_figures, x0_fault, x0_numbers, x0_statements, x0_left, x0_far, x0_tons, x0_way, x0_steps, x0_met, x0_queue, x0_totals) p1 p2) (fun r => (AI 0 99 r.2.2)) := by
  unfold fX7_change
  dsimp only [u35]
  refine Sf.bind (sX7_isPlace ) ?_
  intro v1 hr1
  have hx_v1 : ((v1 = 1 ∧ 0 ≤ p1 ∧ p1 ≤ 11) ∨ (v1 = 0 ∧ (p1 < 0 ∨ 11 < p1))) := hr1
  refine Sf.ite (fun hc2 => ?_) (fun hc2 => ?_)
  · refine Sf.bind (sX7_refuse h_x0_shelf h_x0_rowSize h_x0_tapeSize h_x0_lines h_x0_line h_x0_changes h_x0_coins h_x0_goods h_x0_good h_x0_works h_x0_work h_x0_years h_x0_from h_x0_far h_x0_way h_x0_steps h_x0_queue (by decide)) ?_
    rintro ⟨v3, g4⟩ hr3
    have hx_v3 : (v3 = (-2)) := hr3
    dsimp only [u2]
    exact Sf.ok (show (AI 0 99 x0_changes) from h_x0_changes)
  · refine Sf.bind (s_inq p2 0 99 (by decide) (by decide)) ?_
    intro v6 hr_v6
    refine Sf.ite (fun hc4 => ?_) (fun hc4 => ?_)
    · refine Sf.bind (sX7_refuse h_x0_shelf h_x0_rowSize h_x0_tapeSize h_x0_lines h_x0_line h_x0_changes h_x0_coins h_x0_goods h_x0_good h_x0_works h_x0_work h_x0_years h_x0_from h_x0_far h_x0_way h_x0_steps h_x0_queue (by decide)) ?_
      rintro ⟨v10, g11⟩ hr5
      have hx_v10 : (v10 = (-2)) := hr5
      dsimp only [u2]
      exact Sf.ok (show (AI 0 99 x0_changes) from h_x0_changes)
    · refine Sf.rdI 12 rfl h_x0_changes (by grind) (fun v8 h_v8 e_v8 => ?_)
      clear e_v8
      refine Sf.wrI 12 rfl h_x0_changes (by grind) (by grind) (fun f9 h_f9 e_f9 => ?_)
      clear e_f9
      exact Sf.ok (show (AI 0 99 f9) from h_f9)
set_option maxHeartbeats 1000000 in
theorem sX7_coin {x0_shelf x0_rowSort x0_rowSize : (Nat → Int32)} {x0_rows : (Nat → Nat → Int64)} {x0_moved : (Nat → Int64)} {x0_shown x0_tape : (Nat → Int32)} {x0_tapeSize : Int32} {x0_refused : (Nat → Int32)} {x0_lines : Int32} {x0_line : (Nat → Nat → Int32)} {x0_changes x0_coins : (Nat → Int32)} {x0_goods : Int32} {x0_good : (Nat → Nat → Int32)} {x0_works : Int32} {x0_work : (Nat → Nat → Int32)} {x0_years x0_gone x0_spent x0_at x0_token x0_from : Int32} {x0_figures : Int64} {x0_fault : Int32} {x0_numbers : (Nat → Int32)} {x0_statements : Int32} {x0_left x0_far : (Nat → Int32)} {x0_tons : Int32} {x0_way : (Nat → Int32)} {x0_steps : Int32} {x0_met : Int64} {x0_queue x0_totals : (Nat → Int32)} {p1 p2 : Int32}  (h_x0_shelf : (AI 0 2 x0_shelf)) (h_x0_rowSize : (AI 0 40 x0_rowSize)) (h_x0_tapeSize : (0 ≤ x0_tapeSize ∧ x0_tapeSize ≤ 250)) (h_x0_lines : (0 ≤ x0_lines ∧ x0_lines ≤ 20)) (h_x0_line : (LnM x0_line)) (h_x0_changes : (AI 0 99 x0_changes)) (h_x0_coins : (AI 0 9 x0_coins)) (h_x0_goods : (0 ≤ x0_goods ∧ x0_goods ≤ 8)) (h_x0_good : (GdM x0_good)) (h_x0_works : (0 ≤ x0_works ∧ x0_works ≤ 7)) (h_x0_work : (WkM x0_work)) (h_x0_years : (1 ≤ x0_years ∧ x0_years ≤ 30)) (h_x0_from : (0 ≤ x0_from ∧ x0_from ≤ 250)) (h_x0_far : (AI 0 1000000000 x0_far)) (h_x0_way : (AI 0 22 x0_way)) (h_x0_steps : (0 ≤ x0_steps ∧ x0_steps ≤ 37)) (h_x0_queue : (AI 0 35 x0_queue)) : Sf (fX7_coin (x0_shelf, x0_rowSort, x0_rowSize, x0_rows, x0_moved, x0_shown, x0_tape, x0_tapeSize, x0_refused, x0_lines, x0_line, x0_changes, x0_coins, x0_goods, x0_good, x0_works, x0_work, x0_years, x0_gone, x0_spent, x0_at, x0_token, x0_from, x0_figures, x0_fault, x0_numbers, x0_statements, x0_left, x0_far, x0_tons, x0_way, x0_steps, x0_met, x0_queue, x0_totals) p1 p2) (fun r => (AI 0 9 r.2.2)) := by
  unfold fX7_coin
  dsimp only [u35]
  refine Sf.bind (s_inq p1 0 2 (by decide) (by decide)) ?_
  intro v1 hr_v1
  refine Sf.ite (fun hc1 => ?_) (fun hc1 => ?_)
  · refine Sf.bind (sX7_refuse h_x0_shelf h_x0_rowSize h_x0_tapeSize h_x0_lines h_x0_line h_x0_changes h_x0_coins h_x0_goods h_x0_good h_x0_works h_x0_work h_x0_years h_x0_from h_x0_far h_x0_way h_x0_steps h_x0_queue (by decide)) ?_
    rintro ⟨v3, g4⟩ hr2
    have hx_v3 : (v3 = (-2)) := hr2
    dsimp only [u2]
    exact Sf.ok (show (AI 0 9 x0_coins) from h_x0_coins)
  · refine Sf.bind (s_inq p2 0 9 (by decide) (by decide)) ?_
    intro v6 hr_v6
    refine Sf.ite (fun hc3 => ?_) (fun hc3 => ?_)
    · refine Sf.bind (sX7_refuse h_x0_shelf h_x0_rowSize h_x0_tapeSize h_x0_lines h_x0_line h_x0_changes h_x0_coins h_x0_goods h_x0_good h_x0_works h_x0_work h_x0_years h_x0_from h_x0_far h_x0_way h_x0_steps h_x0_queue (by decide)) ?_
      rintro ⟨v10, g11⟩ hr4
      have hx_v10 : (v10 = (-2)) := hr4
      dsimp only [u2]
      exact Sf.ok (show (AI 0 9 x0_coins) from h_x0_coins)
    · refine Sf.rdI 3 rfl h_x0_coins (by grind) (fun v8 h_v8 e_v8 => ?_)
      clear e_v8
      refine Sf.wrI 3 rfl h_x0_coins (by grind) (by grind) (fun f9 h_f9 e_f9 => ?_)
      clear e_f9
      exact Sf.ok (show (AI 0 9 f9) from h_f9)
set_option maxHeartbeats 1000000 in
theorem sX7_years {x0_shelf x0_rowSort x0_rowSize : (Nat → Int32)} {x0_rows : (Nat → Nat → Int64)} {x0_moved : (Nat → Int64)} {x0_shown x0_tape : (Nat → Int32)} {x0_tapeSize : Int32} {x0_refused : (Nat → Int32)} {x0_lines : Int32} {x0_line : (Nat → Nat → Int32)} {x0_changes x0_coins : (Nat → Int32)} {x0_goods : Int32} {x0_good : (Nat → Nat → Int32)} {x0_works : Int32} {x0_work : (Nat → Nat → Int32)} {x0_years x0_gone x0_spent x0_at x0_token x0_from : Int32} {x0_figures : Int64} {x0_fault : Int32} {x0_numbers : (Nat → Int32)} {x0_statements : Int32} {x0_left x0_far : (Nat → Int32)} {x0_tons : Int32} {x0_way : (Nat → Int32)} {x0_steps : Int32} {x0_met : Int64} {x0_queue x0_totals : (Nat → Int32)} {p1 : Int32}  (h_x0_shelf : (AI 0 2 x0_shelf)) (h_x0_rowSize : (AI 0 40 x0_rowSize)) (h_x0_tapeSize : (0 ≤ x0_tapeSize ∧ x0_tapeSize ≤ 250)) (h_x0_lines : (0 ≤ x0_lines ∧ x0_lines ≤ 20)) (h_x0_line : (LnM x0_line)) (h_x0_changes : (AI 0 99 x0_changes)) (h_x0_coins : (AI 0 9 x0_coins)) (h_x0_goods : (0 ≤ x0_goods ∧ x0_goods ≤ 8)) (h_x0_good : (GdM x0_good)) (h_x0_works : (0 ≤ x0_works ∧ x0_works ≤ 7)) (h_x0_work : (WkM x0_work)) (h_x0_years : (1 ≤ x0_years ∧ x0_years ≤ 30)) (h_x0_from : (0 ≤ x0_from ∧ x0_from ≤ 250)) (h_x0_far : (AI 0 1000000000 x0_far)) (h_x0_way : (AI 0 22 x0_way)) (h_x0_steps : (0 ≤ x0_steps ∧ x0_steps ≤ 37)) (h_x0_queue : (AI 0 35 x0_queue)) : Sf (fX7_years (x0_shelf, x0_rowSort, x0_rowSize, x0_rows, x0_moved, x0_shown, x0_tape, x0_tapeSize, x0_refused, x0_lines, x0_line, x0_changes, x0_coins, x0_goods, x0_good, x0_works, x0_work, x0_years, x0_gone, x0_spent, x0_at, x0_token, x0_from, x0_figures, x0_fault, x0_numbers, x0_statements, x0_left, x0_far, x0_tons, x0_way, x0_steps, x0_met, x0_queue, x0_totals) p1) (fun r => (1 ≤ r.2.2 ∧ r.2.2 ≤ 30)) := by
  unfold fX7_years
  dsimp only [u35]
  refine Sf.bind (s_inq p1 1 30 (by decide) (by decide)) ?_
  intro v1 hr_v1
  refine Sf.ite (fun hc1 => ?_) (fun hc1 => ?_)
  · refine Sf.bind (sX7_refuse h_x0_shelf h_x0_rowSize h_x0_tapeSize h_x0_lines h_x0_line h_x0_changes h_x0_coins h_x0_goods h_x0_good h_x0_works h_x0_work h_x0_years h_x0_from h_x0_far h_x0_way h_x0_steps h_x0_queue (by decide)) ?_
    rintro ⟨v3, g4⟩ hr2
    have hx_v3 : (v3 = (-2)) := hr2
    dsimp only [u2]
    exact Sf.ok (show (1 ≤ x0_years ∧ x0_years ≤ 30) from h_x0_years)
  · exact Sf.ok (show (1 ≤ p1 ∧ p1 ≤ 30) from (by grind))
set_option maxHeartbeats 1000000 in
theorem sX7_washed {x0_shelf x0_rowSort x0_rowSize : (Nat → Int32)} {x0_rows : (Nat → Nat → Int64)} {x0_moved : (Nat → Int64)} {x0_shown x0_tape : (Nat → Int32)} {x0_tapeSize : Int32} {x0_refused : (Nat → Int32)} {x0_lines : Int32} {x0_line : (Nat → Nat → Int32)} {x0_changes x0_coins : (Nat → Int32)} {x0_goods : Int32} {x0_good : (Nat → Nat → Int32)} {x0_works : Int32} {x0_work : (Nat → Nat → Int32)} {x0_years x0_gone x0_spent x0_at x0_token x0_from : Int32} {x0_figures : Int64} {x0_fault : Int32} {x0_numbers : (Nat → Int32)} {x0_statements : Int32} {x0_left x0_far : (Nat → Int32)} {x0_tons : Int32} {x0_way : (Nat → Int32)} {x0_steps : Int32} {x0_met : Int64} {x0_queue x0_totals : (Nat → Int32)} {p1 p2 : Int32}  (h_x0_shelf : (AI 0 2 x0_shelf)) (h_x0_rowSize : (AI 0 40 x0_rowSize)) (h_x0_tapeSize : (0 ≤ x0_tapeSize ∧ x0_tapeSize ≤ 250)) (h_x0_lines : (0 ≤ x0_lines ∧ x0_lines ≤ 20)) (h_x0_line : (LnM x0_line)) (h_x0_changes : (AI 0 99 x0_changes)) (h_x0_coins : (AI 0 9 x0_coins)) (h_x0_goods : (0 ≤ x0_goods ∧ x0_goods ≤ 8)) (h_x0_good : (GdM x0_good)) (h_x0_works : (0 ≤ x0_works ∧ x0_works ≤ 7)) (h_x0_work : (WkM x0_work)) (h_x0_years : (1 ≤ x0_years ∧ x0_years ≤ 30)) (h_x0_from : (0 ≤ x0_from ∧ x0_from ≤ 250)) (h_x0_far : (AI 0 1000000000 x0_far)) (h_x0_way : (AI 0 22 x0_way)) (h_x0_steps : (0 ≤ x0_steps ∧ x0_steps ≤ 37)) (h_x0_queue : (AI 0 35 x0_queue)) : Sf (fX7_washed (x0_shelf, x0_rowSort, x0_rowSize, x0_rows, x0_moved, x0_shown, x0_tape, x0_tapeSize, x0_refused, x0_lines, x0_line, x0_changes, x0_coins, x0_goods, x0_good, x0_works, x0_work, x0_years, x0_gone, x0_spent, x0_at, x0_token, x0_from, x0_figures, x0_fault, x0_numbers, x0_statements, x0_left, x0_far, x0_tons, x0_way, x0_steps, x0_met, x0_queue, x0_totals) p1 p2) (fun r => (LnM r.2.2)) := by
  unfold fX7_washed
  dsimp only [u35]
  refine Sf.bind (sX7_isLine h_x0_shelf h_x0_rowSize h_x0_tapeSize h_x0_lines h_x0_line h_x0_changes h_x0_coins h_x0_goods h_x0_good h_x0_works h_x0_work h_x0_years h_x0_from h_x0_far h_x0_way h_x0_steps h_x0_queue) ?_
  intro v1 hr1
  have hx_v1 : ((v1 = 1 ∧ 0 ≤ p1 ∧ p1 < x0_lines) ∨ (v1 = 0 ∧ ¬ (0 ≤ p1 ∧ p1 < x0_lines))) := hr1
  refine Sf.ite (fun hc2 => ?_) (fun hc2 => ?_)
  · refine Sf.bind (sX7_refuse h_x0_shelf h_x0_rowSize h_x0_tapeSize h_x0_lines h_x0_line h_x0_changes h_x0_coins h_x0_goods h_x0_good h_x0_works h_x0_work h_x0_years h_x0_from h_x0_far h_x0_way h_x0_steps h_x0_queue (by decide)) ?_
    rintro ⟨v10, g11⟩ hr3
    have hx_v10 : (v10 = (-2)) := hr3
    dsimp only [u2]
    exact Sf.ok (show (LnM x0_line) from h_x0_line)
  · refine Sf.ckb 20 rfl (by grind) (fun q3 e_q3 h_q3 => ?_)
    refine Sf.rdl 6 rfl rfl (fun v4 e_v4 => ?_)
    have h_v4 : 0 ≤ v4 ∧ v4 ≤ 1 := by rw [e_v4]; exact (h_x0_line q3) 6
    clear e_v4
    refine Sf.ckb 20 rfl (by grind) (fun q5 e_q5 h_q5 => ?_)
    refine Sf.ite (fun hc4 => ?_) (fun hc4 => ?_)
    · unfold fX7_washed_j42
      refine Sf.wrl 6 rfl rfl (fun f7 e_f7 => ?_)
      have h_f7 : RI lnB f7 := by rw [e_f7]; exact RI.up (h_x0_line q5) (show 0 ≤ 0 ∧ 0 ≤ 1 from (by decide))
      clear e_f7
      refine Sf.ckb 20 rfl (by grind) (fun q8 e_q8 h_q8 => ?_)
      refine Sf.rdl 6 rfl rfl (fun v9 e_v9 => ?_)
      have h_v9 : 0 ≤ v9 ∧ v9 ≤ 1 := by rw [e_v9]; exact ((GI.up h_x0_line h_f7) q8) 6
      clear e_v9
      refine Sf.ite (fun hc5 => ?_) (fun hc5 => ?_)
      · exact Sf.ok (show (LnM (va_up x0_line q5 f7)) from (GI.up h_x0_line h_f7))
      · exact Sf.ok (show (LnM (va_up x0_line q5 f7)) from (GI.up h_x0_line h_f7))
    · unfold fX7_washed_j42
      refine Sf.wrl 6 rfl rfl (fun f7 e_f7 => ?_)
      have h_f7 : RI lnB f7 := by rw [e_f7]; exact RI.up (h_x0_line q5) (show 0 ≤ 1 ∧ 1 ≤ 1 from (by decide))
      clear e_f7
      refine Sf.ckb 20 rfl (by grind) (fun q8 e_q8 h_q8 => ?_)
      refine Sf.rdl 6 rfl rfl (fun v9 e_v9 => ?_)
      have h_v9 : 0 ≤ v9 ∧ v9 ≤ 1 := by rw [e_v9]; exact ((GI.up h_x0_line h_f7) q8) 6
      clear e_v9
      refine Sf.ite (fun hc6 => ?_) (fun hc6 => ?_)
      · exact Sf.ok (show (LnM (va_up x0_line q5 f7)) from (GI.up h_x0_line h_f7))
      · exact Sf.ok (show (LnM (va_up x0_line q5 f7)) from (GI.up h_x0_line h_f7))
set_option maxHeartbeats 1000000 in
theorem sX7_wipe {x0_shelf x0_rowSort x0_rowSize : (Nat → Int32)} {x0_rows : (Nat → Nat → Int64)} {x0_moved : (Nat → Int64)} {x0_shown x0_tape : (Nat → Int32)} {x0_tapeSize : Int32} {x0_refused : (Nat → Int32)} {x0_lines : Int32} {x0_line : (Nat → Nat → Int32)} {x0_changes x0_coins : (Nat → Int32)} {x0_goods : Int32} {x0_good : (Nat → Nat → Int32)} {x0_works : Int32} {x0_work : (Nat → Nat → Int32)} {x0_years x0_gone x0_spent x0_at x0_token x0_from : Int32} {x0_figures : Int64} {x0_fault : Int32} {x0_numbers : (Nat → Int32)} {x0_statements : Int32} {x0_left x0_far : (Nat → Int32)} {x0_tons : Int32} {x0_way : (Nat → Int32)} {x0_steps : Int32} {x0_met : Int64} {x0_queue x0_totals : (Nat → Int32)}  (h_x0_shelf : (AI 0 2 x0_shelf)) (h_x0_rowSize : (AI 0 40 x0_rowSize)) (h_x0_tapeSize : (0 ≤ x0_tapeSize ∧ x0_tapeSize ≤ 250)) (h_x0_lines : (0 ≤ x0_lines ∧ x0_lines ≤ 20)) (h_x0_line : (LnM x0_line)) (h_x0_changes : (AI 0 99 x0_changes)) (h_x0_coins : (AI 0 9 x0_coins)) (h_x0_goods : (0 ≤ x0_goods ∧ x0_goods ≤ 8)) (h_x0_good : (GdM x0_good)) (h_x0_works : (0 ≤ x0_works ∧ x0_works ≤ 7)) (h_x0_work : (WkM x0_work)) (h_x0_years : (1 ≤ x0_years ∧ x0_years ≤ 30)) (h_x0_from : (0 ≤ x0_from ∧ x0_from ≤ 250)) (h_x0_far : (AI 0 1000000000 x0_far)) (h_x0_way : (AI 0 22 x0_way)) (h_x0_steps : (0 ≤ x0_steps ∧ x0_steps ≤ 37)) (h_x0_queue : (AI 0 35 x0_queue)) : Sf (fX7_wipe (x0_shelf, x0_rowSort, x0_rowSize, x0_rows, x0_moved, x0_shown, x0_tape, x0_tapeSize, x0_refused, x0_lines, x0_line, x0_changes, x0_coins, x0_goods, x0_good, x0_works, x0_work, x0_years, x0_gone, x0_spent, x0_at, x0_token, x0_from, x0_figures, x0_fault, x0_numbers, x0_statements, x0_left, x0_far, x0_tons, x0_way, x0_steps, x0_met, x0_queue, x0_totals)) (fun r => (0 ≤ r.2 ∧ r.2 ≤ 250)) := by
  unfold fX7_wipe
  dsimp only [u35]
  exact Sf.ok (show (0 ≤ 0 ∧ 0 ≤ 250) from (by decide))

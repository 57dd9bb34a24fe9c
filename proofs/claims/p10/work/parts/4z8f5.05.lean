theorem TX7_least_s5 {p1 : Int32} {x0_far : (Nat → Int32)} {z2 z3 : Int32}  (h_p1 : (0 ≤ p1 ∧ p1 ≤ 11)) (h_x0_far : (AI 0 1000000000 x0_far)) (h_z3 : (0 ≤ z3)) : Sf (fX7_least_s5 p1 x0_far z2 z3) (LQ (u2 (fun z2 z3 => (0 ≤ z3))) (u2 (fun z2 z3 => muUp z3)) (muUp z3) (fun e => True)) := by
  unfold fX7_least_s5
  refine Sf.ite (fun hc1 => ?_) (fun hc1 => ?_)
  · exact Sf.inr trivial
  · have hq2 : 0 ≤ ((3 * p1) + z3) ∧ ((3 * p1) + z3) < 36 := by grind
    refine Sf.rdI 36 rfl h_x0_far hq2 (fun v6 h_v6 e_v6 => ?_)
    refine Sf.ite (fun hc3 => ?_) (fun hc3 => ?_)
    · exact Sf.inl (show (0 ≤ (z3 + 1)) from (by grind)) (muUp_lt hc1)
    · refine Sf.rdI 36 rfl h_x0_far hq2 (fun v7 h_v7 e_v7 => ?_)
      have hs4 : v7 = v6 := e_v7.trans e_v6.symm
      clear e_v7
      exact Sf.inl (show (0 ≤ (z3 + 1)) from (by grind)) (muUp_lt hc1)
theorem LX7_least_s5 {n : Nat} {p1 : Int32} {x0_far : (Nat → Int32)} {z2 z3 : Int32} (hn : 1000000000000 ≤ n) (h_p1 : (0 ≤ p1 ∧ p1 ≤ 11)) (h_x0_far : (AI 0 1000000000 x0_far)) (h_z3 : (0 ≤ z3)) : Sf (lp (u2 (fX7_least_s5 p1 x0_far)) n (z2, z3)) (fun e => True) :=
  Sf.loop2 (fun z2 z3 => (0 ≤ z3)) (fun z2 z3 => muUp z3) (fun z2 z3 h => TX7_least_s5 h_p1 h_x0_far h) h_z3 (muUp_n hn)
set_option maxHeartbeats 1000000 in
theorem sX7_least {n : Nat} {x0_shelf x0_rowSort x0_rowSize : (Nat → Int32)} {x0_rows : (Nat → Nat → Int64)} {x0_moved : (Nat → Int64)} {x0_shown x0_tape : (Nat → Int32)} {x0_tapeSize : Int32} {x0_refused : (Nat → Int32)} {x0_lines : Int32} {x0_line : (Nat → Nat → Int32)} {x0_changes x0_coins : (Nat → Int32)} {x0_goods : Int32} {x0_good : (Nat → Nat → Int32)} {x0_works : Int32} {x0_work : (Nat → Nat → Int32)} {x0_years x0_gone x0_spent x0_at x0_token x0_from : Int32} {x0_figures : Int64} {x0_fault : Int32} {x0_numbers : (Nat → Int32)} {x0_statements : Int32} {x0_left x0_far : (Nat → Int32)} {x0_tons : Int32} {x0_way : (Nat → Int32)} {x0_steps : Int32} {x0_met : Int64} {x0_queue x0_totals : (Nat → Int32)} {p1 : Int32} (hn : 1000000000000 ≤ n) (h_x0_shelf : (AI 0 2 x0_shelf)) (h_x0_rowSize : (AI 0 40 x0_rowSize)) (h_x0_tapeSize : (0 ≤ x0_tapeSize ∧ x0_tapeSize ≤ 250)) (h_x0_lines : (0 ≤ x0_lines ∧ x0_lines ≤ 20)) (h_x0_line : (LnM x0_line)) (h_x0_changes : (AI 0 99 x0_changes)) (h_x0_coins : (AI 0 9 x0_coins)) (h_x0_goods : (0 ≤ x0_goods ∧ x0_goods ≤ 8)) (h_x0_good : (GdM x0_good)) (h_x0_works : (0 ≤ x0_works ∧ x0_works ≤ 7)) (h_x0_work : (WkM x0_work)) (h_x0_years : (1 ≤ x0_years ∧ x0_years ≤ 30)) (h_x0_from : (0 ≤ x0_from ∧ x0_from ≤ 250)) (h_x0_far : (AI 0 1000000000 x0_far)) (h_x0_way : (AI 0 22 x0_way)) (h_x0_steps : (0 ≤ x0_steps ∧ x0_steps ≤ 37)) (h_x0_queue : (AI 0 35 x0_queue)) (h_p1 : (0 ≤ p1 ∧ p1 ≤ 11)) : Sf (fX7_least n (x0_shelf, x0_rowSort, x0_rowSize, x0_rows, x0_moved, x0_shown, x0_tape, x0_tapeSize, x0_refused, x0_lines, x0_line, x0_changes, x0_coins, x0_goods, x0_good, x0_works, x0_work, x0_years, x0_gone, x0_spent, x0_at, x0_token, x0_from, x0_figures, x0_fault, x0_numbers, x0_statements, x0_left, x0_far, x0_tons, x0_way, x0_steps, x0_met, x0_queue, x0_totals) p1) (fun r => True) := by
  unfold fX7_least
  dsimp only [u35]
  refine Sf.bind (LX7_least_s5 hn h_p1 h_x0_far (by decide)) ?_
  intro w5 hr1
  exact Sf.ok trivial
set_option maxHeartbeats 1000000 in
theorem sX7_stepTo {x0_shelf x0_rowSort x0_rowSize : (Nat → Int32)} {x0_rows : (Nat → Nat → Int64)} {x0_moved : (Nat → Int64)} {x0_shown x0_tape : (Nat → Int32)} {x0_tapeSize : Int32} {x0_refused : (Nat → Int32)} {x0_lines : Int32} {x0_line : (Nat → Nat → Int32)} {x0_changes x0_coins : (Nat → Int32)} {x0_goods : Int32} {x0_good : (Nat → Nat → Int32)} {x0_works : Int32} {x0_work : (Nat → Nat → Int32)} {x0_years x0_gone x0_spent x0_at x0_token x0_from : Int32} {x0_figures : Int64} {x0_fault : Int32} {x0_numbers : (Nat → Int32)} {x0_statements : Int32} {x0_left x0_far : (Nat → Int32)} {x0_tons : Int32} {x0_way : (Nat → Int32)} {x0_steps : Int32} {x0_met : Int64} {x0_queue x0_totals : (Nat → Int32)} {p1 p2 : Int32}  (h_x0_shelf : (AI 0 2 x0_shelf)) (h_x0_rowSize : (AI 0 40 x0_rowSize)) (h_x0_tapeSize : (0 ≤ x0_tapeSize ∧ x0_tapeSize ≤ 250)) (h_x0_lines : (0 ≤ x0_lines ∧ x0_lines ≤ 20)) (h_x0_line : (LnM x0_line)) (h_x0_changes : (AI 0 99 x0_changes)) (h_x0_coins : (AI 0 9 x0_coins)) (h_x0_goods : (0 ≤ x0_goods ∧ x0_goods ≤ 8)) (h_x0_good : (GdM x0_good)) (h_x0_works : (0 ≤ x0_works ∧ x0_works ≤ 7)) (h_x0_work : (WkM x0_work)) (h_x0_years : (1 ≤ x0_years ∧ x0_years ≤ 30)) (h_x0_from : (0 ≤ x0_from ∧ x0_from ≤ 250)) (h_x0_far : (AI 0 1000000000 x0_far)) (h_x0_way : (AI 0 22 x0_way)) (h_x0_steps : (0 ≤ x0_steps ∧ x0_steps ≤ 37)) (h_x0_queue : (AI 0 35 x0_queue)) (h_p1 : (0 ≤ p1 ∧ p1 ≤ 35)) (h_p2 : (0 ≤ p2 ∧ p2 ≤ 22)) : Sf (fX7_stepTo (x0_shelf, x0_rowSort, x0_rowSize, x0_rows, x0_moved, x0_shown, x0_tape, x0_tapeSize, x0_refused, x0_lines, x0_line, x0_changes, x0_coins, x0_goods, x0_good, x0_works, x0_work, x0_years, x0_gone, x0_spent, x0_at, x0_token, x0_from, x0_figures, x0_fault, x0_numbers, x0_statements, x0_left, x0_far, x0_tons, x0_way, x0_steps, x0_met, x0_queue, x0_totals) p1 p2) (fun r => ((-1) ≤ r ∧ r ≤ 35)) := by
  unfold fX7_stepTo
  dsimp only [u35]
  refine Sf.ite (fun hc1 => ?_) (fun hc1 => ?_)
  · refine Sf.bind (sX7_bears h_x0_shelf h_x0_rowSize h_x0_tapeSize h_x0_lines h_x0_line h_x0_changes h_x0_coins h_x0_goods h_x0_good h_x0_works h_x0_work h_x0_years h_x0_from h_x0_far h_x0_way h_x0_steps h_x0_queue (by grind)) ?_
    intro v1 hr2
    have h_v1 : (0 ≤ v1 ∧ v1 ≤ 1) := hr2
    refine Sf.ite (fun hc3 => ?_) (fun hc3 => ?_)
    · exact Sf.ok (show ((-1) ≤ (-1) ∧ (-1) ≤ 35) from (by decide))
    · have hq4 : 0 ≤ (p2 - 3) ∧ (p2 - 3) < 20 := by grind
      refine Sf.ckb 20 rfl hq4 (fun q3 e_q3 h_q3 => ?_)
      refine Sf.rdl 0 rfl rfl (fun v4 e_v4 => ?_)
      have h_v4 : 0 ≤ v4 ∧ v4 ≤ 11 := by rw [e_v4]; exact (h_x0_line q3) 0
      clear e_v4
      have hd6 := dv3 (x := p1) (by grind)
      refine Sf.ite (fun hc5 => ?_) (fun hc5 => ?_)
      · unfold fX7_stepTo_j102
        refine Sf.ckb 20 rfl hq4 (fun q5 e_q5 h_q5 => ?_)
        refine Sf.rdl 0 rfl rfl (fun v6 e_v6 => ?_)
        have h_v6 : 0 ≤ v6 ∧ v6 ≤ 11 := by rw [e_v6]; exact (h_x0_line q5) 0
        clear e_v6
        have hd8 := dv3 (x := p1) (by grind)
        refine Sf.ite (fun hc7 => ?_) (fun hc7 => ?_)
        · refine Sf.ckb 20 rfl hq4 (fun q16 e_q16 h_q16 => ?_)
          refine Sf.rdl 1 rfl rfl (fun v17 e_v17 => ?_)
          have h_v17 : 0 ≤ v17 ∧ v17 ≤ 11 := by rw [e_v17]; exact (h_x0_line q16) 1
          clear e_v17
          unfold fX7_stepTo_j139
          refine Sf.someb (fun t8 e_t8 => ?_)
          have h_t8 : 0 ≤ t8 ∧ t8 ≤ 35 := by rw [e_t8]; exact st8 (by first | assumption | grind) h_p1
          clear e_t8
          refine Sf.rdI 36 rfl h_x0_far (by grind) (fun v9 h_v9 e_v9 => ?_)
          clear e_v9
          refine Sf.ckb 20 rfl hq4 (fun q10 e_q10 h_q10 => ?_)
          refine Sf.rdl 3 rfl rfl (fun v11 e_v11 => ?_)
          have h_v11 : 0 ≤ v11 ∧ v11 ≤ 60 := by rw [e_v11]; exact (h_x0_line q10) 3
          clear e_v11
          have hq9 : 0 ≤ (p1 - ((p1 / 3) * 3)) ∧ (p1 - ((p1 / 3) * 3)) < 3 := md3 h_p1
          refine Sf.rdI 3 rfl h_x0_coins hq9 (fun v12 h_v12 e_v12 => ?_)
          clear e_v12
          refine Sf.rdI 36 rfl h_x0_far (by grind) (fun v13 h_v13 e_v13 => ?_)
          clear e_v13
          refine Sf.ite (fun hc10 => ?_) (fun hc10 => ?_)
          · exact Sf.ok (show ((-1) ≤ t8 ∧ t8 ≤ 35) from (by grind))
          · exact Sf.ok (show ((-1) ≤ (-1) ∧ (-1) ≤ 35) from (by decide))
        · refine Sf.ckb 20 rfl hq4 (fun q14 e_q14 h_q14 => ?_)
          refine Sf.rdl 0 rfl rfl (fun v15 e_v15 => ?_)
          have h_v15 : 0 ≤ v15 ∧ v15 ≤ 11 := by rw [e_v15]; exact (h_x0_line q14) 0
          clear e_v15
          unfold fX7_stepTo_j139
          refine Sf.someb (fun t8 e_t8 => ?_)
          have h_t8 : 0 ≤ t8 ∧ t8 ≤ 35 := by rw [e_t8]; exact st8 (by first | assumption | grind) h_p1
          clear e_t8
          refine Sf.rdI 36 rfl h_x0_far (by grind) (fun v9 h_v9 e_v9 => ?_)
          clear e_v9
          refine Sf.ckb 20 rfl hq4 (fun q10 e_q10 h_q10 => ?_)
          refine Sf.rdl 3 rfl rfl (fun v11 e_v11 => ?_)
          have h_v11 : 0 ≤ v11 ∧ v11 ≤ 60 := by rw [e_v11]; exact (h_x0_line q10) 3
          clear e_v11
          have hq11 : 0 ≤ (p1 - ((p1 / 3) * 3)) ∧ (p1 - ((p1 / 3) * 3)) < 3 := md3 h_p1
          refine Sf.rdI 3 rfl h_x0_coins hq11 (fun v12 h_v12 e_v12 => ?_)
          clear e_v12
          refine Sf.rdI 36 rfl h_x0_far (by grind) (fun v13 h_v13 e_v13 => ?_)
          clear e_v13
          refine Sf.ite (fun hc12 => ?_) (fun hc12 => ?_)
          · exact Sf.ok (show ((-1) ≤ t8 ∧ t8 ≤ 35) from (by grind))
          · exact Sf.ok (show ((-1) ≤ (-1) ∧ (-1) ≤ 35) from (by decide))
      · refine Sf.ckb 20 rfl hq4 (fun q18 e_q18 h_q18 => ?_)
        refine Sf.rdl 1 rfl rfl (fun v19 e_v19 => ?_)
        have h_v19 : 0 ≤ v19 ∧ v19 ≤ 11 := by rw [e_v19]; exact (h_x0_line q18) 1
        clear e_v19
        have hd14 := dv3 (x := p1) (by grind)
        refine Sf.ite (fun hc13 => ?_) (fun hc13 => ?_)
        · unfold fX7_stepTo_j102
          refine Sf.ckb 20 rfl hq4 (fun q5 e_q5 h_q5 => ?_)
          refine Sf.rdl 0 rfl rfl (fun v6 e_v6 => ?_)
          have h_v6 : 0 ≤ v6 ∧ v6 ≤ 11 := by rw [e_v6]; exact (h_x0_line q5) 0
          clear e_v6
          have hd16 := dv3 (x := p1) (by grind)
          refine Sf.ite (fun hc15 => ?_) (fun hc15 => ?_)
          · refine Sf.ckb 20 rfl hq4 (fun q16 e_q16 h_q16 => ?_)
            refine Sf.rdl 1 rfl rfl (fun v17 e_v17 => ?_)
            have h_v17 : 0 ≤ v17 ∧ v17 ≤ 11 := by rw [e_v17]; exact (h_x0_line q16) 1
            clear e_v17
            unfold fX7_stepTo_j139
            refine Sf.someb (fun t8 e_t8 => ?_)
            have h_t8 : 0 ≤ t8 ∧ t8 ≤ 35 := by rw [e_t8]; exact st8 (by first | assumption | grind) h_p1
            clear e_t8
            refine Sf.rdI 36 rfl h_x0_far (by grind) (fun v9 h_v9 e_v9 => ?_)
            clear e_v9
            refine Sf.ckb 20 rfl hq4 (fun q10 e_q10 h_q10 => ?_)
            refine Sf.rdl 3 rfl rfl (fun v11 e_v11 => ?_)
            have h_v11 : 0 ≤ v11 ∧ v11 ≤ 60 := by rw [e_v11]; exact (h_x0_line q10) 3
            clear e_v11
            have hq17 : 0 ≤ (p1 - ((p1 / 3) * 3)) ∧ (p1 - ((p1 / 3) * 3)) < 3 := md3 h_p1
            refine Sf.rdI 3 rfl h_x0_coins hq17 (fun v12 h_v12 e_v12 => ?_)
            clear e_v12
            refine Sf.rdI 36 rfl h_x0_far (by grind) (fun v13 h_v13 e_v13 => ?_)
            clear e_v13
            refine Sf.ite (fun hc18 => ?_) (fun hc18 => ?_)
            · exact Sf.ok (show ((-1) ≤ t8 ∧ t8 ≤ 35) from (by grind))
            · exact Sf.ok (show ((-1) ≤ (-1) ∧ (-1) ≤ 35) from (by decide))
          · refine Sf.ckb 20 rfl hq4 (fun q14 e_q14 h_q14 => ?_)
            refine Sf.rdl 0 rfl rfl (fun v15 e_v15 => ?_)
            have h_v15 : 0 ≤ v15 ∧ v15 ≤ 11 := by rw [e_v15]; exact (h_x0_line q14) 0
            clear e_v15
            unfold fX7_stepTo_j139
            refine Sf.someb (fun t8 e_t8 => ?_)
            have h_t8 : 0 ≤ t8 ∧ t8 ≤ 35 := by rw [e_t8]; exact st8 (by first | assumption | grind) h_p1
            clear e_t8
            refine Sf.rdI 36 rfl h_x0_far (by grind) (fun v9 h_v9 e_v9 => ?_)
            clear e_v9
            refine Sf.ckb 20 rfl hq4 (fun q10 e_q10 h_q10 => ?_)
            refine Sf.rdl 3 rfl rfl (fun v11 e_v11 => ?_)
            have h_v11 : 0 ≤ v11 ∧ v11 ≤ 60 := by rw [e_v11]; exact (h_x0_line q10) 3
            clear e_v11
            have hq19 : 0 ≤ (p1 - ((p1 / 3) * 3)) ∧ (p1 - ((p1 / 3) * 3)) < 3 := md3 h_p1
            refine Sf.rdI 3 rfl h_x0_coins hq19 (fun v12 h_v12 e_v12 => ?_)
            clear e_v12
            refine Sf.rdI 36 rfl h_x0_far (by grind) (fun v13 h_v13 e_v13 => ?_)
            clear e_v13
            refine Sf.ite (fun hc20 => ?_) (fun hc20 => ?_)
            · exact Sf.ok (show ((-1) ≤ t8 ∧ t8 ≤ 35) from (by grind))
            · exact Sf.ok (show ((-1) ≤ (-1) ∧ (-1) ≤ 35) from (by decide))
        · exact Sf.ok (show ((-1) ≤ (-1) ∧ (-1) ≤ 35) from (by decide))
  · have hd22 := dv3 (x := p1) (by grind)
    refine Sf.ite (fun hc21 => ?_) (fun hc21 => ?_)
    · clear hc21
      exact Sf.ok (show ((-1) ≤ (-1) ∧ (-1) ≤ 35) from (by decide))
    · clear hc21
      have hq23 : 0 ≤ (((p1 / 3) * 3) + p2) ∧ (((p1 / 3) * 3) + p2) < 36 := st9 h_p1 h_p2 (by assumption)
      refine Sf.rdI 36 rfl h_x0_far hq23 (fun v20 h_v20 e_v20 => ?_)
      clear e_v20
      have hd24 := dv3 (x := p1) (by grind)
      have hq25 : 0 ≤ (p1 / 3) ∧ (p1 / 3) < 12 := by grind
      refine Sf.rdI 12 rfl h_x0_changes hq25 (fun v21 h_v21 e_v21 => ?_)
      clear e_v21
      refine Sf.rdI 36 rfl h_x0_far (by grind) (fun v22 h_v22 e_v22 => ?_)
      clear e_v22
      refine Sf.ite (fun hc26 => ?_) (fun hc26 => ?_)
      · have hd27 := dv3 (x := p1) (by grind)
        exact Sf.ok (show ((-1) ≤ (((p1 / 3) * 3) + p2) ∧ (((p1 / 3) * 3) + p2) ≤ 35) from (by grind))
      · exact Sf.ok (show ((-1) ≤ (-1) ∧ (-1) ≤ 35) from (by decide))

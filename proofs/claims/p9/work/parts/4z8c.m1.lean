set_option maxHeartbeats 1000000 in
theorem sX7_says {x0_shelf x0_rowSort x0_rowSize : (Nat → Int32)} {x0_rows : (Nat → Nat → Int64)} {x0_moved : (Nat → Int64)} {x0_shown x0_tape : (Nat → Int32)} {x0_tapeSize : Int32} {x0_refused : (Nat → Int32)} {x0_lines : Int32} {x0_line : (Nat → Nat → Int32)} {x0_changes x0_coins : (Nat → Int32)} {x0_goods : Int32} {x0_good : (Nat → Nat → Int32)} {x0_works : Int32} {x0_work : (Nat → Nat → Int32)} {x0_years x0_gone x0_spent x0_at x0_token x0_from : Int32} {x0_figures : Int64} {x0_fault : Int32} {x0_numbers : (Nat → Int32)} {x0_statements : Int32} {x0_left x0_far : (Nat → Int32)} {x0_tons : Int32} {x0_way : (Nat → Int32)} {x0_steps : Int32} {x0_met : Int64} {x0_queue x0_totals : (Nat → Int32)} {p1 p2 : Int32}  (h_x0_shelf : (AI 0 2 x0_shelf)) (h_x0_rowSize : (AI 0 40 x0_rowSize)) (h_x0_tapeSize : (0 ≤ x0_tapeSize ∧ x0_tapeSize ≤ 250)) (h_x0_lines : (0 ≤ x0_lines ∧ x0_lines ≤ 20)) (h_x0_line : (LnM x0_line)) (h_x0_changes : (AI 0 99 x0_changes)) (h_x0_coins : (AI 0 9 x0_coins)) (h_x0_goods : (0 ≤ x0_goods ∧ x0_goods ≤ 8)) (h_x0_good : (GdM x0_good)) (h_x0_works : (0 ≤ x0_works ∧ x0_works ≤ 7)) (h_x0_work : (WkM x0_work)) (h_x0_years : (1 ≤ x0_years ∧ x0_years ≤ 30)) (h_x0_from : (0 ≤ x0_from ∧ x0_from ≤ 250)) (h_x0_far : (AI 0 1000000000 x0_far)) (h_x0_way : (AI 0 22 x0_way)) (h_x0_steps : (0 ≤ x0_steps ∧ x0_steps ≤ 37)) (h_x0_queue : (AI 0 35 x0_queue)) (he_0 : ∀ k : Nat, x0_shelf k = 2 → 0 ≤ x0_shown k ∧ x0_shown k ≤ 6) : Sf (fX7_says (x0_shelf, x0_rowSort, x0_rowSize, x0_rows, x0_moved, x0_shown, x0_tape, x0_tapeSize, x0_refused, x0_lines, x0_line, x0_changes, x0_coins, x0_goods, x0_good, x0_works, x0_work, x0_years, x0_gone, x0_spent, x0_at, x0_token, x0_from, x0_figures, x0_fault, x0_numbers, x0_statements, x0_left, x0_far, x0_tons, x0_way, x0_steps, x0_met, x0_queue, x0_totals) p1 p2) (fun r => True) := by
  unfold fX7_says
  dsimp only [u35]
  refine Sf.bind (s_inq p1 0 7 (by decide) (by decide)) ?_
  intro v1 hr_v1
  refine Sf.ite (fun hc1 => ?_) (fun hc1 => ?_)
  · refine Sf.bind (sX7_refuse h_x0_shelf h_x0_rowSize h_x0_tapeSize h_x0_lines h_x0_line h_x0_changes h_x0_coins h_x0_goods h_x0_good h_x0_works h_x0_work h_x0_years h_x0_from h_x0_far h_x0_way h_x0_steps h_x0_queue (by decide)) ?_
    rintro ⟨v3, g4⟩ hr2
    have hx_v3 : (v3 = (-2)) := hr2
    dsimp only [u2]
    exact Sf.ok trivial
  · refine Sf.bind (s_inq p2 0 5 (by decide) (by decide)) ?_
    intro v6 hr_v6
    refine Sf.ite (fun hc3 => ?_) (fun hc3 => ?_)
    · refine Sf.bind (sX7_refuse h_x0_shelf h_x0_rowSize h_x0_tapeSize h_x0_lines h_x0_line h_x0_changes h_x0_coins h_x0_goods h_x0_good h_x0_works h_x0_work h_x0_years h_x0_from h_x0_far h_x0_way h_x0_steps h_x0_queue (by decide)) ?_
      rintro ⟨v31, g32⟩ hr4
      have hx_v31 : (v31 = (-2)) := hr4
      dsimp only [u2]
      exact Sf.ok trivial
    · refine Sf.rdI 8 rfl h_x0_shelf (by grind) (fun v8 h_v8 e_v8 => ?_)
      refine Sf.ite (fun hc5 => ?_) (fun hc5 => ?_)
      · refine Sf.bind (sX7_refuse h_x0_shelf h_x0_rowSize h_x0_tapeSize h_x0_lines h_x0_line h_x0_changes h_x0_coins h_x0_goods h_x0_good h_x0_works h_x0_work h_x0_years h_x0_from h_x0_far h_x0_way h_x0_steps h_x0_queue (by decide)) ?_
        rintro ⟨v9, g10⟩ hr6
        have hx_v9 : (v9 = (-3)) := hr6
        dsimp only [u2]
        exact Sf.ok trivial
      · refine Sf.rdI 8 rfl h_x0_shelf (by grind) (fun v12 h_v12 e_v12 => ?_)
        refine Sf.ite (fun hc7 => ?_) (fun hc7 => ?_)
        · refine Sf.rdb 8 rfl (by grind) (fun v23 e_v23 => ?_)
          refine Sf.ckb 7 rfl (by grind) (fun q24 e_q24 h_q24 => ?_)
          refine Sf.rdl 0 rfl rfl (fun v25 e_v25 => ?_)
          have h_v25 : 0 ≤ v25 ∧ v25 ≤ 5 := by rw [e_v25]; exact (h_x0_work.1 q24) 0
          refine Sf.bind (sX7_isUnder ) ?_
          intro v26 hr8
          refine Sf.ite (fun hc9 => ?_) (fun hc9 => ?_)
          · refine Sf.bind (sX7_refuse h_x0_shelf h_x0_rowSize h_x0_tapeSize h_x0_lines h_x0_line h_x0_changes h_x0_coins h_x0_goods h_x0_good h_x0_works h_x0_work h_x0_years h_x0_from h_x0_far h_x0_way h_x0_steps h_x0_queue (by decide)) ?_
            rintro ⟨v28, g29⟩ hr10
            have hx_v28 : (v28 = (-3)) := hr10
            dsimp only [u2]
            exact Sf.ok trivial
          · unfold fX7_says_j78
            refine Sf.rdI 8 rfl h_x0_shelf (by grind) (fun v13 h_v13 e_v13 => ?_)
            refine Sf.ite (fun hc11 => ?_) (fun hc11 => ?_)
            · refine Sf.bind (sX7_refuse h_x0_shelf h_x0_rowSize h_x0_tapeSize h_x0_lines h_x0_line h_x0_changes h_x0_coins h_x0_goods h_x0_good h_x0_works h_x0_work h_x0_years h_x0_from h_x0_far h_x0_way h_x0_steps h_x0_queue (by decide)) ?_
              rintro ⟨v20, g21⟩ hr12
              have hx_v20 : (v20 = (-4)) := hr12
              dsimp only [u2]
              exact Sf.ok trivial
            · refine Sf.rdb 8 rfl (by grind) (fun v14 e_v14 => ?_)
              refine Sf.ckb 7 rfl (by grind) (fun q15 e_q15 h_q15 => ?_)
              refine Sf.ite (fun hc13 => ?_) (fun hc13 => ?_)
              · refine Sf.rdl 3 rfl rfl (fun v19 e_v19 => ?_)
                have h_v19 : 0 ≤ v19 ∧ v19 ≤ 9999 := by rw [e_v19]; exact (h_x0_work.1 q15) 3
                exact Sf.ok trivial
              · refine Sf.ite (fun hc14 => ?_) (fun hc14 => ?_)
                · refine Sf.rdl 1 rfl rfl (fun v16 e_v16 => ?_)
                  have h_v16 : 0 ≤ v16 ∧ v16 ≤ 19 := by rw [e_v16]; exact (h_x0_work.1 q15) 1
                  refine Sf.rdl 2 rfl rfl (fun v17 e_v17 => ?_)
                  have h_v17 : 0 ≤ v17 ∧ v17 ≤ 99 := by rw [e_v17]; exact (h_x0_work.1 q15) 2
                  exact Sf.ok trivial
                · refine Sf.rdl 1 rfl rfl (fun v18 e_v18 => ?_)
                  have h_v18 : 0 ≤ v18 ∧ v18 ≤ 19 := by rw [e_v18]; exact (h_x0_work.1 q15) 1
                  exact Sf.ok trivial
        · unfold fX7_says_j78
          refine Sf.rdI 8 rfl h_x0_shelf (by grind) (fun v13 h_v13 e_v13 => ?_)
          refine Sf.ite (fun hc15 => ?_) (fun hc15 => ?_)
          · refine Sf.bind (sX7_refuse h_x0_shelf h_x0_rowSize h_x0_tapeSize h_x0_lines h_x0_line h_x0_changes h_x0_coins h_x0_goods h_x0_good h_x0_works h_x0_work h_x0_years h_x0_from h_x0_far h_x0_way h_x0_steps h_x0_queue (by decide)) ?_
            rintro ⟨v20, g21⟩ hr16
            have hx_v20 : (v20 = (-4)) := hr16
            dsimp only [u2]
            exact Sf.ok trivial
          · refine Sf.rdb 8 rfl (by grind) (fun v14 e_v14 => ?_)
            refine Sf.ckb 7 rfl (by grind) (fun q15 e_q15 h_q15 => ?_)
            refine Sf.ite (fun hc17 => ?_) (fun hc17 => ?_)
            · refine Sf.rdl 3 rfl rfl (fun v19 e_v19 => ?_)
              have h_v19 : 0 ≤ v19 ∧ v19 ≤ 9999 := by rw [e_v19]; exact (h_x0_work.1 q15) 3
              exact Sf.ok trivial
            · refine Sf.ite (fun hc18 => ?_) (fun hc18 => ?_)
              · refine Sf.rdl 1 rfl rfl (fun v16 e_v16 => ?_)
                have h_v16 : 0 ≤ v16 ∧ v16 ≤ 19 := by rw [e_v16]; exact (h_x0_work.1 q15) 1
                refine Sf.rdl 2 rfl rfl (fun v17 e_v17 => ?_)
                have h_v17 : 0 ≤ v17 ∧ v17 ≤ 99 := by rw [e_v17]; exact (h_x0_work.1 q15) 2
                exact Sf.ok trivial
              · refine Sf.rdl 1 rfl rfl (fun v18 e_v18 => ?_)
                have h_v18 : 0 ≤ v18 ∧ v18 ≤ 19 := by rw [e_v18]; exact (h_x0_work.1 q15) 1
                exact Sf.ok trivial
set_option maxHeartbeats 1000000 in
theorem sX7_work {x0_shelf x0_rowSort x0_rowSize : (Nat → Int32)} {x0_rows : (Nat → Nat → Int64)} {x0_moved : (Nat → Int64)} {x0_shown x0_tape : (Nat → Int32)} {x0_tapeSize : Int32} {x0_refused : (Nat → Int32)} {x0_lines : Int32} {x0_line : (Nat → Nat → Int32)} {x0_changes x0_coins : (Nat → Int32)} {x0_goods : Int32} {x0_good : (Nat → Nat → Int32)} {x0_works : Int32} {x0_work : (Nat → Nat → Int32)} {x0_years x0_gone x0_spent x0_at x0_token x0_from : Int32} {x0_figures : Int64} {x0_fault : Int32} {x0_numbers : (Nat → Int32)} {x0_statements : Int32} {x0_left x0_far : (Nat → Int32)} {x0_tons : Int32} {x0_way : (Nat → Int32)} {x0_steps : Int32} {x0_met : Int64} {x0_queue x0_totals : (Nat → Int32)} {p1 p2 p3 p4 : Int32}  (h_x0_shelf : (AI 0 2 x0_shelf)) (h_x0_rowSize : (AI 0 40 x0_rowSize)) (h_x0_tapeSize : (0 ≤ x0_tapeSize ∧ x0_tapeSize ≤ 250)) (h_x0_lines : (0 ≤ x0_lines ∧ x0_lines ≤ 20)) (h_x0_line : (LnM x0_line)) (h_x0_changes : (AI 0 99 x0_changes)) (h_x0_coins : (AI 0 9 x0_coins)) (h_x0_goods : (0 ≤ x0_goods ∧ x0_goods ≤ 8)) (h_x0_good : (GdM x0_good)) (h_x0_works : (0 ≤ x0_works ∧ x0_works ≤ 7)) (h_x0_work : (WkM x0_work)) (h_x0_years : (1 ≤ x0_years ∧ x0_years ≤ 30)) (h_x0_from : (0 ≤ x0_from ∧ x0_from ≤ 250)) (h_x0_far : (AI 0 1000000000 x0_far)) (h_x0_way : (AI 0 22 x0_way)) (h_x0_steps : (0 ≤ x0_steps ∧ x0_steps ≤ 37)) (h_x0_queue : (AI 0 35 x0_queue)) : Sf (fX7_work (x0_shelf, x0_rowSort, x0_rowSize, x0_rows, x0_moved, x0_shown, x0_tape, x0_tapeSize, x0_refused, x0_lines, x0_line, x0_changes, x0_coins, x0_goods, x0_good, x0_works, x0_work, x0_years, x0_gone, x0_spent, x0_at, x0_token, x0_from, x0_figures, x0_fault, x0_numbers, x0_statements, x0_left, x0_far, x0_tons, x0_way, x0_steps, x0_met, x0_queue, x0_totals) p1 p2 p3 p4) (fun r => (0 ≤ r.2.2.1 ∧ r.2.2.1 ≤ 7) ∧ (WkM r.2.2.2)) := by
  unfold fX7_work
  dsimp only [u35]
  simp only [va_up_self, va_up_up]
  refine Sf.bind (s_inq p1 1 5 (by decide) (by decide)) ?_
  intro v1 hr_v1
  refine Sf.ite (fun hc1 => ?_) (fun hc1 => ?_)
  · refine Sf.bind (sX7_refuse h_x0_shelf h_x0_rowSize h_x0_tapeSize h_x0_lines h_x0_line h_x0_changes h_x0_coins h_x0_goods h_x0_good h_x0_works h_x0_work h_x0_years h_x0_from h_x0_far h_x0_way h_x0_steps h_x0_queue (by decide)) ?_
    rintro ⟨v3, g4⟩ hr2
    have hx_v3 : (v3 = (-2)) := hr2
    dsimp only [u2]
    exact Sf.ok (show (0 ≤ x0_works ∧ x0_works ≤ 7) ∧ (WkM x0_work) from ⟨h_x0_works, h_x0_work⟩)
  · refine Sf.bind (sX7_mayBeFirst h_x0_shelf h_x0_rowSize h_x0_tapeSize h_x0_lines h_x0_line h_x0_changes h_x0_coins h_x0_goods h_x0_good h_x0_works h_x0_work h_x0_years h_x0_from h_x0_far h_x0_way h_x0_steps h_x0_queue) ?_
    intro v6 hr3
    obtain ⟨h_v6, hx_v6⟩ : (0 ≤ v6 ∧ v6 ≤ 1) ∧ (v6 = 0 ∨ (0 ≤ p2 ∧ p2 ≤ 19 ∧ (p1 = 1 ∨ p1 = 2 ∨ p2 ≤ 11))) := hr3
    refine Sf.ite (fun hc4 => ?_) (fun hc4 => ?_)
    · refine Sf.bind (sX7_refuse h_x0_shelf h_x0_rowSize h_x0_tapeSize h_x0_lines h_x0_line h_x0_changes h_x0_coins h_x0_goods h_x0_good h_x0_works h_x0_work h_x0_years h_x0_from h_x0_far h_x0_way h_x0_steps h_x0_queue (by decide)) ?_
      rintro ⟨v8, g9⟩ hr5
      have hx_v8 : (v8 = (-2)) := hr5
      dsimp only [u2]
      exact Sf.ok (show (0 ≤ x0_works ∧ x0_works ≤ 7) ∧ (WkM x0_work) from ⟨h_x0_works, h_x0_work⟩)
    · refine Sf.bind (sX7_mayBeSecond ) ?_
      intro v11 hr6
      obtain ⟨h_v11, hx_v11⟩ : (0 ≤ v11 ∧ v11 ≤ 1) ∧ (v11 = 0 ∨ (0 ≤ p3 ∧ p3 ≤ 99 ∧ (p1 = 1 ∨ p1 = 2 → p3 ≤ 2) ∧ (p1 = 1 ∨ p1 = 2 ∨ p1 = 3 ∨ p3 ≤ 11))) := hr6
      refine Sf.ite (fun hc7 => ?_) (fun hc7 => ?_)
      · refine Sf.bind (sX7_refuse h_x0_shelf h_x0_rowSize h_x0_tapeSize h_x0_lines h_x0_line h_x0_changes h_x0_coins h_x0_goods h_x0_good h_x0_works h_x0_work h_x0_years h_x0_from h_x0_far h_x0_way h_x0_steps h_x0_queue (by decide)) ?_
        rintro ⟨v13, g14⟩ hr8
        have hx_v13 : (v13 = (-2)) := hr8
        dsimp only [u2]
        exact Sf.ok (show (0 ≤ x0_works ∧ x0_works ≤ 7) ∧ (WkM x0_work) from ⟨h_x0_works, h_x0_work⟩)
      · refine Sf.bind (s_inq p4 0 9999 (by decide) (by decide)) ?_
        intro v16 hr_v16
        refine Sf.ite (fun hc9 => ?_) (fun hc9 => ?_)
        · refine Sf.bind (sX7_refuse h_x0_shelf h_x0_rowSize h_x0_tapeSize h_x0_lines h_x0_line h_x0_changes h_x0_coins h_x0_goods h_x0_good h_x0_works h_x0_work h_x0_years h_x0_from h_x0_far h_x0_way h_x0_steps h_x0_queue (by decide)) ?_
          rintro ⟨v27, g28⟩ hr10
          have hx_v27 : (v27 = (-2)) := hr10
          dsimp only [u2]
          exact Sf.ok (show (0 ≤ x0_works ∧ x0_works ≤ 7) ∧ (WkM x0_work) from ⟨h_x0_works, h_x0_work⟩)
        · refine Sf.ite (fun hc11 => ?_) (fun hc11 => ?_)
          · refine Sf.bind (sX7_refuse h_x0_shelf h_x0_rowSize h_x0_tapeSize h_x0_lines h_x0_line h_x0_changes h_x0_coins h_x0_goods h_x0_good h_x0_works h_x0_work h_x0_years h_x0_from h_x0_far h_x0_way h_x0_steps h_x0_queue (by decide)) ?_
            rintro ⟨v24, g25⟩ hr12
            have hx_v24 : (v24 = (-6)) := hr12
            dsimp only [u2]
            exact Sf.ok (show (0 ≤ x0_works ∧ x0_works ≤ 7) ∧ (WkM x0_work) from ⟨h_x0_works, h_x0_work⟩)
          · refine Sf.ckb 7 rfl (by grind) (fun q18 e_q18 h_q18 => ?_)
            refine Sf.wrl 0 rfl rfl (fun f19 e_f19 => ?_)
            have h_f19 : RI wkB f19 := by rw [e_f19]; exact RI.up (h_x0_work.1 q18) (show 0 ≤ p1 ∧ p1 ≤ 5 from (by grind))
            refine Sf.wrl 1 rfl rfl (fun f20 e_f20 => ?_)
            have h_f20 : RI wkB f20 := by rw [e_f20]; exact RI.up h_f19 (show 0 ≤ p2 ∧ p2 ≤ 19 from (by grind))
            refine Sf.wrl 2 rfl rfl (fun f21 e_f21 => ?_)
            have h_f21 : RI wkB f21 := by rw [e_f21]; exact RI.up h_f20 (show 0 ≤ p3 ∧ p3 ≤ 99 from (by grind))
            refine Sf.wrl 3 rfl rfl (fun f22 e_f22 => ?_)
            have h_f22 : RI wkB f22 := by rw [e_f22]; exact RI.up h_f21 (show 0 ≤ p4 ∧ p4 ≤ 9999 from (by grind))
            refine Sf.wrl 4 rfl rfl (fun f23 e_f23 => ?_)
            have h_f23 : RI wkB f23 := by rw [e_f23]; exact RI.up h_f22 (show 0 ≤ 0 ∧ 0 ≤ 1 from (by decide))
            exact Sf.ok (show (0 ≤ (x0_works + 1) ∧ (x0_works + 1) ≤ 7) ∧ (WkM (va_up x0_work q18 f23)) from ⟨(by grind), (WkM.up h_x0_work h_f23 (by rw [e_f23, e_f22, e_f21, e_f20, e_f19]; exact (show WkRm p1 p2 p3 by clear e_f23 e_f22 e_f21 e_f20 e_f19; unfold WkRm; grind)))⟩)
theorem TX7_feed_s42 {p1 z4 : Int32} {z5 : (Nat → Int32)} {z6 : Int32}  (h_z4 : ((-1) ≤ z4 ∧ z4 ≤ 3)) (h_z6 : (0 ≤ z6 ∧ z6 ≤ 250)) (hi_0 : z6 + z4 ≤ 249) : Sf (fX7_feed_s42 p1 z4 z5 z6) (LQ (fun (e : Int32 × (Nat → Int32) × Int32) => ((-1) ≤ e.1 ∧ e.1 ≤ 3) ∧ (0 ≤ e.2.2 ∧ e.2.2 ≤ 250) ∧ (e.2.2 + e.1 ≤ 249)) (fun (e : Int32 × (Nat → Int32) × Int32) => muDe e.1) (muDe z4) (fun e => (0 ≤ e.2 ∧ e.2 ≤ 250))) := by
  unfold fX7_feed_s42
  refine Sf.ite (fun hc1 => ?_) (fun hc1 => ?_)
  · exact Sf.inr (show (0 ≤ z6 ∧ z6 ≤ 250) from h_z6)
  · refine Sf.someb (fun t10 e_t10 => ?_)
    refine Sf.wrb 250 rfl (by grind) (fun f11 e_f11 => ?_)
    clear e_f11
    exact Sf.inl (show ((-1) ≤ (z4 + (-1)) ∧ (z4 + (-1)) ≤ 3) ∧ (0 ≤ (z6 + 1) ∧ (z6 + 1) ≤ 250) ∧ ((z6 + 1) + (z4 + (-1)) ≤ 249) from ⟨(by grind), (by grind), (by grind)⟩) (muDe_lta hc1)
theorem LX7_feed_s42 {n : Nat} {p1 z4 : Int32} {z5 : (Nat → Int32)} {z6 : Int32} (hn : 1000000000000 ≤ n) (h_z4 : ((-1) ≤ z4 ∧ z4 ≤ 3)) (h_z6 : (0 ≤ z6 ∧ z6 ≤ 250)) (hi_0 : z6 + z4 ≤ 249) : Sf (lp (u3 (fX7_feed_s42 p1)) n (z4, z5, z6)) (fun e => (0 ≤ e.2 ∧ e.2 ≤ 250)) :=
  Sf.loop (fun (e : Int32 × (Nat → Int32) × Int32) => ((-1) ≤ e.1 ∧ e.1 ≤ 3) ∧ (0 ≤ e.2.2 ∧ e.2.2 ≤ 250) ∧ (e.2.2 + e.1 ≤ 249)) (fun (e : Int32 × (Nat → Int32) × Int32) => muDe e.1) (fun s h => by rw [u3_def]; exact TX7_feed_s42 h.1 h.2.1 h.2.2) n _ (show ((-1) ≤ z4 ∧ z4 ≤ 3) ∧ (0 ≤ z6 ∧ z6 ≤ 250) ∧ (z6 + z4 ≤ 249) from ⟨h_z4, h_z6, hi_0⟩) (muDe_n hn)
set_option maxHeartbeats 1000000 in
theorem sX7_feed {n : Nat} {x0_shelf x0_rowSort x0_rowSize : (Nat → Int32)} {x0_rows : (Nat → Nat → Int64)} {x0_moved : (Nat → Int64)} {x0_shown x0_tape : (Nat → Int32)} {x0_tapeSize : Int32} {x0_refused : (Nat → Int32)} {x0_lines : Int32} {x0_line : (Nat → Nat → Int32)} {x0_changes x0_coins : (Nat → Int32)} {x0_goods : Int32} {x0_good : (Nat → Nat → Int32)} {x0_works : Int32} {x0_work : (Nat → Nat → Int32)} {x0_years x0_gone x0_spent x0_at x0_token x0_from : Int32} {x0_figures : Int64} {x0_fault : Int32} {x0_numbers : (Nat → Int32)} {x0_statements : Int32} {x0_left x0_far : (Nat → Int32)} {x0_tons : Int32} {x0_way : (Nat → Int32)} {x0_steps : Int32} {x0_met : Int64} {x0_queue x0_totals : (Nat → Int32)} {p1 p2 : Int32} (hn : 1000000000000 ≤ n) (h_x0_shelf : (AI 0 2 x0_shelf)) (h_x0_rowSize : (AI 0 40 x0_rowSize)) (h_x0_tapeSize : (0 ≤ x0_tapeSize ∧ x0_tapeSize ≤ 250)) (h_x0_lines : (0 ≤ x0_lines ∧ x0_lines ≤ 20)) (h_x0_line : (LnM x0_line)) (h_x0_changes : (AI 0 99 x0_changes)) (h_x0_coins : (AI 0 9 x0_coins)) (h_x0_goods : (0 ≤ x0_goods ∧ x0_goods ≤ 8)) (h_x0_good : (GdM x0_good)) (h_x0_works : (0 ≤ x0_works ∧ x0_works ≤ 7)) (h_x0_work : (WkM x0_work)) (h_x0_years : (1 ≤ x0_years ∧ x0_years ≤ 30)) (h_x0_from : (0 ≤ x0_from ∧ x0_from ≤ 250)) (h_x0_far : (AI 0 1000000000 x0_far)) (h_x0_way : (AI 0 22 x0_way)) (h_x0_steps : (0 ≤ x0_steps ∧ x0_steps ≤ 37)) (h_x0_queue : (AI 0 35 x0_queue)) : Sf (fX7_feed n (x0_shelf, x0_rowSort, x0_rowSize, x0_rows, x0_moved, x0_shown, x0_tape, x0_tapeSize, x0_refused, x0_lines, x0_line, x0_changes, x0_coins, x0_goods, x0_good, x0_works, x0_work, x0_years, x0_gone, x0_spent, x0_at, x0_token, x0_from, x0_figures, x0_fault, x0_numbers, x0_statements, x0_left, x0_far, x0_tons, x0_way, x0_steps, x0_met, x0_queue, x0_totals) p1 p2) (fun r => (0 ≤ r.2.2.1 ∧ r.2.2.1 ≤ 250)) := by
  unfold fX7_feed
  dsimp only [u35]
  refine Sf.bind (s_inq p2 1 4 (by decide) (by decide)) ?_
  intro v1 hr_v1
  refine Sf.ite (fun hc1 => ?_) (fun hc1 => ?_)
  · refine Sf.bind (sX7_refuse h_x0_shelf h_x0_rowSize h_x0_tapeSize h_x0_lines h_x0_line h_x0_changes h_x0_coins h_x0_goods h_x0_good h_x0_works h_x0_work h_x0_years h_x0_from h_x0_far h_x0_way h_x0_steps h_x0_queue (by decide)) ?_
    rintro ⟨v15, g16⟩ hr2
    have hx_v15 : (v15 = (-2)) := hr2
    exact Sf.ok (show (0 ≤ x0_tapeSize ∧ x0_tapeSize ≤ 250) from h_x0_tapeSize)
  · refine Sf.ite (fun hc3 => ?_) (fun hc3 => ?_)
    · refine Sf.bind (LX7_feed_s42 hn (by grind) h_x0_tapeSize (by grind)) ?_
      rintro ⟨w8, w9⟩ hr4
      have h_w9 : (0 ≤ w9 ∧ w9 ≤ 250) := hr4
      exact Sf.ok (show (0 ≤ w9 ∧ w9 ≤ 250) from h_w9)
    · refine Sf.bind (sX7_refuse h_x0_shelf h_x0_rowSize h_x0_tapeSize h_x0_lines h_x0_line h_x0_changes h_x0_coins h_x0_goods h_x0_good h_x0_works h_x0_work h_x0_years h_x0_from h_x0_far h_x0_way h_x0_steps h_x0_queue (by decide)) ?_
      rintro ⟨v12, g13⟩ hr5
      have hx_v12 : (v12 = (-6)) := hr5
      exact Sf.ok (show (0 ≤ x0_tapeSize ∧ x0_tapeSize ≤ 250) from h_x0_tapeSize)
set_option maxHeartbeats 1000000 in
theorem sX7_does {x0_shelf x0_rowSort x0_rowSize : (Nat → Int32)} {x0_rows : (Nat → Nat → Int64)} {x0_moved : (Nat → Int64)} {x0_shown x0_tape : (Nat → Int32)} {x0_tapeSize : Int32} {x0_refused : (Nat → Int32)} {x0_lines : Int32} {x0_line : (Nat → Nat → Int32)} {x0_changes x0_coins : (Nat → Int32)} {x0_goods : Int32} {x0_good : (Nat → Nat → Int32)} {x0_works : Int32} {x0_work : (Nat → Nat → Int32)} {x0_years x0_gone x0_spent x0_at x0_token x0_from : Int32} {x0_figures : Int64} {x0_fault : Int32} {x0_numbers : (Nat → Int32)} {x0_statements : Int32} {x0_left x0_far : (Nat → Int32)} {x0_tons : Int32} {x0_way : (Nat → Int32)} {x0_steps : Int32} {x0_met : Int64} {x0_queue x0_totals : (Nat → Int32)} {p1 : Int32}  (h_x0_shelf : (AI 0 2 x0_shelf)) (h_x0_rowSize : (AI 0 40 x0_rowSize)) (h_x0_tapeSize : (0 ≤ x0_tapeSize ∧ x0_tapeSize ≤ 250)) (h_x0_lines : (0 ≤ x0_lines ∧ x0_lines ≤ 20)) (h_x0_line : (LnM x0_line)) (h_x0_changes : (AI 0 99 x0_changes)) (h_x0_coins : (AI 0 9 x0_coins)) (h_x0_goods : (0 ≤ x0_goods ∧ x0_goods ≤ 8)) (h_x0_good : (GdM x0_good)) (h_x0_works : (0 ≤ x0_works ∧ x0_works ≤ 7)) (h_x0_work : (WkM x0_work)) (h_x0_years : (1 ≤ x0_years ∧ x0_years ≤ 30)) (h_x0_from : (0 ≤ x0_from ∧ x0_from ≤ 250)) (h_x0_far : (AI 0 1000000000 x0_far)) (h_x0_way : (AI 0 22 x0_way)) (h_x0_steps : (0 ≤ x0_steps ∧ x0_steps ≤ 37)) (h_x0_queue : (AI 0 35 x0_queue)) (h_p1 : (0 ≤ p1 ∧ p1 ≤ 6)) : Sf (fX7_does (x0_shelf, x0_rowSort, x0_rowSize, x0_rows, x0_moved, x0_shown, x0_tape, x0_tapeSize, x0_refused, x0_lines, x0_line, x0_changes, x0_coins, x0_goods, x0_good, x0_works, x0_work, x0_years, x0_gone, x0_spent, x0_at, x0_token, x0_from, x0_figures, x0_fault, x0_numbers, x0_statements, x0_left, x0_far, x0_tons, x0_way, x0_steps, x0_met, x0_queue, x0_totals) p1) (fun r => (0 ≤ r.1 ∧ r.1 ≤ 20) ∧ (LnM r.2.1) ∧ (AI 0 99 r.2.2.1) ∧ (WkM r.2.2.2) ∧ (r.2.2.2 = va_up x0_work (p1 : Int32).toNatClampNeg (va_up (x0_work (p1 : Int32).toNatClampNeg) 4 1))) := by
  unfold fX7_does
  dsimp only [u35]
  simp only [va_up_self, va_up_up]
  refine Sf.ckb 7 rfl (by grind) (fun q1 e_q1 h_q1 => ?_)
  refine Sf.wrl 4 rfl rfl (fun f2 e_f2 => ?_)
  have h_f2 : RI wkB f2 := by rw [e_f2]; exact RI.up (h_x0_work.1 q1) (show 0 ≤ 1 ∧ 1 ≤ 1 from (by decide))
  have hRR : WkRm (f2 0) (f2 1) (f2 2) := by rw [e_f2]; exact h_x0_work.2 q1 h_q1
  have hRR2 := hRR
  unfold WkRm at hRR2
  refine Sf.rdl 0 rfl rfl (fun v3 e_v3 => ?_)
  have h_v3 : 0 ≤ v3 ∧ v3 ≤ 5 := by rw [e_v3]; exact h_f2 0
  refine Sf.ite (fun hc1 => ?_) (fun hc1 => ?_)
  · refine Sf.rdl 1 rfl rfl (fun v4 e_v4 => ?_)
    have h_v4 : 0 ≤ v4 ∧ v4 ≤ 19 := by rw [e_v4]; exact h_f2 1
    refine Sf.ckb 20 rfl (by grind) (fun q5 e_q5 h_q5 => ?_)
    refine Sf.rdl 2 rfl rfl (fun v6 e_v6 => ?_)
    have h_v6 : 0 ≤ v6 ∧ v6 ≤ 99 := by rw [e_v6]; exact h_f2 2
    refine Sf.someb (fun t7 e_t7 => ?_)
    have h_t7 : 0 ≤ t7 ∧ t7 ≤ 7 := by rw [e_t7]; exact sh_w (by grind)
    refine Sf.wrl 2 rfl rfl (fun f8 e_f8 => ?_)
    have h_f8 : RI lnB f8 := by rw [e_f8]; exact RI.up (h_x0_line q5) (show 0 ≤ t7 ∧ t7 ≤ 7 from h_t7)
    exact Sf.ok (show (0 ≤ x0_lines ∧ x0_lines ≤ 20) ∧ (LnM (va_up x0_line q5 f8)) ∧ (AI 0 99 x0_changes) ∧ (WkM (va_up x0_work q1 f2)) ∧ ((va_up x0_work q1 f2) = va_up x0_work (p1 : Int32).toNatClampNeg (va_up (x0_work (p1 : Int32).toNatClampNeg) 4 1)) from ⟨h_x0_lines, (GI.up h_x0_line h_f8), h_x0_changes, (WkM.up h_x0_work h_f2 (by exact hRR)), (by rw [e_f2, e_q1])⟩)
  · refine Sf.ite (fun hc2 => ?_) (fun hc2 => ?_)
    · refine Sf.rdl 1 rfl rfl (fun v9 e_v9 => ?_)
      have h_v9 : 0 ≤ v9 ∧ v9 ≤ 19 := by rw [e_v9]; exact h_f2 1
      refine Sf.ckb 20 rfl (by grind) (fun q10 e_q10 h_q10 => ?_)
      refine Sf.rdl 2 rfl rfl (fun v11 e_v11 => ?_)
      have h_v11 : 0 ≤ v11 ∧ v11 ≤ 7 := by rw [e_v11]; exact (h_x0_line q10) 2
      refine Sf.rdl 2 rfl rfl (fun v12 e_v12 => ?_)
      have h_v12 : 0 ≤ v12 ∧ v12 ≤ 99 := by rw [e_v12]; exact h_f2 2
      refine Sf.someb (fun t13 e_t13 => ?_)
      have h_t13 : 0 ≤ t13 ∧ t13 ≤ 7 := by rw [e_t13]; exact or_w h_v11 (by grind)
      refine Sf.wrl 2 rfl rfl (fun f14 e_f14 => ?_)
      have h_f14 : RI lnB f14 := by rw [e_f14]; exact RI.up (h_x0_line q10) (show 0 ≤ t13 ∧ t13 ≤ 7 from h_t13)
      exact Sf.ok (show (0 ≤ x0_lines ∧ x0_lines ≤ 20) ∧ (LnM (va_up x0_line q10 f14)) ∧ (AI 0 99 x0_changes) ∧ (WkM (va_up x0_work q1 f2)) ∧ ((va_up x0_work q1 f2) = va_up x0_work (p1 : Int32).toNatClampNeg (va_up (x0_work (p1 : Int32).toNatClampNeg) 4 1)) from ⟨h_x0_lines, (GI.up h_x0_line h_f14), h_x0_changes, (WkM.up h_x0_work h_f2 (by exact hRR)), (by rw [e_f2, e_q1])⟩)
    · refine Sf.ite (fun hc3 => ?_) (fun hc3 => ?_)
      · refine Sf.rdl 1 rfl rfl (fun v15 e_v15 => ?_)
        have h_v15 : 0 ≤ v15 ∧ v15 ≤ 19 := by rw [e_v15]; exact h_f2 1
        refine Sf.rdl 2 rfl rfl (fun v16 e_v16 => ?_)
        have h_v16 : 0 ≤ v16 ∧ v16 ≤ 99 := by rw [e_v16]; exact h_f2 2
        refine Sf.wrI 12 rfl h_x0_changes (by grind) h_v16 (fun f17 h_f17 e_f17 => ?_)
        exact Sf.ok (show (0 ≤ x0_lines ∧ x0_lines ≤ 20) ∧ (LnM x0_line) ∧ (AI 0 99 f17) ∧ (WkM (va_up x0_work q1 f2)) ∧ ((va_up x0_work q1 f2) = va_up x0_work (p1 : Int32).toNatClampNeg (va_up (x0_work (p1 : Int32).toNatClampNeg) 4 1)) from ⟨h_x0_lines, h_x0_line, h_f17, (WkM.up h_x0_work h_f2 (by exact hRR)), (by rw [e_f2, e_q1])⟩)
      · refine Sf.ite (fun hc4 => ?_) (fun hc4 => ?_)
        · exact Sf.ok (show (0 ≤ x0_lines ∧ x0_lines ≤ 20) ∧ (LnM x0_line) ∧ (AI 0 99 x0_changes) ∧ (WkM (va_up x0_work q1 f2)) ∧ ((va_up x0_work q1 f2) = va_up x0_work (p1 : Int32).toNatClampNeg (va_up (x0_work (p1 : Int32).toNatClampNeg) 4 1)) from ⟨h_x0_lines, h_x0_line, h_x0_changes, (WkM.up h_x0_work h_f2 (by exact hRR)), (by rw [e_f2, e_q1])⟩)
        · refine Sf.rdl 1 rfl rfl (fun v18 e_v18 => ?_)
          have h_v18 : 0 ≤ v18 ∧ v18 ≤ 19 := by rw [e_v18]; exact h_f2 1
          refine Sf.rdl 2 rfl rfl (fun v19 e_v19 => ?_)
          have h_v19 : 0 ≤ v19 ∧ v19 ≤ 99 := by rw [e_v19]; exact h_f2 2
          refine Sf.bind (sX7_newLine h_x0_shelf h_x0_rowSize h_x0_tapeSize h_x0_lines h_x0_line h_x0_changes h_x0_coins h_x0_goods h_x0_good h_x0_works (WkM.up h_x0_work h_f2 (by exact hRR)) h_x0_years h_x0_from h_x0_far h_x0_way h_x0_steps h_x0_queue (by grind) (by grind) (by grind)) ?_
          intro g20 hr5
          have h_g20 : (LnM g20) := hr5
          refine Sf.ckb 20 rfl (by grind) (fun q22 e_q22 h_q22 => ?_)
          refine Sf.rdl 0 rfl rfl (fun v23 e_v23 => ?_)
          have h_v23 : 0 ≤ v23 ∧ v23 ≤ 5 := by rw [e_v23]; exact h_f2 0
          refine Sf.ite (fun hc6 => ?_) (fun hc6 => ?_)
          · unfold fX7_does_j137
            refine Sf.wrl 4 rfl rfl (fun f25 e_f25 => ?_)
            have h_f25 : RI lnB f25 := by rw [e_f25]; exact RI.up (h_g20 q22) (show 0 ≤ 99 ∧ 99 ≤ 999 from (by decide))
            exact Sf.ok (show (0 ≤ (x0_lines + 1) ∧ (x0_lines + 1) ≤ 20) ∧ (LnM (va_up g20 q22 f25)) ∧ (AI 0 99 x0_changes) ∧ (WkM (va_up x0_work q1 f2)) ∧ ((va_up x0_work q1 f2) = va_up x0_work (p1 : Int32).toNatClampNeg (va_up (x0_work (p1 : Int32).toNatClampNeg) 4 1)) from ⟨(by grind), (GI.up h_g20 h_f25), h_x0_changes, (WkM.up h_x0_work h_f2 (by exact hRR)), (by rw [e_f2, e_q1])⟩)
          · unfold fX7_does_j137
            refine Sf.wrl 4 rfl rfl (fun f25 e_f25 => ?_)
            have h_f25 : RI lnB f25 := by rw [e_f25]; exact RI.up (h_g20 q22) (show 0 ≤ 198 ∧ 198 ≤ 999 from (by decide))
            exact Sf.ok (show (0 ≤ (x0_lines + 1) ∧ (x0_lines + 1) ≤ 20) ∧ (LnM (va_up g20 q22 f25)) ∧ (AI 0 99 x0_changes) ∧ (WkM (va_up x0_work q1 f2)) ∧ ((va_up x0_work q1 f2) = va_up x0_work (p1 : Int32).toNatClampNeg (va_up (x0_work (p1 : Int32).toNatClampNeg) 4 1)) from ⟨(by grind), (GI.up h_g20 h_f25), h_x0_changes, (WkM.up h_x0_work h_f2 (by exact hRR)), (by rw [e_f2, e_q1])⟩)

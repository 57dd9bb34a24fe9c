set_option maxHeartbeats 1000000 in
theorem sX7_statement {n : Nat} {x0_shelf x0_rowSort x0_rowSize : (Nat → Int32)} {x0_rows : (Nat → Nat → Int64)} {x0_moved : (Nat → Int64)} {x0_shown x0_tape : (Nat → Int32)} {x0_tapeSize : Int32} {x0_refused : (Nat → Int32)} {x0_lines : Int32} {x0_line : (Nat → Nat → Int32)} {x0_changes x0_coins : (Nat → Int32)} {x0_goods : Int32} {x0_good : (Nat → Nat → Int32)} {x0_works : Int32} {x0_work : (Nat → Nat → Int32)} {x0_years x0_gone x0_spent x0_at x0_token x0_from : Int32} {x0_figures : Int64} {x0_fault : Int32} {x0_numbers : (Nat → Int32)} {x0_statements : Int32} {x0_left x0_far : (Nat → Int32)} {x0_tons : Int32} {x0_way : (Nat → Int32)} {x0_steps : Int32} {x0_met : Int64} {x0_queue x0_totals : (Nat → Int32)} (hn : 1000000000000 ≤ n) (h_x0_shelf : (AI 0 2 x0_shelf)) (h_x0_rowSize : (AI 0 40 x0_rowSize)) (h_x0_tapeSize : (0 ≤ x0_tapeSize ∧ x0_tapeSize ≤ 250)) (h_x0_lines : (0 ≤ x0_lines ∧ x0_lines ≤ 20)) (h_x0_line : (LnM x0_line)) (h_x0_changes : (AI 0 99 x0_changes)) (h_x0_coins : (AI 0 9 x0_coins)) (h_x0_goods : (0 ≤ x0_goods ∧ x0_goods ≤ 8)) (h_x0_good : (GdM x0_good)) (h_x0_works : (0 ≤ x0_works ∧ x0_works ≤ 7)) (h_x0_work : (WkM x0_work)) (h_x0_years : (1 ≤ x0_years ∧ x0_years ≤ 30)) (h_x0_at : (0 ≤ x0_at)) (h_x0_from : (0 ≤ x0_from ∧ x0_from ≤ 250)) (h_x0_far : (AI 0 1000000000 x0_far)) (h_x0_way : (AI 0 22 x0_way)) (h_x0_steps : (0 ≤ x0_steps ∧ x0_steps ≤ 37)) (h_x0_queue : (AI 0 35 x0_queue)) (he_0 : x0_at ≤ x0_tapeSize) : Sf (fX7_statement n (x0_shelf, x0_rowSort, x0_rowSize, x0_rows, x0_moved, x0_shown, x0_tape, x0_tapeSize, x0_refused, x0_lines, x0_line, x0_changes, x0_coins, x0_goods, x0_good, x0_works, x0_work, x0_years, x0_gone, x0_spent, x0_at, x0_token, x0_from, x0_figures, x0_fault, x0_numbers, x0_statements, x0_left, x0_far, x0_tons, x0_way, x0_steps, x0_met, x0_queue, x0_totals)) (fun r => (0 ≤ r.2.1 ∧ r.2.1 ≤ 20) ∧ (LnM r.2.2.1) ∧ (AI 0 99 r.2.2.2.1) ∧ (AI 0 9 r.2.2.2.2.1) ∧ (0 ≤ r.2.2.2.2.2.1 ∧ r.2.2.2.2.2.1 ≤ 8) ∧ (GdM r.2.2.2.2.2.2.1) ∧ (0 ≤ r.2.2.2.2.2.2.2.1 ∧ r.2.2.2.2.2.2.2.1 ≤ 7) ∧ (WkB r.2.2.2.2.2.2.2.2.1) ∧ (1 ≤ r.2.2.2.2.2.2.2.2.2.1 ∧ r.2.2.2.2.2.2.2.2.2.1 ≤ 30) ∧ (0 ≤ r.2.2.2.2.2.2.2.2.2.2.2.2.1 ∧ r.2.2.2.2.2.2.2.2.2.2.2.2.1 ≤ 250) ∧ ((r.1 = 0 ∨ r.1 = 1) ∧ (0 ≤ r.2.2.2.2.2.2.2.2.2.2.1 ∧ r.2.2.2.2.2.2.2.2.2.2.1 ≤ x0_tapeSize) ∧ x0_at ≤ r.2.2.2.2.2.2.2.2.2.2.1 ∧ (r.1 = 0 ∨ r.2.2.2.2.2.2.2.2.2.2.2.1 ≠ 3 ∨ x0_at < r.2.2.2.2.2.2.2.2.2.2.1) ∧ (r.1 = 0 ∨ WkM r.2.2.2.2.2.2.2.2.1))) := by
  unfold fX7_statement
  dsimp only [u35]
  refine Sf.bind (sX7_isWord hn (by grind) h_x0_from (by first | assumption | decide)) ?_
  intro v1 hr1
  obtain ⟨h_v1, hx_v1⟩ : (0 ≤ v1 ∧ v1 ≤ 1) ∧ (v1 = 0 ∨ x0_token = 1) := hr1
  refine Sf.ite (fun hc2 => ?_) (fun hc2 => ?_)
  · unfold fX7_statement_j114
    refine Sf.bind (sX7_isWord hn (by grind) h_x0_from (by first | assumption | decide)) ?_
    intro v3 hr3
    obtain ⟨h_v3, hx_v3⟩ : (0 ≤ v3 ∧ v3 ≤ 1) ∧ (v3 = 0 ∨ x0_token = 1) := hr3
    refine Sf.ite (fun hc4 => ?_) (fun hc4 => ?_)
    · unfold fX7_statement_j182
      refine Sf.bind (sX7_isWord hn (by grind) h_x0_from (by first | assumption | decide)) ?_
      intro v5 hr5
      obtain ⟨h_v5, hx_v5⟩ : (0 ≤ v5 ∧ v5 ≤ 1) ∧ (v5 = 0 ∨ x0_token = 1) := hr5
      refine Sf.ite (fun hc6 => ?_) (fun hc6 => ?_)
      · unfold fX7_statement_j214
        refine Sf.bind (sX7_isWord hn (by grind) h_x0_from (by first | assumption | decide)) ?_
        intro v7 hr7
        obtain ⟨h_v7, hx_v7⟩ : (0 ≤ v7 ∧ v7 ≤ 1) ∧ (v7 = 0 ∨ x0_token = 1) := hr7
        refine Sf.ite (fun hc8 => ?_) (fun hc8 => ?_)
        · refine Sf.bind (sX7_isWord hn (by grind) h_x0_from (by first | assumption | decide)) ?_
          intro v9 hr9
          obtain ⟨h_v9, hx_v9⟩ : (0 ≤ v9 ∧ v9 ≤ 1) ∧ (v9 = 0 ∨ x0_token = 1) := hr9
          refine Sf.ite (fun hc10 => ?_) (fun hc10 => ?_)
          · refine Sf.bind (sX7_toldN hn h_x0_shelf h_x0_rowSize h_x0_tapeSize h_x0_lines h_x0_line h_x0_changes h_x0_coins h_x0_goods h_x0_good h_x0_works h_x0_work h_x0_years h_x0_at h_x0_from h_x0_far h_x0_way h_x0_steps h_x0_queue (by first | assumption | rfl | decide | grind) (by first | assumption | rfl | decide | grind) (by first | assumption | rfl | decide | grind)) ?_
            rintro ⟨v11, ⟨g13, g14, g15, g16, g17, g18⟩⟩ hr11
            obtain ⟨h_g15, hx_v11⟩ : (0 ≤ g15 ∧ g15 ≤ 250) ∧ ((v11 = 0 ∨ v11 = 1) ∧ (0 ≤ g13 ∧ g13 ≤ x0_tapeSize) ∧ x0_at ≤ g13 ∧ (v11 = 0 ∨ g14 ≠ 3 ∨ x0_at < g13) ∧ (v11 = 0 ∨ (1 ≤ g18 0 ∧ g18 0 ≤ 30)) ∧ (v11 = 0 ∨ x0_token = 1)) := hr11
            dsimp only [u2, u6]
            refine Sf.ite (fun hc12 => ?_) (fun hc12 => ?_)
            · refine Sf.zbb (by grind) (fun v20 e_v20 => ?_)
              exact Sf.ok (show (0 ≤ x0_lines ∧ x0_lines ≤ 20) ∧ (LnM x0_line) ∧ (AI 0 99 x0_changes) ∧ (AI 0 9 x0_coins) ∧ (0 ≤ x0_goods ∧ x0_goods ≤ 8) ∧ (GdM x0_good) ∧ (0 ≤ x0_works ∧ x0_works ≤ 7) ∧ (WkB x0_work) ∧ (1 ≤ x0_years ∧ x0_years ≤ 30) ∧ (0 ≤ g15 ∧ g15 ≤ 250) ∧ ((v20 = 0 ∨ v20 = 1) ∧ (0 ≤ g13 ∧ g13 ≤ x0_tapeSize) ∧ x0_at ≤ g13 ∧ (v20 = 0 ∨ g14 ≠ 3 ∨ x0_at < g13) ∧ (v20 = 0 ∨ WkM x0_work)) from ⟨h_x0_lines, h_x0_line, h_x0_changes, h_x0_coins, h_x0_goods, h_x0_good, h_x0_works, (h_x0_work.1), h_x0_years, h_g15, (by grind)⟩)
            · refine Sf.rdl 0 rfl rfl (fun v21 e_v21 => ?_)
              refine Sf.zbb (by grind) (fun v22 e_v22 => ?_)
              exact Sf.ok (show (0 ≤ x0_lines ∧ x0_lines ≤ 20) ∧ (LnM x0_line) ∧ (AI 0 99 x0_changes) ∧ (AI 0 9 x0_coins) ∧ (0 ≤ x0_goods ∧ x0_goods ≤ 8) ∧ (GdM x0_good) ∧ (0 ≤ x0_works ∧ x0_works ≤ 7) ∧ (WkB x0_work) ∧ (1 ≤ v21 ∧ v21 ≤ 30) ∧ (0 ≤ g15 ∧ g15 ≤ 250) ∧ ((v22 = 0 ∨ v22 = 1) ∧ (0 ≤ g13 ∧ g13 ≤ x0_tapeSize) ∧ x0_at ≤ g13 ∧ (v22 = 0 ∨ g14 ≠ 3 ∨ x0_at < g13) ∧ (v22 = 0 ∨ WkM x0_work)) from ⟨h_x0_lines, h_x0_line, h_x0_changes, h_x0_coins, h_x0_goods, h_x0_good, h_x0_works, (h_x0_work.1), (by grind), h_g15, (by grind)⟩)
          · refine Sf.bind (sX7_toldN hn h_x0_shelf h_x0_rowSize h_x0_tapeSize h_x0_lines h_x0_line h_x0_changes h_x0_coins h_x0_goods h_x0_good h_x0_works h_x0_work h_x0_years h_x0_at h_x0_from h_x0_far h_x0_way h_x0_steps h_x0_queue (by first | assumption | rfl | decide | grind) (by first | assumption | rfl | decide | grind) (by first | assumption | rfl | decide | grind)) ?_
            rintro ⟨v23, ⟨g25, g26, g27, g28, g29, g30⟩⟩ hr13
            obtain ⟨h_g27, hx_v23⟩ : (0 ≤ g27 ∧ g27 ≤ 250) ∧ ((v23 = 0 ∨ v23 = 1) ∧ (0 ≤ g25 ∧ g25 ≤ x0_tapeSize) ∧ x0_at ≤ g25 ∧ (v23 = 0 ∨ g26 ≠ 3 ∨ x0_at < g25) ∧ (v23 = 0 ∨ (0 ≤ g30 0 ∧ g30 0 ≤ 2)) ∧ (v23 = 0 ∨ x0_token = 1)) := hr13
            dsimp only [u2, u6]
            refine Sf.ite (fun hc14 => ?_) (fun hc14 => ?_)
            · exact Sf.ok (show (0 ≤ x0_lines ∧ x0_lines ≤ 20) ∧ (LnM x0_line) ∧ (AI 0 99 x0_changes) ∧ (AI 0 9 x0_coins) ∧ (0 ≤ x0_goods ∧ x0_goods ≤ 8) ∧ (GdM x0_good) ∧ (0 ≤ x0_works ∧ x0_works ≤ 7) ∧ (WkB x0_work) ∧ (1 ≤ x0_years ∧ x0_years ≤ 30) ∧ (0 ≤ g27 ∧ g27 ≤ 250) ∧ ((0 = 0 ∨ 0 = 1) ∧ (0 ≤ g25 ∧ g25 ≤ x0_tapeSize) ∧ x0_at ≤ g25 ∧ (0 = 0 ∨ g26 ≠ 3 ∨ x0_at < g25) ∧ (0 = 0 ∨ WkM x0_work)) from ⟨h_x0_lines, h_x0_line, h_x0_changes, h_x0_coins, h_x0_goods, h_x0_good, h_x0_works, (h_x0_work.1), h_x0_years, h_g27, (by grind)⟩)
            · refine Sf.rdl 0 rfl rfl (fun v32 e_v32 => ?_)
              refine Sf.bind (sX7_numberO hn h_x0_shelf h_x0_rowSize h_x0_tapeSize h_x0_lines h_x0_line h_x0_changes h_x0_coins h_x0_goods h_x0_good h_x0_works h_x0_work h_x0_years (by grind) h_g27 h_x0_far h_x0_way h_x0_steps h_x0_queue (by first | assumption | rfl | decide | grind) (by first | assumption | rfl | decide | grind) (by first | assumption | rfl | decide | grind)) ?_
              rintro ⟨v33, ⟨g35, g36, g37, g38, g39, g40⟩⟩ hr15
              obtain ⟨h_g35, h_g38, hx_v33⟩ : (AI 0 9 g35) ∧ (0 ≤ g38 ∧ g38 ≤ 250) ∧ ((v33 = 0 ∨ v33 = 1) ∧ (0 ≤ g36 ∧ g36 ≤ x0_tapeSize) ∧ g25 ≤ g36 ∧ (v33 = 0 ∨ g37 ≠ 3 ∨ g25 < g36)) := hr15
              dsimp only [u2, u6]
              refine Sf.ite (fun hc16 => ?_) (fun hc16 => ?_)
              · exact Sf.ok (show (0 ≤ x0_lines ∧ x0_lines ≤ 20) ∧ (LnM x0_line) ∧ (AI 0 99 x0_changes) ∧ (AI 0 9 g35) ∧ (0 ≤ x0_goods ∧ x0_goods ≤ 8) ∧ (GdM x0_good) ∧ (0 ≤ x0_works ∧ x0_works ≤ 7) ∧ (WkB x0_work) ∧ (1 ≤ x0_years ∧ x0_years ≤ 30) ∧ (0 ≤ g38 ∧ g38 ≤ 250) ∧ ((0 = 0 ∨ 0 = 1) ∧ (0 ≤ g36 ∧ g36 ≤ x0_tapeSize) ∧ x0_at ≤ g36 ∧ (0 = 0 ∨ g37 ≠ 3 ∨ x0_at < g36) ∧ (0 = 0 ∨ WkM x0_work)) from ⟨h_x0_lines, h_x0_line, h_x0_changes, h_g35, h_x0_goods, h_x0_good, h_x0_works, (h_x0_work.1), h_x0_years, h_g38, (by grind)⟩)
              · exact Sf.ok (show (0 ≤ x0_lines ∧ x0_lines ≤ 20) ∧ (LnM x0_line) ∧ (AI 0 99 x0_changes) ∧ (AI 0 9 g35) ∧ (0 ≤ x0_goods ∧ x0_goods ≤ 8) ∧ (GdM x0_good) ∧ (0 ≤ x0_works ∧ x0_works ≤ 7) ∧ (WkB x0_work) ∧ (1 ≤ x0_years ∧ x0_years ≤ 30) ∧ (0 ≤ g38 ∧ g38 ≤ 250) ∧ ((1 = 0 ∨ 1 = 1) ∧ (0 ≤ g36 ∧ g36 ≤ x0_tapeSize) ∧ x0_at ≤ g36 ∧ (1 = 0 ∨ g37 ≠ 3 ∨ x0_at < g36) ∧ (1 = 0 ∨ WkM x0_work)) from ⟨h_x0_lines, h_x0_line, h_x0_changes, h_g35, h_x0_goods, h_x0_good, h_x0_works, (h_x0_work.1), h_x0_years, h_g38, (by grind)⟩)
        · refine Sf.bind (sX7_toldN hn h_x0_shelf h_x0_rowSize h_x0_tapeSize h_x0_lines h_x0_line h_x0_changes h_x0_coins h_x0_goods h_x0_good h_x0_works h_x0_work h_x0_years h_x0_at h_x0_from h_x0_far h_x0_way h_x0_steps h_x0_queue (by first | assumption | rfl | decide | grind) (by first | assumption | rfl | decide | grind) (by first | assumption | rfl | decide | grind)) ?_
          rintro ⟨v42, ⟨g44, g45, g46, g47, g48, g49⟩⟩ hr17
          obtain ⟨h_g46, hx_v42⟩ : (0 ≤ g46 ∧ g46 ≤ 250) ∧ ((v42 = 0 ∨ v42 = 1) ∧ (0 ≤ g44 ∧ g44 ≤ x0_tapeSize) ∧ x0_at ≤ g44 ∧ (v42 = 0 ∨ g45 ≠ 3 ∨ x0_at < g44) ∧ (v42 = 0 ∨ (0 ≤ g49 0 ∧ g49 0 ≤ 11)) ∧ (v42 = 0 ∨ x0_token = 1)) := hr17
          dsimp only [u2, u6]
          refine Sf.ite (fun hc18 => ?_) (fun hc18 => ?_)
          · exact Sf.ok (show (0 ≤ x0_lines ∧ x0_lines ≤ 20) ∧ (LnM x0_line) ∧ (AI 0 99 x0_changes) ∧ (AI 0 9 x0_coins) ∧ (0 ≤ x0_goods ∧ x0_goods ≤ 8) ∧ (GdM x0_good) ∧ (0 ≤ x0_works ∧ x0_works ≤ 7) ∧ (WkB x0_work) ∧ (1 ≤ x0_years ∧ x0_years ≤ 30) ∧ (0 ≤ g46 ∧ g46 ≤ 250) ∧ ((0 = 0 ∨ 0 = 1) ∧ (0 ≤ g44 ∧ g44 ≤ x0_tapeSize) ∧ x0_at ≤ g44 ∧ (0 = 0 ∨ g45 ≠ 3 ∨ x0_at < g44) ∧ (0 = 0 ∨ WkM x0_work)) from ⟨h_x0_lines, h_x0_line, h_x0_changes, h_x0_coins, h_x0_goods, h_x0_good, h_x0_works, (h_x0_work.1), h_x0_years, h_g46, (by grind)⟩)
          · refine Sf.rdl 0 rfl rfl (fun v51 e_v51 => ?_)
            refine Sf.bind (sX7_numberC hn h_x0_shelf h_x0_rowSize h_x0_tapeSize h_x0_lines h_x0_line h_x0_changes h_x0_coins h_x0_goods h_x0_good h_x0_works h_x0_work h_x0_years (by grind) h_g46 h_x0_far h_x0_way h_x0_steps h_x0_queue (by first | assumption | rfl | decide | grind) (by first | assumption | rfl | decide | grind) (by first | assumption | rfl | decide | grind)) ?_
            rintro ⟨v52, ⟨g54, g55, g56, g57, g58, g59⟩⟩ hr19
            obtain ⟨h_g54, h_g57, hx_v52⟩ : (AI 0 99 g54) ∧ (0 ≤ g57 ∧ g57 ≤ 250) ∧ ((v52 = 0 ∨ v52 = 1) ∧ (0 ≤ g55 ∧ g55 ≤ x0_tapeSize) ∧ g44 ≤ g55 ∧ (v52 = 0 ∨ g56 ≠ 3 ∨ g44 < g55)) := hr19
            dsimp only [u2, u6]
            refine Sf.ite (fun hc20 => ?_) (fun hc20 => ?_)
            · exact Sf.ok (show (0 ≤ x0_lines ∧ x0_lines ≤ 20) ∧ (LnM x0_line) ∧ (AI 0 99 g54) ∧ (AI 0 9 x0_coins) ∧ (0 ≤ x0_goods ∧ x0_goods ≤ 8) ∧ (GdM x0_good) ∧ (0 ≤ x0_works ∧ x0_works ≤ 7) ∧ (WkB x0_work) ∧ (1 ≤ x0_years ∧ x0_years ≤ 30) ∧ (0 ≤ g57 ∧ g57 ≤ 250) ∧ ((0 = 0 ∨ 0 = 1) ∧ (0 ≤ g55 ∧ g55 ≤ x0_tapeSize) ∧ x0_at ≤ g55 ∧ (0 = 0 ∨ g56 ≠ 3 ∨ x0_at < g55) ∧ (0 = 0 ∨ WkM x0_work)) from ⟨h_x0_lines, h_x0_line, h_g54, h_x0_coins, h_x0_goods, h_x0_good, h_x0_works, (h_x0_work.1), h_x0_years, h_g57, (by grind)⟩)
            · exact Sf.ok (show (0 ≤ x0_lines ∧ x0_lines ≤ 20) ∧ (LnM x0_line) ∧ (AI 0 99 g54) ∧ (AI 0 9 x0_coins) ∧ (0 ≤ x0_goods ∧ x0_goods ≤ 8) ∧ (GdM x0_good) ∧ (0 ≤ x0_works ∧ x0_works ≤ 7) ∧ (WkB x0_work) ∧ (1 ≤ x0_years ∧ x0_years ≤ 30) ∧ (0 ≤ g57 ∧ g57 ≤ 250) ∧ ((1 = 0 ∨ 1 = 1) ∧ (0 ≤ g55 ∧ g55 ≤ x0_tapeSize) ∧ x0_at ≤ g55 ∧ (1 = 0 ∨ g56 ≠ 3 ∨ x0_at < g55) ∧ (1 = 0 ∨ WkM x0_work)) from ⟨h_x0_lines, h_x0_line, h_g54, h_x0_coins, h_x0_goods, h_x0_good, h_x0_works, (h_x0_work.1), h_x0_years, h_g57, (by grind)⟩)
      · refine Sf.ite (fun hc21 => ?_) (fun hc21 => ?_)
        · unfold fX7_statement_j214
          refine Sf.bind (sX7_isWord hn (by grind) h_x0_from (by first | assumption | decide)) ?_
          intro v7 hr22
          obtain ⟨h_v7, hx_v7⟩ : (0 ≤ v7 ∧ v7 ≤ 1) ∧ (v7 = 0 ∨ x0_token = 1) := hr22
          refine Sf.ite (fun hc23 => ?_) (fun hc23 => ?_)
          · refine Sf.bind (sX7_isWord hn (by grind) h_x0_from (by first | assumption | decide)) ?_
            intro v9 hr24
            obtain ⟨h_v9, hx_v9⟩ : (0 ≤ v9 ∧ v9 ≤ 1) ∧ (v9 = 0 ∨ x0_token = 1) := hr24
            refine Sf.ite (fun hc25 => ?_) (fun hc25 => ?_)
            · refine Sf.bind (sX7_toldN hn h_x0_shelf h_x0_rowSize h_x0_tapeSize h_x0_lines h_x0_line h_x0_changes h_x0_coins h_x0_goods h_x0_good h_x0_works h_x0_work h_x0_years h_x0_at h_x0_from h_x0_far h_x0_way h_x0_steps h_x0_queue (by first | assumption | rfl | decide | grind) (by first | assumption | rfl | decide | grind) (by first | assumption | rfl | decide | grind)) ?_
              rintro ⟨v11, ⟨g13, g14, g15, g16, g17, g18⟩⟩ hr26
              obtain ⟨h_g15, hx_v11⟩ : (0 ≤ g15 ∧ g15 ≤ 250) ∧ ((v11 = 0 ∨ v11 = 1) ∧ (0 ≤ g13 ∧ g13 ≤ x0_tapeSize) ∧ x0_at ≤ g13 ∧ (v11 = 0 ∨ g14 ≠ 3 ∨ x0_at < g13) ∧ (v11 = 0 ∨ (1 ≤ g18 0 ∧ g18 0 ≤ 30)) ∧ (v11 = 0 ∨ x0_token = 1)) := hr26
              dsimp only [u2, u6]
              refine Sf.ite (fun hc27 => ?_) (fun hc27 => ?_)
              · refine Sf.zbb (by grind) (fun v20 e_v20 => ?_)
                exact Sf.ok (show (0 ≤ x0_lines ∧ x0_lines ≤ 20) ∧ (LnM x0_line) ∧ (AI 0 99 x0_changes) ∧ (AI 0 9 x0_coins) ∧ (0 ≤ x0_goods ∧ x0_goods ≤ 8) ∧ (GdM x0_good) ∧ (0 ≤ x0_works ∧ x0_works ≤ 7) ∧ (WkB x0_work) ∧ (1 ≤ x0_years ∧ x0_years ≤ 30) ∧ (0 ≤ g15 ∧ g15 ≤ 250) ∧ ((v20 = 0 ∨ v20 = 1) ∧ (0 ≤ g13 ∧ g13 ≤ x0_tapeSize) ∧ x0_at ≤ g13 ∧ (v20 = 0 ∨ g14 ≠ 3 ∨ x0_at < g13) ∧ (v20 = 0 ∨ WkM x0_work)) from ⟨h_x0_lines, h_x0_line, h_x0_changes, h_x0_coins, h_x0_goods, h_x0_good, h_x0_works, (h_x0_work.1), h_x0_years, h_g15, (by grind)⟩)
              · refine Sf.rdl 0 rfl rfl (fun v21 e_v21 => ?_)
                refine Sf.zbb (by grind) (fun v22 e_v22 => ?_)
                exact Sf.ok (show (0 ≤ x0_lines ∧ x0_lines ≤ 20) ∧ (LnM x0_line) ∧ (AI 0 99 x0_changes) ∧ (AI 0 9 x0_coins) ∧ (0 ≤ x0_goods ∧ x0_goods ≤ 8) ∧ (GdM x0_good) ∧ (0 ≤ x0_works ∧ x0_works ≤ 7) ∧ (WkB x0_work) ∧ (1 ≤ v21 ∧ v21 ≤ 30) ∧ (0 ≤ g15 ∧ g15 ≤ 250) ∧ ((v22 = 0 ∨ v22 = 1) ∧ (0 ≤ g13 ∧ g13 ≤ x0_tapeSize) ∧ x0_at ≤ g13 ∧ (v22 = 0 ∨ g14 ≠ 3 ∨ x0_at < g13) ∧ (v22 = 0 ∨ WkM x0_work)) from ⟨h_x0_lines, h_x0_line, h_x0_changes, h_x0_coins, h_x0_goods, h_x0_good, h_x0_works, (h_x0_work.1), (by grind), h_g15, (by grind)⟩)
            · refine Sf.bind (sX7_toldN hn h_x0_shelf h_x0_rowSize h_x0_tapeSize h_x0_lines h_x0_line h_x0_changes h_x0_coins h_x0_goods h_x0_good h_x0_works h_x0_work h_x0_years h_x0_at h_x0_from h_x0_far h_x0_way h_x0_steps h_x0_queue (by first | assumption | rfl | decide | grind) (by first | assumption | rfl | decide | grind) (by first | assumption | rfl | decide | grind)) ?_
              rintro ⟨v23, ⟨g25, g26, g27, g28, g29, g30⟩⟩ hr28
              obtain ⟨h_g27, hx_v23⟩ : (0 ≤ g27 ∧ g27 ≤ 250) ∧ ((v23 = 0 ∨ v23 = 1) ∧ (0 ≤ g25 ∧ g25 ≤ x0_tapeSize) ∧ x0_at ≤ g25 ∧ (v23 = 0 ∨ g26 ≠ 3 ∨ x0_at < g25) ∧ (v23 = 0 ∨ (0 ≤ g30 0 ∧ g30 0 ≤ 2)) ∧ (v23 = 0 ∨ x0_token = 1)) := hr28
              dsimp only [u2, u6]
              refine Sf.ite (fun hc29 => ?_) (fun hc29 => ?_)
              · exact Sf.ok (show (0 ≤ x0_lines ∧ x0_lines ≤ 20) ∧ (LnM x0_line) ∧ (AI 0 99 x0_changes) ∧ (AI 0 9 x0_coins) ∧ (0 ≤ x0_goods ∧ x0_goods ≤ 8) ∧ (GdM x0_good) ∧ (0 ≤ x0_works ∧ x0_works ≤ 7) ∧ (WkB x0_work) ∧ (1 ≤ x0_years ∧ x0_years ≤ 30) ∧ (0 ≤ g27 ∧ g27 ≤ 250) ∧ ((0 = 0 ∨ 0 = 1) ∧ (0 ≤ g25 ∧ g25 ≤ x0_tapeSize) ∧ x0_at ≤ g25 ∧ (0 = 0 ∨ g26 ≠ 3 ∨ x0_at < g25) ∧ (0 = 0 ∨ WkM x0_work)) from ⟨h_x0_lines, h_x0_line, h_x0_changes, h_x0_coins, h_x0_goods, h_x0_good, h_x0_works, (h_x0_work.1), h_x0_years, h_g27, (by grind)⟩)
              · refine Sf.rdl 0 rfl rfl (fun v32 e_v32 => ?_)
                refine Sf.bind (sX7_numberO hn h_x0_shelf h_x0_rowSize h_x0_tapeSize h_x0_lines h_x0_line h_x0_changes h_x0_coins h_x0_goods h_x0_good h_x0_works h_x0_work h_x0_years (by grind) h_g27 h_x0_far h_x0_way h_x0_steps h_x0_queue (by first | assumption | rfl | decide | grind) (by first | assumption | rfl | decide | grind) (by first | assumption | rfl | decide | grind)) ?_
                rintro ⟨v33, ⟨g35, g36, g37, g38, g39, g40⟩⟩ hr30
                obtain ⟨h_g35, h_g38, hx_v33⟩ : (AI 0 9 g35) ∧ (0 ≤ g38 ∧ g38 ≤ 250) ∧ ((v33 = 0 ∨ v33 = 1) ∧ (0 ≤ g36 ∧ g36 ≤ x0_tapeSize) ∧ g25 ≤ g36 ∧ (v33 = 0 ∨ g37 ≠ 3 ∨ g25 < g36)) := hr30
                dsimp only [u2, u6]
                refine Sf.ite (fun hc31 => ?_) (fun hc31 => ?_)
                · exact Sf.ok (show (0 ≤ x0_lines ∧ x0_lines ≤ 20) ∧ (LnM x0_line) ∧ (AI 0 99 x0_changes) ∧ (AI 0 9 g35) ∧ (0 ≤ x0_goods ∧ x0_goods ≤ 8) ∧ (GdM x0_good) ∧ (0 ≤ x0_works ∧ x0_works ≤ 7) ∧ (WkB x0_work) ∧ (1 ≤ x0_years ∧ x0_years ≤ 30) ∧ (0 ≤ g38 ∧ g38 ≤ 250) ∧ ((0 = 0 ∨ 0 = 1) ∧ (0 ≤ g36 ∧ g36 ≤ x0_tapeSize) ∧ x0_at ≤ g36 ∧ (0 = 0 ∨ g37 ≠ 3 ∨ x0_at < g36) ∧ (0 = 0 ∨ WkM x0_work)) from ⟨h_x0_lines, h_x0_line, h_x0_changes, h_g35, h_x0_goods, h_x0_good, h_x0_works, (h_x0_work.1), h_x0_years, h_g38, (by grind)⟩)
                · exact Sf.ok (show (0 ≤ x0_lines ∧ x0_lines ≤ 20) ∧ (LnM x0_line) ∧ (AI 0 99 x0_changes) ∧ (AI 0 9 g35) ∧ (0 ≤ x0_goods ∧ x0_goods ≤ 8) ∧ (GdM x0_good) ∧ (0 ≤ x0_works ∧ x0_works ≤ 7) ∧ (WkB x0_work) ∧ (1 ≤ x0_years ∧ x0_years ≤ 30) ∧ (0 ≤ g38 ∧ g38 ≤ 250) ∧ ((1 = 0 ∨ 1 = 1) ∧ (0 ≤ g36 ∧ g36 ≤ x0_tapeSize) ∧ x0_at ≤ g36 ∧ (1 = 0 ∨ g37 ≠ 3 ∨ x0_at < g36) ∧ (1 = 0 ∨ WkM x0_work)) from ⟨h_x0_lines, h_x0_line, h_x0_changes, h_g35, h_x0_goods, h_x0_good, h_x0_works, (h_x0_work.1), h_x0_years, h_g38, (by grind)⟩)
          · refine Sf.bind (sX7_toldN hn h_x0_shelf h_x0_rowSize h_x0_tapeSize h_x0_lines h_x0_line h_x0_changes h_x0_coins h_x0_goods h_x0_good h_x0_works h_x0_work h_x0_years h_x0_at h_x0_from h_x0_far h_x0_way h_x0_steps h_x0_queue (by first | assumption | rfl | decide | grind) (by first | assumption | rfl | decide | grind) (by first | assumption | rfl | decide | grind)) ?_
            rintro ⟨v42, ⟨g44, g45, g46, g47, g48, g49⟩⟩ hr32
            obtain ⟨h_g46, hx_v42⟩ : (0 ≤ g46 ∧ g46 ≤ 250) ∧ ((v42 = 0 ∨ v42 = 1) ∧ (0 ≤ g44 ∧ g44 ≤ x0_tapeSize) ∧ x0_at ≤ g44 ∧ (v42 = 0 ∨ g45 ≠ 3 ∨ x0_at < g44) ∧ (v42 = 0 ∨ (0 ≤ g49 0 ∧ g49 0 ≤ 11)) ∧ (v42 = 0 ∨ x0_token = 1)) := hr32
            dsimp only [u2, u6]
            refine Sf.ite (fun hc33 => ?_) (fun hc33 => ?_)
            · exact Sf.ok (show (0 ≤ x0_lines ∧ x0_lines ≤ 20) ∧ (LnM x0_line) ∧ (AI 0 99 x0_changes) ∧ (AI 0 9 x0_coins) ∧ (0 ≤ x0_goods ∧ x0_goods ≤ 8) ∧ (GdM x0_good) ∧ (0 ≤ x0_works ∧ x0_works ≤ 7) ∧ (WkB x0_work) ∧ (1 ≤ x0_years ∧ x0_years ≤ 30) ∧ (0 ≤ g46 ∧ g46 ≤ 250) ∧ ((0 = 0 ∨ 0 = 1) ∧ (0 ≤ g44 ∧ g44 ≤ x0_tapeSize) ∧ x0_at ≤ g44 ∧ (0 = 0 ∨ g45 ≠ 3 ∨ x0_at < g44) ∧ (0 = 0 ∨ WkM x0_work)) from ⟨h_x0_lines, h_x0_line, h_x0_changes, h_x0_coins, h_x0_goods, h_x0_good, h_x0_works, (h_x0_work.1), h_x0_years, h_g46, (by grind)⟩)
            · refine Sf.rdl 0 rfl rfl (fun v51 e_v51 => ?_)
              refine Sf.bind (sX7_numberC hn h_x0_shelf h_x0_rowSize h_x0_tapeSize h_x0_lines h_x0_line h_x0_changes h_x0_coins h_x0_goods h_x0_good h_x0_works h_x0_work h_x0_years (by grind) h_g46 h_x0_far h_x0_way h_x0_steps h_x0_queue (by first | assumption | rfl | decide | grind) (by first | assumption | rfl | decide | grind) (by first | assumption | rfl | decide | grind)) ?_
              rintro ⟨v52, ⟨g54, g55, g56, g57, g58, g59⟩⟩ hr34
              obtain ⟨h_g54, h_g57, hx_v52⟩ : (AI 0 99 g54) ∧ (0 ≤ g57 ∧ g57 ≤ 250) ∧ ((v52 = 0 ∨ v52 = 1) ∧ (0 ≤ g55 ∧ g55 ≤ x0_tapeSize) ∧ g44 ≤ g55 ∧ (v52 = 0 ∨ g56 ≠ 3 ∨ g44 < g55)) := hr34
              dsimp only [u2, u6]
              refine Sf.ite (fun hc35 => ?_) (fun hc35 => ?_)
              · exact Sf.ok (show (0 ≤ x0_lines ∧ x0_lines ≤ 20) ∧ (LnM x0_line) ∧ (AI 0 99 g54) ∧ (AI 0 9 x0_coins) ∧ (0 ≤ x0_goods ∧ x0_goods ≤ 8) ∧ (GdM x0_good) ∧ (0 ≤ x0_works ∧ x0_works ≤ 7) ∧ (WkB x0_work) ∧ (1 ≤ x0_years ∧ x0_years ≤ 30) ∧ (0 ≤ g57 ∧ g57 ≤ 250) ∧ ((0 = 0 ∨ 0 = 1) ∧ (0 ≤ g55 ∧ g55 ≤ x0_tapeSize) ∧ x0_at ≤ g55 ∧ (0 = 0 ∨ g56 ≠ 3 ∨ x0_at < g55) ∧ (0 = 0 ∨ WkM x0_work)) from ⟨h_x0_lines, h_x0_line, h_g54, h_x0_coins, h_x0_goods, h_x0_good, h_x0_works, (h_x0_work.1), h_x0_years, h_g57, (by grind)⟩)
              · exact Sf.ok (show (0 ≤ x0_lines ∧ x0_lines ≤ 20) ∧ (LnM x0_line) ∧ (AI 0 99 g54) ∧ (AI 0 9 x0_coins) ∧ (0 ≤ x0_goods ∧ x0_goods ≤ 8) ∧ (GdM x0_good) ∧ (0 ≤ x0_works ∧ x0_works ≤ 7) ∧ (WkB x0_work) ∧ (1 ≤ x0_years ∧ x0_years ≤ 30) ∧ (0 ≤ g57 ∧ g57 ≤ 250) ∧ ((1 = 0 ∨ 1 = 1) ∧ (0 ≤ g55 ∧ g55 ≤ x0_tapeSize) ∧ x0_at ≤ g55 ∧ (1 = 0 ∨ g56 ≠ 3 ∨ x0_at < g55) ∧ (1 = 0 ∨ WkM x0_work)) from ⟨h_x0_lines, h_x0_line, h_g54, h_x0_coins, h_x0_goods, h_x0_good, h_x0_works, (h_x0_work.1), h_x0_years, h_g57, (by grind)⟩)
        · refine Sf.ckb 7 rfl (by grind) (fun q61 e_q61 h_q61 => ?_)
          refine Sf.bind (sX7_workTold hn h_x0_shelf h_x0_rowSize h_x0_tapeSize h_x0_lines h_x0_line h_x0_changes h_x0_coins h_x0_goods h_x0_good h_x0_works h_x0_work h_x0_years h_x0_at h_x0_from h_x0_far h_x0_way h_x0_steps h_x0_queue (h_x0_work.1 q61) (by first | assumption | rfl | decide | grind) (by first | assumption | rfl | decide | grind)) ?_
          rintro ⟨v62, ⟨g64, g65, g66, g67, g68, g69⟩, g70⟩ hr36
          obtain ⟨h_g64, h_g67, h_g70, hx_v62⟩ : (0 ≤ g64 ∧ g64 ≤ 7) ∧ (0 ≤ g67 ∧ g67 ≤ 250) ∧ (RI wkB g70) ∧ ((v62 = 0 ∨ v62 = 1) ∧ (0 ≤ g65 ∧ g65 ≤ x0_tapeSize) ∧ x0_at ≤ g65 ∧ (v62 = 0 ∨ g66 ≠ 3 ∨ x0_at < g65) ∧ (v62 = 0 ∨ (x0_token = 1 ∧ WkRm (g70 0) (g70 1) (g70 2)))) := hr36
          dsimp only [u3, u6]
          have hW : v62 = 0 ∨ WkM (va_up x0_work q61 g70) := by
            rcases hx_v62.2.2.2.2 with h | h
            · exact Or.inl h
            · exact Or.inr (WkM.up h_x0_work h_g70 h.2)
          refine Sf.zbb (by grind) (fun v72 e_v72 => ?_)
          exact Sf.ok (show (0 ≤ x0_lines ∧ x0_lines ≤ 20) ∧ (LnM x0_line) ∧ (AI 0 99 x0_changes) ∧ (AI 0 9 x0_coins) ∧ (0 ≤ x0_goods ∧ x0_goods ≤ 8) ∧ (GdM x0_good) ∧ (0 ≤ g64 ∧ g64 ≤ 7) ∧ (WkB (va_up x0_work q61 g70)) ∧ (1 ≤ x0_years ∧ x0_years ≤ 30) ∧ (0 ≤ g67 ∧ g67 ≤ 250) ∧ ((v72 = 0 ∨ v72 = 1) ∧ (0 ≤ g65 ∧ g65 ≤ x0_tapeSize) ∧ x0_at ≤ g65 ∧ (v72 = 0 ∨ g66 ≠ 3 ∨ x0_at < g65) ∧ (v72 = 0 ∨ WkM (va_up x0_work q61 g70))) from ⟨h_x0_lines, h_x0_line, h_x0_changes, h_x0_coins, h_x0_goods, h_x0_good, h_g64, (GI.up (h_x0_work.1) h_g70), h_x0_years, h_g67, (by grind)⟩)
    · refine Sf.ite (fun hc37 => ?_) (fun hc37 => ?_)
      · unfold fX7_statement_j182
        refine Sf.bind (sX7_isWord hn (by grind) h_x0_from (by first | assumption | decide)) ?_
        intro v5 hr38
        obtain ⟨h_v5, hx_v5⟩ : (0 ≤ v5 ∧ v5 ≤ 1) ∧ (v5 = 0 ∨ x0_token = 1) := hr38
        refine Sf.ite (fun hc39 => ?_) (fun hc39 => ?_)
        · unfold fX7_statement_j214
          refine Sf.bind (sX7_isWord hn (by grind) h_x0_from (by first | assumption | decide)) ?_
          intro v7 hr40
          obtain ⟨h_v7, hx_v7⟩ : (0 ≤ v7 ∧ v7 ≤ 1) ∧ (v7 = 0 ∨ x0_token = 1) := hr40
          refine Sf.ite (fun hc41 => ?_) (fun hc41 => ?_)
          · refine Sf.bind (sX7_isWord hn (by grind) h_x0_from (by first | assumption | decide)) ?_
            intro v9 hr42
            obtain ⟨h_v9, hx_v9⟩ : (0 ≤ v9 ∧ v9 ≤ 1) ∧ (v9 = 0 ∨ x0_token = 1) := hr42
            refine Sf.ite (fun hc43 => ?_) (fun hc43 => ?_)
            · refine Sf.bind (sX7_toldN hn h_x0_shelf h_x0_rowSize h_x0_tapeSize h_x0_lines h_x0_line h_x0_changes h_x0_coins h_x0_goods h_x0_good h_x0_works h_x0_work h_x0_years h_x0_at h_x0_from h_x0_far h_x0_way h_x0_steps h_x0_queue (by first | assumption | rfl | decide | grind) (by first | assumption | rfl | decide | grind) (by first | assumption | rfl | decide | grind)) ?_
              rintro ⟨v11, ⟨g13, g14, g15, g16, g17, g18⟩⟩ hr44
              obtain ⟨h_g15, hx_v11⟩ : (0 ≤ g15 ∧ g15 ≤ 250) ∧ ((v11 = 0 ∨ v11 = 1) ∧ (0 ≤ g13 ∧ g13 ≤ x0_tapeSize) ∧ x0_at ≤ g13 ∧ (v11 = 0 ∨ g14 ≠ 3 ∨ x0_at < g13) ∧ (v11 = 0 ∨ (1 ≤ g18 0 ∧ g18 0 ≤ 30)) ∧ (v11 = 0 ∨ x0_token = 1)) := hr44
              dsimp only [u2, u6]
              refine Sf.ite (fun hc45 => ?_) (fun hc45 => ?_)
              · refine Sf.zbb (by grind) (fun v20 e_v20 => ?_)
                exact Sf.ok (show (0 ≤ x0_lines ∧ x0_lines ≤ 20) ∧ (LnM x0_line) ∧ (AI 0 99 x0_changes) ∧ (AI 0 9 x0_coins) ∧ (0 ≤ x0_goods ∧ x0_goods ≤ 8) ∧ (GdM x0_good) ∧ (0 ≤ x0_works ∧ x0_works ≤ 7) ∧ (WkB x0_work) ∧ (1 ≤ x0_years ∧ x0_years ≤ 30) ∧ (0 ≤ g15 ∧ g15 ≤ 250) ∧ ((v20 = 0 ∨ v20 = 1) ∧ (0 ≤ g13 ∧ g13 ≤ x0_tapeSize) ∧ x0_at ≤ g13 ∧ (v20 = 0 ∨ g14 ≠ 3 ∨ x0_at < g13) ∧ (v20 = 0 ∨ WkM x0_work)) from ⟨h_x0_lines, h_x0_line, h_x0_changes, h_x0_coins, h_x0_goods, h_x0_good, h_x0_works, (h_x0_work.1), h_x0_years, h_g15, (by grind)⟩)
              · refine Sf.rdl 0 rfl rfl (fun v21 e_v21 => ?_)
                refine Sf.zbb (by grind) (fun v22 e_v22 => ?_)
                exact Sf.ok (show (0 ≤ x0_lines ∧ x0_lines ≤ 20) ∧ (LnM x0_line) ∧ (AI 0 99 x0_changes) ∧ (AI 0 9 x0_coins) ∧ (0 ≤ x0_goods ∧ x0_goods ≤ 8) ∧ (GdM x0_good) ∧ (0 ≤ x0_works ∧ x0_works ≤ 7) ∧ (WkB x0_work) ∧ (1 ≤ v21 ∧ v21 ≤ 30) ∧ (0 ≤ g15 ∧ g15 ≤ 250) ∧ ((v22 = 0 ∨ v22 = 1) ∧ (0 ≤ g13 ∧ g13 ≤ x0_tapeSize) ∧ x0_at ≤ g13 ∧ (v22 = 0 ∨ g14 ≠ 3 ∨ x0_at < g13) ∧ (v22 = 0 ∨ WkM x0_work)) from ⟨h_x0_lines, h_x0_line, h_x0_changes, h_x0_coins, h_x0_goods, h_x0_good, h_x0_works, (h_x0_work.1), (by grind), h_g15, (by grind)⟩)
            · refine Sf.bind (sX7_toldN hn h_x0_shelf h_x0_rowSize h_x0_tapeSize h_x0_lines h_x0_line h_x0_changes h_x0_coins h_x0_goods h_x0_good h_x0_works h_x0_work h_x0_years h_x0_at h_x0_from h_x0_far h_x0_way h_x0_steps h_x0_queue (by first | assumption | rfl | decide | grind) (by first | assumption | rfl | decide | grind) (by first | assumption | rfl | decide | grind)) ?_
              rintro ⟨v23, ⟨g25, g26, g27, g28, g29, g30⟩⟩ hr46
              obtain ⟨h_g27, hx_v23⟩ : (0 ≤ g27 ∧ g27 ≤ 250) ∧ ((v23 = 0 ∨ v23 = 1) ∧ (0 ≤ g25 ∧ g25 ≤ x0_tapeSize) ∧ x0_at ≤ g25 ∧ (v23 = 0 ∨ g26 ≠ 3 ∨ x0_at < g25) ∧ (v23 = 0 ∨ (0 ≤ g30 0 ∧ g30 0 ≤ 2)) ∧ (v23 = 0 ∨ x0_token = 1)) := hr46
              dsimp only [u2, u6]
              refine Sf.ite (fun hc47 => ?_) (fun hc47 => ?_)
              · exact Sf.ok (show (0 ≤ x0_lines ∧ x0_lines ≤ 20) ∧ (LnM x0_line) ∧ (AI 0 99 x0_changes) ∧ (AI 0 9 x0_coins) ∧ (0 ≤ x0_goods ∧ x0_goods ≤ 8) ∧ (GdM x0_good) ∧ (0 ≤ x0_works ∧ x0_works ≤ 7) ∧ (WkB x0_work) ∧ (1 ≤ x0_years ∧ x0_years ≤ 30) ∧ (0 ≤ g27 ∧ g27 ≤ 250) ∧ ((0 = 0 ∨ 0 = 1) ∧ (0 ≤ g25 ∧ g25 ≤ x0_tapeSize) ∧ x0_at ≤ g25 ∧ (0 = 0 ∨ g26 ≠ 3 ∨ x0_at < g25) ∧ (0 = 0 ∨ WkM x0_work)) from ⟨h_x0_lines, h_x0_line, h_x0_changes, h_x0_coins, h_x0_goods, h_x0_good, h_x0_works, (h_x0_work.1), h_x0_years, h_g27, (by grind)⟩)
              · refine Sf.rdl 0 rfl rfl (fun v32 e_v32 => ?_)
                refine Sf.bind (sX7_numberO hn h_x0_shelf h_x0_rowSize h_x0_tapeSize h_x0_lines h_x0_line h_x0_changes h_x0_coins h_x0_goods h_x0_good h_x0_works h_x0_work h_x0_years (by grind) h_g27 h_x0_far h_x0_way h_x0_steps h_x0_queue (by first | assumption | rfl | decide | grind) (by first | assumption | rfl | decide | grind) (by first | assumption | rfl | decide | grind)) ?_
                rintro ⟨v33, ⟨g35, g36, g37, g38, g39, g40⟩⟩ hr48
                obtain ⟨h_g35, h_g38, hx_v33⟩ : (AI 0 9 g35) ∧ (0 ≤ g38 ∧ g38 ≤ 250) ∧ ((v33 = 0 ∨ v33 = 1) ∧ (0 ≤ g36 ∧ g36 ≤ x0_tapeSize) ∧ g25 ≤ g36 ∧ (v33 = 0 ∨ g37 ≠ 3 ∨ g25 < g36)) := hr48
                dsimp only [u2, u6]
                refine Sf.ite (fun hc49 => ?_) (fun hc49 => ?_)
                · exact Sf.ok (show (0 ≤ x0_lines ∧ x0_lines ≤ 20) ∧ (LnM x0_line) ∧ (AI 0 99 x0_changes) ∧ (AI 0 9 g35) ∧ (0 ≤ x0_goods ∧ x0_goods ≤ 8) ∧ (GdM x0_good) ∧ (0 ≤ x0_works ∧ x0_works ≤ 7) ∧ (WkB x0_work) ∧ (1 ≤ x0_years ∧ x0_years ≤ 30) ∧ (0 ≤ g38 ∧ g38 ≤ 250) ∧ ((0 = 0 ∨ 0 = 1) ∧ (0 ≤ g36 ∧ g36 ≤ x0_tapeSize) ∧ x0_at ≤ g36 ∧ (0 = 0 ∨ g37 ≠ 3 ∨ x0_at < g36) ∧ (0 = 0 ∨ WkM x0_work)) from ⟨h_x0_lines, h_x0_line, h_x0_changes, h_g35, h_x0_goods, h_x0_good, h_x0_works, (h_x0_work.1), h_x0_years, h_g38, (by grind)⟩)
                · exact Sf.ok (show (0 ≤ x0_lines ∧ x0_lines ≤ 20) ∧ (LnM x0_line) ∧ (AI 0 99 x0_changes) ∧ (AI 0 9 g35) ∧ (0 ≤ x0_goods ∧ x0_goods ≤ 8) ∧ (GdM x0_good) ∧ (0 ≤ x0_works ∧ x0_works ≤ 7) ∧ (WkB x0_work) ∧ (1 ≤ x0_years ∧ x0_years ≤ 30) ∧ (0 ≤ g38 ∧ g38 ≤ 250) ∧ ((1 = 0 ∨ 1 = 1) ∧ (0 ≤ g36 ∧ g36 ≤ x0_tapeSize) ∧ x0_at ≤ g36 ∧ (1 = 0 ∨ g37 ≠ 3 ∨ x0_at < g36) ∧ (1 = 0 ∨ WkM x0_work)) from ⟨h_x0_lines, h_x0_line, h_x0_changes, h_g35, h_x0_goods, h_x0_good, h_x0_works, (h_x0_work.1), h_x0_years, h_g38, (by grind)⟩)
          · refine Sf.bind (sX7_toldN hn h_x0_shelf h_x0_rowSize h_x0_tapeSize h_x0_lines h_x0_line h_x0_changes h_x0_coins h_x0_goods h_x0_good h_x0_works h_x0_work h_x0_years h_x0_at h_x0_from h_x0_far h_x0_way h_x0_steps h_x0_queue (by first | assumption | rfl | decide | grind) (by first | assumption | rfl | decide | grind) (by first | assumption | rfl | decide | grind)) ?_
            rintro ⟨v42, ⟨g44, g45, g46, g47, g48, g49⟩⟩ hr50
            obtain ⟨h_g46, hx_v42⟩ : (0 ≤ g46 ∧ g46 ≤ 250) ∧ ((v42 = 0 ∨ v42 = 1) ∧ (0 ≤ g44 ∧ g44 ≤ x0_tapeSize) ∧ x0_at ≤ g44 ∧ (v42 = 0 ∨ g45 ≠ 3 ∨ x0_at < g44) ∧ (v42 = 0 ∨ (0 ≤ g49 0 ∧ g49 0 ≤ 11)) ∧ (v42 = 0 ∨ x0_token = 1)) := hr50
            dsimp only [u2, u6]
            refine Sf.ite (fun hc51 => ?_) (fun hc51 => ?_)
            · exact Sf.ok (show (0 ≤ x0_lines ∧ x0_lines ≤ 20) ∧ (LnM x0_line) ∧ (AI 0 99 x0_changes) ∧ (AI 0 9 x0_coins) ∧ (0 ≤ x0_goods ∧ x0_goods ≤ 8) ∧ (GdM x0_good) ∧ (0 ≤ x0_works ∧ x0_works ≤ 7) ∧ (WkB x0_work) ∧ (1 ≤ x0_years ∧ x0_years ≤ 30) ∧ (0 ≤ g46 ∧ g46 ≤ 250) ∧ ((0 = 0 ∨ 0 = 1) ∧ (0 ≤ g44 ∧ g44 ≤ x0_tapeSize) ∧ x0_at ≤ g44 ∧ (0 = 0 ∨ g45 ≠ 3 ∨ x0_at < g44) ∧ (0 = 0 ∨ WkM x0_work)) from ⟨h_x0_lines, h_x0_line, h_x0_changes, h_x0_coins, h_x0_goods, h_x0_good, h_x0_works, (h_x0_work.1), h_x0_years, h_g46, (by grind)⟩)
            · refine Sf.rdl 0 rfl rfl (fun v51 e_v51 => ?_)
              refine Sf.bind (sX7_numberC hn h_x0_shelf h_x0_rowSize h_x0_tapeSize h_x0_lines h_x0_line h_x0_changes h_x0_coins h_x0_goods h_x0_good h_x0_works h_x0_work h_x0_years (by grind) h_g46 h_x0_far h_x0_way h_x0_steps h_x0_queue (by first | assumption | rfl | decide | grind) (by first | assumption | rfl | decide | grind) (by first | assumption | rfl | decide | grind)) ?_
              rintro ⟨v52, ⟨g54, g55, g56, g57, g58, g59⟩⟩ hr52
              obtain ⟨h_g54, h_g57, hx_v52⟩ : (AI 0 99 g54) ∧ (0 ≤ g57 ∧ g57 ≤ 250) ∧ ((v52 = 0 ∨ v52 = 1) ∧ (0 ≤ g55 ∧ g55 ≤ x0_tapeSize) ∧ g44 ≤ g55 ∧ (v52 = 0 ∨ g56 ≠ 3 ∨ g44 < g55)) := hr52
              dsimp only [u2, u6]
              refine Sf.ite (fun hc53 => ?_) (fun hc53 => ?_)
              · exact Sf.ok (show (0 ≤ x0_lines ∧ x0_lines ≤ 20) ∧ (LnM x0_line) ∧ (AI 0 99 g54) ∧ (AI 0 9 x0_coins) ∧ (0 ≤ x0_goods ∧ x0_goods ≤ 8) ∧ (GdM x0_good) ∧ (0 ≤ x0_works ∧ x0_works ≤ 7) ∧ (WkB x0_work) ∧ (1 ≤ x0_years ∧ x0_years ≤ 30) ∧ (0 ≤ g57 ∧ g57 ≤ 250) ∧ ((0 = 0 ∨ 0 = 1) ∧ (0 ≤ g55 ∧ g55 ≤ x0_tapeSize) ∧ x0_at ≤ g55 ∧ (0 = 0 ∨ g56 ≠ 3 ∨ x0_at < g55) ∧ (0 = 0 ∨ WkM x0_work)) from ⟨h_x0_lines, h_x0_line, h_g54, h_x0_coins, h_x0_goods, h_x0_good, h_x0_works, (h_x0_work.1), h_x0_years, h_g57, (by grind)⟩)
              · exact Sf.ok (show (0 ≤ x0_lines ∧ x0_lines ≤ 20) ∧ (LnM x0_line) ∧ (AI 0 99 g54) ∧ (AI 0 9 x0_coins) ∧ (0 ≤ x0_goods ∧ x0_goods ≤ 8) ∧ (GdM x0_good) ∧ (0 ≤ x0_works ∧ x0_works ≤ 7) ∧ (WkB x0_work) ∧ (1 ≤ x0_years ∧ x0_years ≤ 30) ∧ (0 ≤ g57 ∧ g57 ≤ 250) ∧ ((1 = 0 ∨ 1 = 1) ∧ (0 ≤ g55 ∧ g55 ≤ x0_tapeSize) ∧ x0_at ≤ g55 ∧ (1 = 0 ∨ g56 ≠ 3 ∨ x0_at < g55) ∧ (1 = 0 ∨ WkM x0_work)) from ⟨h_x0_lines, h_x0_line, h_g54, h_x0_coins, h_x0_goods, h_x0_good, h_x0_works, (h_x0_work.1), h_x0_years, h_g57, (by grind)⟩)
        · refine Sf.ite (fun hc54 => ?_) (fun hc54 => ?_)
          · unfold fX7_statement_j214
            refine Sf.bind (sX7_isWord hn (by grind) h_x0_from (by first | assumption | decide)) ?_
            intro v7 hr55
            obtain ⟨h_v7, hx_v7⟩ : (0 ≤ v7 ∧ v7 ≤ 1) ∧ (v7 = 0 ∨ x0_token = 1) := hr55
            refine Sf.ite (fun hc56 => ?_) (fun hc56 => ?_)
            · refine Sf.bind (sX7_isWord hn (by grind) h_x0_from (by first | assumption | decide)) ?_
              intro v9 hr57
              obtain ⟨h_v9, hx_v9⟩ : (0 ≤ v9 ∧ v9 ≤ 1) ∧ (v9 = 0 ∨ x0_token = 1) := hr57
              refine Sf.ite (fun hc58 => ?_) (fun hc58 => ?_)
              · refine Sf.bind (sX7_toldN hn h_x0_shelf h_x0_rowSize h_x0_tapeSize h_x0_lines h_x0_line h_x0_changes h_x0_coins h_x0_goods h_x0_good h_x0_works h_x0_work h_x0_years h_x0_at h_x0_from h_x0_far h_x0_way h_x0_steps h_x0_queue (by first | assumption | rfl | decide | grind) (by first | assumption | rfl | decide | grind) (by first | assumption | rfl | decide | grind)) ?_
                rintro ⟨v11, ⟨g13, g14, g15, g16, g17, g18⟩⟩ hr59
                obtain ⟨h_g15, hx_v11⟩ : (0 ≤ g15 ∧ g15 ≤ 250) ∧ ((v11 = 0 ∨ v11 = 1) ∧ (0 ≤ g13 ∧ g13 ≤ x0_tapeSize) ∧ x0_at ≤ g13 ∧ (v11 = 0 ∨ g14 ≠ 3 ∨ x0_at < g13) ∧ (v11 = 0 ∨ (1 ≤ g18 0 ∧ g18 0 ≤ 30)) ∧ (v11 = 0 ∨ x0_token = 1)) := hr59
                dsimp only [u2, u6]
                refine Sf.ite (fun hc60 => ?_) (fun hc60 => ?_)
                · refine Sf.zbb (by grind) (fun v20 e_v20 => ?_)
                  exact Sf.ok (show (0 ≤ x0_lines ∧ x0_lines ≤ 20) ∧ (LnM x0_line) ∧ (AI 0 99 x0_changes) ∧ (AI 0 9 x0_coins) ∧ (0 ≤ x0_goods ∧ x0_goods ≤ 8) ∧ (GdM x0_good) ∧ (0 ≤ x0_works ∧ x0_works ≤ 7) ∧ (WkB x0_work) ∧ (1 ≤ x0_years ∧ x0_years ≤ 30) ∧ (0 ≤ g15 ∧ g15 ≤ 250) ∧ ((v20 = 0 ∨ v20 = 1) ∧ (0 ≤ g13 ∧ g13 ≤ x0_tapeSize) ∧ x0_at ≤ g13 ∧ (v20 = 0 ∨ g14 ≠ 3 ∨ x0_at < g13) ∧ (v20 = 0 ∨ WkM x0_work)) from ⟨h_x0_lines, h_x0_line, h_x0_changes, h_x0_coins, h_x0_goods, h_x0_good, h_x0_works, (h_x0_work.1), h_x0_years, h_g15, (by grind)⟩)
                · refine Sf.rdl 0 rfl rfl (fun v21 e_v21 => ?_)
                  refine Sf.zbb (by grind) (fun v22 e_v22 => ?_)
                  exact Sf.ok (show (0 ≤ x0_lines ∧ x0_lines ≤ 20) ∧ (LnM x0_line) ∧ (AI 0 99 x0_changes) ∧ (AI 0 9 x0_coins) ∧ (0 ≤ x0_goods ∧ x0_goods ≤ 8) ∧ (GdM x0_good) ∧ (0 ≤ x0_works ∧ x0_works ≤ 7) ∧ (WkB x0_work) ∧ (1 ≤ v21 ∧ v21 ≤ 30) ∧ (0 ≤ g15 ∧ g15 ≤ 250) ∧ ((v22 = 0 ∨ v22 = 1) ∧ (0 ≤ g13 ∧ g13 ≤ x0_tapeSize) ∧ x0_at ≤ g13 ∧ (v22 = 0 ∨ g14 ≠ 3 ∨ x0_at < g13) ∧ (v22 = 0 ∨ WkM x0_work)) from ⟨h_x0_lines, h_x0_line, h_x0_changes, h_x0_coins, h_x0_goods, h_x0_good, h_x0_works, (h_x0_work.1), (by grind), h_g15, (by grind)⟩)
              · refine Sf.bind (sX7_toldN hn h_x0_shelf h_x0_rowSize h_x0_tapeSize h_x0_lines h_x0_line h_x0_changes h_x0_coins h_x0_goods h_x0_good h_x0_works h_x0_work h_x0_years h_x0_at h_x0_from h_x0_far h_x0_way h_x0_steps h_x0_queue (by first | assumption | rfl | decide | grind) (by first | assumption | rfl | decide | grind) (by first | assumption | rfl | decide | grind)) ?_
                rintro ⟨v23, ⟨g25, g26, g27, g28, g29, g30⟩⟩ hr61
                obtain ⟨h_g27, hx_v23⟩ : (0 ≤ g27 ∧ g27 ≤ 250) ∧ ((v23 = 0 ∨ v23 = 1) ∧ (0 ≤ g25 ∧ g25 ≤ x0_tapeSize) ∧ x0_at ≤ g25 ∧ (v23 = 0 ∨ g26 ≠ 3 ∨ x0_at < g25) ∧ (v23 = 0 ∨ (0 ≤ g30 0 ∧ g30 0 ≤ 2)) ∧ (v23 = 0 ∨ x0_token = 1)) := hr61
                dsimp only [u2, u6]
                refine Sf.ite (fun hc62 => ?_) (fun hc62 => ?_)
                · exact Sf.ok (show (0 ≤ x0_lines ∧ x0_lines ≤ 20) ∧ (LnM x0_line) ∧ (AI 0 99 x0_changes) ∧ (AI 0 9 x0_coins) ∧ (0 ≤ x0_goods ∧ x0_goods ≤ 8) ∧ (GdM x0_good) ∧ (0 ≤ x0_works ∧ x0_works ≤ 7) ∧ (WkB x0_work) ∧ (1 ≤ x0_years ∧ x0_years ≤ 30) ∧ (0 ≤ g27 ∧ g27 ≤ 250) ∧ ((0 = 0 ∨ 0 = 1) ∧ (0 ≤ g25 ∧ g25 ≤ x0_tapeSize) ∧ x0_at ≤ g25 ∧ (0 = 0 ∨ g26 ≠ 3 ∨ x0_at < g25) ∧ (0 = 0 ∨ WkM x0_work)) from ⟨h_x0_lines, h_x0_line, h_x0_changes, h_x0_coins, h_x0_goods, h_x0_good, h_x0_works, (h_x0_work.1), h_x0_years, h_g27, (by grind)⟩)
                · refine Sf.rdl 0 rfl rfl (fun v32 e_v32 => ?_)
                  refine Sf.bind (sX7_numberO hn h_x0_shelf h_x0_rowSize h_x0_tapeSize h_x0_lines h_x0_line h_x0_changes h_x0_coins h_x0_goods h_x0_good h_x0_works h_x0_work h_x0_years (by grind) h_g27 h_x0_far h_x0_way h_x0_steps h_x0_queue (by first | assumption | rfl | decide | grind) (by first | assumption | rfl | decide | grind) (by first | assumption | rfl | decide | grind)) ?_
                  rintro ⟨v33, ⟨g35, g36, g37, g38, g39, g40⟩⟩ hr63
                  obtain ⟨h_g35, h_g38, hx_v33⟩ : (AI 0 9 g35) ∧ (0 ≤ g38 ∧ g38 ≤ 250) ∧ ((v33 = 0 ∨ v33 = 1) ∧ (0 ≤ g36 ∧ g36 ≤ x0_tapeSize) ∧ g25 ≤ g36 ∧ (v33 = 0 ∨ g37 ≠ 3 ∨ g25 < g36)) := hr63
                  dsimp only [u2, u6]
                  refine Sf.ite (fun hc64 => ?_) (fun hc64 => ?_)
                  · exact Sf.ok (show (0 ≤ x0_lines ∧ x0_lines ≤ 20) ∧ (LnM x0_line) ∧ (AI 0 99 x0_changes) ∧ (AI 0 9 g35) ∧ (0 ≤ x0_goods ∧ x0_goods ≤ 8) ∧ (GdM x0_good) ∧ (0 ≤ x0_works ∧ x0_works ≤ 7) ∧ (WkB x0_work) ∧ (1 ≤ x0_years ∧ x0_years ≤ 30) ∧ (0 ≤ g38 ∧ g38 ≤ 250) ∧ ((0 = 0 ∨ 0 = 1) ∧ (0 ≤ g36 ∧ g36 ≤ x0_tapeSize) ∧ x0_at ≤ g36 ∧ (0 = 0 ∨ g37 ≠ 3 ∨ x0_at < g36) ∧ (0 = 0 ∨ WkM x0_work)) from ⟨h_x0_lines, h_x0_line, h_x0_changes, h_g35, h_x0_goods, h_x0_good, h_x0_works, (h_x0_work.1), h_x0_years, h_g38, (by grind)⟩)
                  · exact Sf.ok (show (0 ≤ x0_lines ∧ x0_lines ≤ 20) ∧ (LnM x0_line) ∧ (AI 0 99 x0_changes) ∧ (AI 0 9 g35) ∧ (0 ≤ x0_goods ∧ x0_goods ≤ 8) ∧ (GdM x0_good) ∧ (0 ≤ x0_works ∧ x0_works ≤ 7) ∧ (WkB x0_work) ∧ (1 ≤ x0_years ∧ x0_years ≤ 30) ∧ (0 ≤ g38 ∧ g38 ≤ 250) ∧ ((1 = 0 ∨ 1 = 1) ∧ (0 ≤ g36 ∧ g36 ≤ x0_tapeSize) ∧ x0_at ≤ g36 ∧ (1 = 0 ∨ g37 ≠ 3 ∨ x0_at < g36) ∧ (1 = 0 ∨ WkM x0_work)) from ⟨h_x0_lines, h_x0_line, h_x0_changes, h_g35, h_x0_goods, h_x0_good, h_x0_works, (h_x0_work.1), h_x0_years, h_g38, (by grind)⟩)
            · refine Sf.bind (sX7_toldN hn h_x0_shelf h_x0_rowSize h_x0_tapeSize h_x0_lines h_x0_line h_x0_changes h_x0_coins h_x0_goods h_x0_good h_x0_works h_x0_work h_x0_years h_x0_at h_x0_from h_x0_far h_x0_way h_x0_steps h_x0_queue (by first | assumption | rfl | decide | grind) (by first | assumption | rfl | decide | grind) (by first | assumption | rfl | decide | grind)) ?_
              rintro ⟨v42, ⟨g44, g45, g46, g47, g48, g49⟩⟩ hr65
              obtain ⟨h_g46, hx_v42⟩ : (0 ≤ g46 ∧ g46 ≤ 250) ∧ ((v42 = 0 ∨ v42 = 1) ∧ (0 ≤ g44 ∧ g44 ≤ x0_tapeSize) ∧ x0_at ≤ g44 ∧ (v42 = 0 ∨ g45 ≠ 3 ∨ x0_at < g44) ∧ (v42 = 0 ∨ (0 ≤ g49 0 ∧ g49 0 ≤ 11)) ∧ (v42 = 0 ∨ x0_token = 1)) := hr65
              dsimp only [u2, u6]
              refine Sf.ite (fun hc66 => ?_) (fun hc66 => ?_)
              · exact Sf.ok (show (0 ≤ x0_lines ∧ x0_lines ≤ 20) ∧ (LnM x0_line) ∧ (AI 0 99 x0_changes) ∧ (AI 0 9 x0_coins) ∧ (0 ≤ x0_goods ∧ x0_goods ≤ 8) ∧ (GdM x0_good) ∧ (0 ≤ x0_works ∧ x0_works ≤ 7) ∧ (WkB x0_work) ∧ (1 ≤ x0_years ∧ x0_years ≤ 30) ∧ (0 ≤ g46 ∧ g46 ≤ 250) ∧ ((0 = 0 ∨ 0 = 1) ∧ (0 ≤ g44 ∧ g44 ≤ x0_tapeSize) ∧ x0_at ≤ g44 ∧ (0 = 0 ∨ g45 ≠ 3 ∨ x0_at < g44) ∧ (0 = 0 ∨ WkM x0_work)) from ⟨h_x0_lines, h_x0_line, h_x0_changes, h_x0_coins, h_x0_goods, h_x0_good, h_x0_works, (h_x0_work.1), h_x0_years, h_g46, (by grind)⟩)
              · refine Sf.rdl 0 rfl rfl (fun v51 e_v51 => ?_)
                refine Sf.bind (sX7_numberC hn h_x0_shelf h_x0_rowSize h_x0_tapeSize h_x0_lines h_x0_line h_x0_changes h_x0_coins h_x0_goods h_x0_good h_x0_works h_x0_work h_x0_years (by grind) h_g46 h_x0_far h_x0_way h_x0_steps h_x0_queue (by first | assumption | rfl | decide | grind) (by first | assumption | rfl | decide | grind) (by first | assumption | rfl | decide | grind)) ?_
                rintro ⟨v52, ⟨g54, g55, g56, g57, g58, g59⟩⟩ hr67
                obtain ⟨h_g54, h_g57, hx_v52⟩ : (AI 0 99 g54) ∧ (0 ≤ g57 ∧ g57 ≤ 250) ∧ ((v52 = 0 ∨ v52 = 1) ∧ (0 ≤ g55 ∧ g55 ≤ x0_tapeSize) ∧ g44 ≤ g55 ∧ (v52 = 0 ∨ g56 ≠ 3 ∨ g44 < g55)) := hr67
                dsimp only [u2, u6]
                refine Sf.ite (fun hc68 => ?_) (fun hc68 => ?_)
                · exact Sf.ok (show (0 ≤ x0_lines ∧ x0_lines ≤ 20) ∧ (LnM x0_line) ∧ (AI 0 99 g54) ∧ (AI 0 9 x0_coins) ∧ (0 ≤ x0_goods ∧ x0_goods ≤ 8) ∧ (GdM x0_good) ∧ (0 ≤ x0_works ∧ x0_works ≤ 7) ∧ (WkB x0_work) ∧ (1 ≤ x0_years ∧ x0_years ≤ 30) ∧ (0 ≤ g57 ∧ g57 ≤ 250) ∧ ((0 = 0 ∨ 0 = 1) ∧ (0 ≤ g55 ∧ g55 ≤ x0_tapeSize) ∧ x0_at ≤ g55 ∧ (0 = 0 ∨ g56 ≠ 3 ∨ x0_at < g55) ∧ (0 = 0 ∨ WkM x0_work)) from ⟨h_x0_lines, h_x0_line, h_g54, h_x0_coins, h_x0_goods, h_x0_good, h_x0_works, (h_x0_work.1), h_x0_years, h_g57, (by grind)⟩)
                · exact Sf.ok (show (0 ≤ x0_lines ∧ x0_lines ≤ 20) ∧ (LnM x0_line) ∧ (AI 0 99 g54) ∧ (AI 0 9 x0_coins) ∧ (0 ≤ x0_goods ∧ x0_goods ≤ 8) ∧ (GdM x0_good) ∧ (0 ≤ x0_works ∧ x0_works ≤ 7) ∧ (WkB x0_work) ∧ (1 ≤ x0_years ∧ x0_years ≤ 30) ∧ (0 ≤ g57 ∧ g57 ≤ 250) ∧ ((1 = 0 ∨ 1 = 1) ∧ (0 ≤ g55 ∧ g55 ≤ x0_tapeSize) ∧ x0_at ≤ g55 ∧ (1 = 0 ∨ g56 ≠ 3 ∨ x0_at < g55) ∧ (1 = 0 ∨ WkM x0_work)) from ⟨h_x0_lines, h_x0_line, h_g54, h_x0_coins, h_x0_goods, h_x0_good, h_x0_works, (h_x0_work.1), h_x0_years, h_g57, (by grind)⟩)
          · refine Sf.ckb 7 rfl (by grind) (fun q61 e_q61 h_q61 => ?_)
            refine Sf.bind (sX7_workTold hn h_x0_shelf h_x0_rowSize h_x0_tapeSize h_x0_lines h_x0_line h_x0_changes h_x0_coins h_x0_goods h_x0_good h_x0_works h_x0_work h_x0_years h_x0_at h_x0_from h_x0_far h_x0_way h_x0_steps h_x0_queue (h_x0_work.1 q61) (by first | assumption | rfl | decide | grind) (by first | assumption | rfl | decide | grind)) ?_
            rintro ⟨v62, ⟨g64, g65, g66, g67, g68, g69⟩, g70⟩ hr69
            obtain ⟨h_g64, h_g67, h_g70, hx_v62⟩ : (0 ≤ g64 ∧ g64 ≤ 7) ∧ (0 ≤ g67 ∧ g67 ≤ 250) ∧ (RI wkB g70) ∧ ((v62 = 0 ∨ v62 = 1) ∧ (0 ≤ g65 ∧ g65 ≤ x0_tapeSize) ∧ x0_at ≤ g65 ∧ (v62 = 0 ∨ g66 ≠ 3 ∨ x0_at < g65) ∧ (v62 = 0 ∨ (x0_token = 1 ∧ WkRm (g70 0) (g70 1) (g70 2)))) := hr69
            dsimp only [u3, u6]
            have hW : v62 = 0 ∨ WkM (va_up x0_work q61 g70) := by
              rcases hx_v62.2.2.2.2 with h | h
              · exact Or.inl h
              · exact Or.inr (WkM.up h_x0_work h_g70 h.2)
            refine Sf.zbb (by grind) (fun v72 e_v72 => ?_)
            exact Sf.ok (show (0 ≤ x0_lines ∧ x0_lines ≤ 20) ∧ (LnM x0_line) ∧ (AI 0 99 x0_changes) ∧ (AI 0 9 x0_coins) ∧ (0 ≤ x0_goods ∧ x0_goods ≤ 8) ∧ (GdM x0_good) ∧ (0 ≤ g64 ∧ g64 ≤ 7) ∧ (WkB (va_up x0_work q61 g70)) ∧ (1 ≤ x0_years ∧ x0_years ≤ 30) ∧ (0 ≤ g67 ∧ g67 ≤ 250) ∧ ((v72 = 0 ∨ v72 = 1) ∧ (0 ≤ g65 ∧ g65 ≤ x0_tapeSize) ∧ x0_at ≤ g65 ∧ (v72 = 0 ∨ g66 ≠ 3 ∨ x0_at < g65) ∧ (v72 = 0 ∨ WkM (va_up x0_work q61 g70))) from ⟨h_x0_lines, h_x0_line, h_x0_changes, h_x0_coins, h_x0_goods, h_x0_good, h_g64, (GI.up (h_x0_work.1) h_g70), h_x0_years, h_g67, (by grind)⟩)
      · refine Sf.ckb 8 rfl (by grind) (fun q73 e_q73 h_q73 => ?_)
        refine Sf.bind (sX7_two (M := 3) (B := gdB) hn h_x0_shelf h_x0_rowSize h_x0_tapeSize h_x0_lines h_x0_line h_x0_changes h_x0_coins h_x0_goods h_x0_good h_x0_works h_x0_work h_x0_years h_x0_at h_x0_from h_x0_far h_x0_way h_x0_steps h_x0_queue (h_x0_good q73) (by first | assumption | rfl | decide | grind) (by first | assumption | rfl | decide | grind) (by first | assumption | rfl | decide | grind) (by first | assumption | rfl | decide | grind)) ?_
        rintro ⟨v74, ⟨g76, g77, g78, g79, g80⟩, g81⟩ hr70
        obtain ⟨h_g78, h_g81, hx_v74⟩ : (0 ≤ g78 ∧ g78 ≤ 250) ∧ (RI gdB g81) ∧ ((v74 = 0 ∨ v74 = 1) ∧ (0 ≤ g76 ∧ g76 ≤ x0_tapeSize) ∧ x0_at ≤ g76 ∧ (v74 = 0 ∨ g77 ≠ 3 ∨ x0_at < g76)) := hr70
        dsimp only [u3, u5]
        refine Sf.ite (fun hc71 => ?_) (fun hc71 => ?_)
        · exact Sf.ok (show (0 ≤ x0_lines ∧ x0_lines ≤ 20) ∧ (LnM x0_line) ∧ (AI 0 99 x0_changes) ∧ (AI 0 9 x0_coins) ∧ (0 ≤ x0_goods ∧ x0_goods ≤ 8) ∧ (GdM (va_up x0_good q73 g81)) ∧ (0 ≤ x0_works ∧ x0_works ≤ 7) ∧ (WkB x0_work) ∧ (1 ≤ x0_years ∧ x0_years ≤ 30) ∧ (0 ≤ g78 ∧ g78 ≤ 250) ∧ ((0 = 0 ∨ 0 = 1) ∧ (0 ≤ g76 ∧ g76 ≤ x0_tapeSize) ∧ x0_at ≤ g76 ∧ (0 = 0 ∨ g77 ≠ 3 ∨ x0_at < g76) ∧ (0 = 0 ∨ WkM x0_work)) from ⟨h_x0_lines, h_x0_line, h_x0_changes, h_x0_coins, h_x0_goods, (GI.up h_x0_good h_g81), h_x0_works, (h_x0_work.1), h_x0_years, h_g78, (by grind)⟩)
        · refine Sf.ckb 8 rfl (by grind) (fun q83 e_q83 h_q83 => ?_)
          refine Sf.bind (sX7_number (M := 3) (B := gdB) hn h_x0_shelf h_x0_rowSize h_x0_tapeSize h_x0_lines h_x0_line h_x0_changes h_x0_coins h_x0_goods (GI.up h_x0_good h_g81) h_x0_works h_x0_work h_x0_years (by grind) h_g78 h_x0_far h_x0_way h_x0_steps h_x0_queue ((GI.up h_x0_good h_g81) q83) (by first | assumption | rfl | decide | grind) (by first | assumption | rfl | decide | grind) (by first | assumption | rfl | decide | grind) (by first | assumption | rfl | decide | grind)) ?_
          rintro ⟨v84, ⟨g86, g87, g88, g89, g90⟩, g91⟩ hr72
          obtain ⟨h_g88, h_g91, hx_v84⟩ : (0 ≤ g88 ∧ g88 ≤ 250) ∧ (RI gdB g91) ∧ ((v84 = 0 ∨ v84 = 1) ∧ (0 ≤ g86 ∧ g86 ≤ x0_tapeSize) ∧ g76 ≤ g86 ∧ (v84 = 0 ∨ g87 ≠ 3 ∨ g76 < g86) ∧ (v84 = 0 ∨ g91 = va_up ((va_up x0_good q73 g81) q83) (2 : Int32).toNatClampNeg g79.toInt32) ∧ (v84 = 1 ∨ g77 ≠ 2 ∨ g79 < (1 : Int32).toInt64 ∨ (99 : Int32).toInt64 < g79)) := hr72
          dsimp only [u3, u5]
          refine Sf.ite (fun hc73 => ?_) (fun hc73 => ?_)
          · exact Sf.ok (show (0 ≤ x0_lines ∧ x0_lines ≤ 20) ∧ (LnM x0_line) ∧ (AI 0 99 x0_changes) ∧ (AI 0 9 x0_coins) ∧ (0 ≤ x0_goods ∧ x0_goods ≤ 8) ∧ (GdM (va_up (va_up x0_good q73 g81) q83 g91)) ∧ (0 ≤ x0_works ∧ x0_works ≤ 7) ∧ (WkB x0_work) ∧ (1 ≤ x0_years ∧ x0_years ≤ 30) ∧ (0 ≤ g88 ∧ g88 ≤ 250) ∧ ((0 = 0 ∨ 0 = 1) ∧ (0 ≤ g86 ∧ g86 ≤ x0_tapeSize) ∧ x0_at ≤ g86 ∧ (0 = 0 ∨ g87 ≠ 3 ∨ x0_at < g86) ∧ (0 = 0 ∨ WkM x0_work)) from ⟨h_x0_lines, h_x0_line, h_x0_changes, h_x0_coins, h_x0_goods, (GI.up (GI.up h_x0_good h_g81) h_g91), h_x0_works, (h_x0_work.1), h_x0_years, h_g88, (by grind)⟩)
          · exact Sf.ok (show (0 ≤ x0_lines ∧ x0_lines ≤ 20) ∧ (LnM x0_line) ∧ (AI 0 99 x0_changes) ∧ (AI 0 9 x0_coins) ∧ (0 ≤ (x0_goods + 1) ∧ (x0_goods + 1) ≤ 8) ∧ (GdM (va_up (va_up x0_good q73 g81) q83 g91)) ∧ (0 ≤ x0_works ∧ x0_works ≤ 7) ∧ (WkB x0_work) ∧ (1 ≤ x0_years ∧ x0_years ≤ 30) ∧ (0 ≤ g88 ∧ g88 ≤ 250) ∧ ((1 = 0 ∨ 1 = 1) ∧ (0 ≤ g86 ∧ g86 ≤ x0_tapeSize) ∧ x0_at ≤ g86 ∧ (1 = 0 ∨ g87 ≠ 3 ∨ x0_at < g86) ∧ (1 = 0 ∨ WkM x0_work)) from ⟨h_x0_lines, h_x0_line, h_x0_changes, h_x0_coins, (by grind), (GI.up (GI.up h_x0_good h_g81) h_g91), h_x0_works, (h_x0_work.1), h_x0_years, h_g88, (by grind)⟩)
  · refine Sf.ite (fun hc74 => ?_) (fun hc74 => ?_)
    · unfold fX7_statement_j114
      refine Sf.bind (sX7_isWord hn (by grind) h_x0_from (by first | assumption | decide)) ?_
      intro v3 hr75
      obtain ⟨h_v3, hx_v3⟩ : (0 ≤ v3 ∧ v3 ≤ 1) ∧ (v3 = 0 ∨ x0_token = 1) := hr75
      refine Sf.ite (fun hc76 => ?_) (fun hc76 => ?_)
      · unfold fX7_statement_j182
        refine Sf.bind (sX7_isWord hn (by grind) h_x0_from (by first | assumption | decide)) ?_
        intro v5 hr77
        obtain ⟨h_v5, hx_v5⟩ : (0 ≤ v5 ∧ v5 ≤ 1) ∧ (v5 = 0 ∨ x0_token = 1) := hr77
        refine Sf.ite (fun hc78 => ?_) (fun hc78 => ?_)
        · unfold fX7_statement_j214
          refine Sf.bind (sX7_isWord hn (by grind) h_x0_from (by first | assumption | decide)) ?_
          intro v7 hr79
          obtain ⟨h_v7, hx_v7⟩ : (0 ≤ v7 ∧ v7 ≤ 1) ∧ (v7 = 0 ∨ x0_token = 1) := hr79
          refine Sf.ite (fun hc80 => ?_) (fun hc80 => ?_)
          · refine Sf.bind (sX7_isWord hn (by grind) h_x0_from (by first | assumption | decide)) ?_
            intro v9 hr81
            obtain ⟨h_v9, hx_v9⟩ : (0 ≤ v9 ∧ v9 ≤ 1) ∧ (v9 = 0 ∨ x0_token = 1) := hr81
            refine Sf.ite (fun hc82 => ?_) (fun hc82 => ?_)
            · refine Sf.bind (sX7_toldN hn h_x0_shelf h_x0_rowSize h_x0_tapeSize h_x0_lines h_x0_line h_x0_changes h_x0_coins h_x0_goods h_x0_good h_x0_works h_x0_work h_x0_years h_x0_at h_x0_from h_x0_far h_x0_way h_x0_steps h_x0_queue (by first | assumption | rfl | decide | grind) (by first | assumption | rfl | decide | grind) (by first | assumption | rfl | decide | grind)) ?_
              rintro ⟨v11, ⟨g13, g14, g15, g16, g17, g18⟩⟩ hr83
              obtain ⟨h_g15, hx_v11⟩ : (0 ≤ g15 ∧ g15 ≤ 250) ∧ ((v11 = 0 ∨ v11 = 1) ∧ (0 ≤ g13 ∧ g13 ≤ x0_tapeSize) ∧ x0_at ≤ g13 ∧ (v11 = 0 ∨ g14 ≠ 3 ∨ x0_at < g13) ∧ (v11 = 0 ∨ (1 ≤ g18 0 ∧ g18 0 ≤ 30)) ∧ (v11 = 0 ∨ x0_token = 1)) := hr83
              dsimp only [u2, u6]
              refine Sf.ite (fun hc84 => ?_) (fun hc84 => ?_)
              · refine Sf.zbb (by grind) (fun v20 e_v20 => ?_)
                exact Sf.ok (show (0 ≤ x0_lines ∧ x0_lines ≤ 20) ∧ (LnM x0_line) ∧ (AI 0 99 x0_changes) ∧ (AI 0 9 x0_coins) ∧ (0 ≤ x0_goods ∧ x0_goods ≤ 8) ∧ (GdM x0_good) ∧ (0 ≤ x0_works ∧ x0_works ≤ 7) ∧ (WkB x0_work) ∧ (1 ≤ x0_years ∧ x0_years ≤ 30) ∧ (0 ≤ g15 ∧ g15 ≤ 250) ∧ ((v20 = 0 ∨ v20 = 1) ∧ (0 ≤ g13 ∧ g13 ≤ x0_tapeSize) ∧ x0_at ≤ g13 ∧ (v20 = 0 ∨ g14 ≠ 3 ∨ x0_at < g13) ∧ (v20 = 0 ∨ WkM x0_work)) from ⟨h_x0_lines, h_x0_line, h_x0_changes, h_x0_coins, h_x0_goods, h_x0_good, h_x0_works, (h_x0_work.1), h_x0_years, h_g15, (by grind)⟩)
              · refine Sf.rdl 0 rfl rfl (fun v21 e_v21 => ?_)
                refine Sf.zbb (by grind) (fun v22 e_v22 => ?_)
                exact Sf.ok (show (0 ≤ x0_lines ∧ x0_lines ≤ 20) ∧ (LnM x0_line) ∧ (AI 0 99 x0_changes) ∧ (AI 0 9 x0_coins) ∧ (0 ≤ x0_goods ∧ x0_goods ≤ 8) ∧ (GdM x0_good) ∧ (0 ≤ x0_works ∧ x0_works ≤ 7) ∧ (WkB x0_work) ∧ (1 ≤ v21 ∧ v21 ≤ 30) ∧ (0 ≤ g15 ∧ g15 ≤ 250) ∧ ((v22 = 0 ∨ v22 = 1) ∧ (0 ≤ g13 ∧ g13 ≤ x0_tapeSize) ∧ x0_at ≤ g13 ∧ (v22 = 0 ∨ g14 ≠ 3 ∨ x0_at < g13) ∧ (v22 = 0 ∨ WkM x0_work)) from ⟨h_x0_lines, h_x0_line, h_x0_changes, h_x0_coins, h_x0_goods, h_x0_good, h_x0_works, (h_x0_work.1), (by grind), h_g15, (by grind)⟩)
            · refine Sf.bind (sX7_toldN hn h_x0_shelf h_x0_rowSize h_x0_tapeSize h_x0_lines h_x0_line h_x0_changes h_x0_coins h_x0_goods h_x0_good h_x0_works h_x0_work h_x0_years h_x0_at h_x0_from h_x0_far h_x0_way h_x0_steps h_x0_queue (by first | assumption | rfl | decide | grind) (by first | assumption | rfl | decide | grind) (by first | assumption | rfl | decide | grind)) ?_
              rintro ⟨v23, ⟨g25, g26, g27, g28, g29, g30⟩⟩ hr85
              obtain ⟨h_g27, hx_v23⟩ : (0 ≤ g27 ∧ g27 ≤ 250) ∧ ((v23 = 0 ∨ v23 = 1) ∧ (0 ≤ g25 ∧ g25 ≤ x0_tapeSize) ∧ x0_at ≤ g25 ∧ (v23 = 0 ∨ g26 ≠ 3 ∨ x0_at < g25) ∧ (v23 = 0 ∨ (0 ≤ g30 0 ∧ g30 0 ≤ 2)) ∧ (v23 = 0 ∨ x0_token = 1)) := hr85
              dsimp only [u2, u6]
              refine Sf.ite (fun hc86 => ?_) (fun hc86 => ?_)
              · exact Sf.ok (show (0 ≤ x0_lines ∧ x0_lines ≤ 20) ∧ (LnM x0_line) ∧ (AI 0 99 x0_changes) ∧ (AI 0 9 x0_coins) ∧ (0 ≤ x0_goods ∧ x0_goods ≤ 8) ∧ (GdM x0_good) ∧ (0 ≤ x0_works ∧ x0_works ≤ 7) ∧ (WkB x0_work) ∧ (1 ≤ x0_years ∧ x0_years ≤ 30) ∧ (0 ≤ g27 ∧ g27 ≤ 250) ∧ ((0 = 0 ∨ 0 = 1) ∧ (0 ≤ g25 ∧ g25 ≤ x0_tapeSize) ∧ x0_at ≤ g25 ∧ (0 = 0 ∨ g26 ≠ 3 ∨ x0_at < g25) ∧ (0 = 0 ∨ WkM x0_work)) from ⟨h_x0_lines, h_x0_line, h_x0_changes, h_x0_coins, h_x0_goods, h_x0_good, h_x0_works, (h_x0_work.1), h_x0_years, h_g27, (by grind)⟩)
              · refine Sf.rdl 0 rfl rfl (fun v32 e_v32 => ?_)
                refine Sf.bind (sX7_numberO hn h_x0_shelf h_x0_rowSize h_x0_tapeSize h_x0_lines h_x0_line h_x0_changes h_x0_coins h_x0_goods h_x0_good h_x0_works h_x0_work h_x0_years (by grind) h_g27 h_x0_far h_x0_way h_x0_steps h_x0_queue (by first | assumption | rfl | decide | grind) (by first | assumption | rfl | decide | grind) (by first | assumption | rfl | decide | grind)) ?_
                rintro ⟨v33, ⟨g35, g36, g37, g38, g39, g40⟩⟩ hr87
                obtain ⟨h_g35, h_g38, hx_v33⟩ : (AI 0 9 g35) ∧ (0 ≤ g38 ∧ g38 ≤ 250) ∧ ((v33 = 0 ∨ v33 = 1) ∧ (0 ≤ g36 ∧ g36 ≤ x0_tapeSize) ∧ g25 ≤ g36 ∧ (v33 = 0 ∨ g37 ≠ 3 ∨ g25 < g36)) := hr87
                dsimp only [u2, u6]
                refine Sf.ite (fun hc88 => ?_) (fun hc88 => ?_)
                · exact Sf.ok (show (0 ≤ x0_lines ∧ x0_lines ≤ 20) ∧ (LnM x0_line) ∧ (AI 0 99 x0_changes) ∧ (AI 0 9 g35) ∧ (0 ≤ x0_goods ∧ x0_goods ≤ 8) ∧ (GdM x0_good) ∧ (0 ≤ x0_works ∧ x0_works ≤ 7) ∧ (WkB x0_work) ∧ (1 ≤ x0_years ∧ x0_years ≤ 30) ∧ (0 ≤ g38 ∧ g38 ≤ 250) ∧ ((0 = 0 ∨ 0 = 1) ∧ (0 ≤ g36 ∧ g36 ≤ x0_tapeSize) ∧ x0_at ≤ g36 ∧ (0 = 0 ∨ g37 ≠ 3 ∨ x0_at < g36) ∧ (0 = 0 ∨ WkM x0_work)) from ⟨h_x0_lines, h_x0_line, h_x0_changes, h_g35, h_x0_goods, h_x0_good, h_x0_works, (h_x0_work.1), h_x0_years, h_g38, (by grind)⟩)
                · exact Sf.ok (show (0 ≤ x0_lines ∧ x0_lines ≤ 20) ∧ (LnM x0_line) ∧ (AI 0 99 x0_changes) ∧ (AI 0 9 g35) ∧ (0 ≤ x0_goods ∧ x0_goods ≤ 8) ∧ (GdM x0_good) ∧ (0 ≤ x0_works ∧ x0_works ≤ 7) ∧ (WkB x0_work) ∧ (1 ≤ x0_years ∧ x0_years ≤ 30) ∧ (0 ≤ g38 ∧ g38 ≤ 250) ∧ ((1 = 0 ∨ 1 = 1) ∧ (0 ≤ g36 ∧ g36 ≤ x0_tapeSize) ∧ x0_at ≤ g36 ∧ (1 = 0 ∨ g37 ≠ 3 ∨ x0_at < g36) ∧ (1 = 0 ∨ WkM x0_work)) from ⟨h_x0_lines, h_x0_line, h_x0_changes, h_g35, h_x0_goods, h_x0_good, h_x0_works, (h_x0_work.1), h_x0_years, h_g38, (by grind)⟩)
          · refine Sf.bind (sX7_toldN hn h_x0_shelf h_x0_rowSize h_x0_tapeSize h_x0_lines h_x0_line h_x0_changes h_x0_coins h_x0_goods h_x0_good h_x0_works h_x0_work h_x0_years h_x0_at h_x0_from h_x0_far h_x0_way h_x0_steps h_x0_queue (by first | assumption | rfl | decide | grind) (by first | assumption | rfl | decide | grind) (by first | assumption | rfl | decide | grind)) ?_
            rintro ⟨v42, ⟨g44, g45, g46, g47, g48, g49⟩⟩ hr89
            obtain ⟨h_g46, hx_v42⟩ : (0 ≤ g46 ∧ g46 ≤ 250) ∧ ((v42 = 0 ∨ v42 = 1) ∧ (0 ≤ g44 ∧ g44 ≤ x0_tapeSize) ∧ x0_at ≤ g44 ∧ (v42 = 0 ∨ g45 ≠ 3 ∨ x0_at < g44) ∧ (v42 = 0 ∨ (0 ≤ g49 0 ∧ g49 0 ≤ 11)) ∧ (v42 = 0 ∨ x0_token = 1)) := hr89
            dsimp only [u2, u6]
            refine Sf.ite (fun hc90 => ?_) (fun hc90 => ?_)
            · exact Sf.ok (show (0 ≤ x0_lines ∧ x0_lines ≤ 20) ∧ (LnM x0_line) ∧ (AI 0 99 x0_changes) ∧ (AI 0 9 x0_coins) ∧ (0 ≤ x0_goods ∧ x0_goods ≤ 8) ∧ (GdM x0_good) ∧ (0 ≤ x0_works ∧ x0_works ≤ 7) ∧ (WkB x0_work) ∧ (1 ≤ x0_years ∧ x0_years ≤ 30) ∧ (0 ≤ g46 ∧ g46 ≤ 250) ∧ ((0 = 0 ∨ 0 = 1) ∧ (0 ≤ g44 ∧ g44 ≤ x0_tapeSize) ∧ x0_at ≤ g44 ∧ (0 = 0 ∨ g45 ≠ 3 ∨ x0_at < g44) ∧ (0 = 0 ∨ WkM x0_work)) from ⟨h_x0_lines, h_x0_line, h_x0_changes, h_x0_coins, h_x0_goods, h_x0_good, h_x0_works, (h_x0_work.1), h_x0_years, h_g46, (by grind)⟩)
            · refine Sf.rdl 0 rfl rfl (fun v51 e_v51 => ?_)
              refine Sf.bind (sX7_numberC hn h_x0_shelf h_x0_rowSize h_x0_tapeSize h_x0_lines h_x0_line h_x0_changes h_x0_coins h_x0_goods h_x0_good h_x0_works h_x0_work h_x0_years (by grind) h_g46 h_x0_far h_x0_way h_x0_steps h_x0_queue (by first | assumption | rfl | decide | grind) (by first | assumption | rfl | decide | grind) (by first | assumption | rfl | decide | grind)) ?_
              rintro ⟨v52, ⟨g54, g55, g56, g57, g58, g59⟩⟩ hr91
              obtain ⟨h_g54, h_g57, hx_v52⟩ : (AI 0 99 g54) ∧ (0 ≤ g57 ∧ g57 ≤ 250) ∧ ((v52 = 0 ∨ v52 = 1) ∧ (0 ≤ g55 ∧ g55 ≤ x0_tapeSize) ∧ g44 ≤ g55 ∧ (v52 = 0 ∨ g56 ≠ 3 ∨ g44 < g55)) := hr91
              dsimp only [u2, u6]
              refine Sf.ite (fun hc92 => ?_) (fun hc92 => ?_)
              · exact Sf.ok (show (0 ≤ x0_lines ∧ x0_lines ≤ 20) ∧ (LnM x0_line) ∧ (AI 0 99 g54) ∧ (AI 0 9 x0_coins) ∧ (0 ≤ x0_goods ∧ x0_goods ≤ 8) ∧ (GdM x0_good) ∧ (0 ≤ x0_works ∧ x0_works ≤ 7) ∧ (WkB x0_work) ∧ (1 ≤ x0_years ∧ x0_years ≤ 30) ∧ (0 ≤ g57 ∧ g57 ≤ 250) ∧ ((0 = 0 ∨ 0 = 1) ∧ (0 ≤ g55 ∧ g55 ≤ x0_tapeSize) ∧ x0_at ≤ g55 ∧ (0 = 0 ∨ g56 ≠ 3 ∨ x0_at < g55) ∧ (0 = 0 ∨ WkM x0_work)) from ⟨h_x0_lines, h_x0_line, h_g54, h_x0_coins, h_x0_goods, h_x0_good, h_x0_works, (h_x0_work.1), h_x0_years, h_g57, (by grind)⟩)
              · exact Sf.ok (show (0 ≤ x0_lines ∧ x0_lines ≤ 20) ∧ (LnM x0_line) ∧ (AI 0 99 g54) ∧ (AI 0 9 x0_coins) ∧ (0 ≤ x0_goods ∧ x0_goods ≤ 8) ∧ (GdM x0_good) ∧ (0 ≤ x0_works ∧ x0_works ≤ 7) ∧ (WkB x0_work) ∧ (1 ≤ x0_years ∧ x0_years ≤ 30) ∧ (0 ≤ g57 ∧ g57 ≤ 250) ∧ ((1 = 0 ∨ 1 = 1) ∧ (0 ≤ g55 ∧ g55 ≤ x0_tapeSize) ∧ x0_at ≤ g55 ∧ (1 = 0 ∨ g56 ≠ 3 ∨ x0_at < g55) ∧ (1 = 0 ∨ WkM x0_work)) from ⟨h_x0_lines, h_x0_line, h_g54, h_x0_coins, h_x0_goods, h_x0_good, h_x0_works, (h_x0_work.1), h_x0_years, h_g57, (by grind)⟩)
        · refine Sf.ite (fun hc93 => ?_) (fun hc93 => ?_)
          · unfold fX7_statement_j214
            refine Sf.bind (sX7_isWord hn (by grind) h_x0_from (by first | assumption | decide)) ?_
            intro v7 hr94
            obtain ⟨h_v7, hx_v7⟩ : (0 ≤ v7 ∧ v7 ≤ 1) ∧ (v7 = 0 ∨ x0_token = 1) := hr94
            refine Sf.ite (fun hc95 => ?_) (fun hc95 => ?_)
            · refine Sf.bind (sX7_isWord hn (by grind) h_x0_from (by first | assumption | decide)) ?_
              intro v9 hr96
              obtain ⟨h_v9, hx_v9⟩ : (0 ≤ v9 ∧ v9 ≤ 1) ∧ (v9 = 0 ∨ x0_token = 1) := hr96
              refine Sf.ite (fun hc97 => ?_) (fun hc97 => ?_)
              · refine Sf.bind (sX7_toldN hn h_x0_shelf h_x0_rowSize h_x0_tapeSize h_x0_lines h_x0_line h_x0_changes h_x0_coins h_x0_goods h_x0_good h_x0_works h_x0_work h_x0_years h_x0_at h_x0_from h_x0_far h_x0_way h_x0_steps h_x0_queue (by first | assumption | rfl | decide | grind) (by first | assumption | rfl | decide | grind) (by first | assumption | rfl | decide | grind)) ?_
                rintro ⟨v11, ⟨g13, g14, g15, g16, g17, g18⟩⟩ hr98
                obtain ⟨h_g15, hx_v11⟩ : (0 ≤ g15 ∧ g15 ≤ 250) ∧ ((v11 = 0 ∨ v11 = 1) ∧ (0 ≤ g13 ∧ g13 ≤ x0_tapeSize) ∧ x0_at ≤ g13 ∧ (v11 = 0 ∨ g14 ≠ 3 ∨ x0_at < g13) ∧ (v11 = 0 ∨ (1 ≤ g18 0 ∧ g18 0 ≤ 30)) ∧ (v11 = 0 ∨ x0_token = 1)) := hr98
                dsimp only [u2, u6]
                refine Sf.ite (fun hc99 => ?_) (fun hc99 => ?_)
                · refine Sf.zbb (by grind) (fun v20 e_v20 => ?_)
                  exact Sf.ok (show (0 ≤ x0_lines ∧ x0_lines ≤ 20) ∧ (LnM x0_line) ∧ (AI 0 99 x0_changes) ∧ (AI 0 9 x0_coins) ∧ (0 ≤ x0_goods ∧ x0_goods ≤ 8) ∧ (GdM x0_good) ∧ (0 ≤ x0_works ∧ x0_works ≤ 7) ∧ (WkB x0_work) ∧ (1 ≤ x0_years ∧ x0_years ≤ 30) ∧ (0 ≤ g15 ∧ g15 ≤ 250) ∧ ((v20 = 0 ∨ v20 = 1) ∧ (0 ≤ g13 ∧ g13 ≤ x0_tapeSize) ∧ x0_at ≤ g13 ∧ (v20 = 0 ∨ g14 ≠ 3 ∨ x0_at < g13) ∧ (v20 = 0 ∨ WkM x0_work)) from ⟨h_x0_lines, h_x0_line, h_x0_changes, h_x0_coins, h_x0_goods, h_x0_good, h_x0_works, (h_x0_work.1), h_x0_years, h_g15, (by grind)⟩)
                · refine Sf.rdl 0 rfl rfl (fun v21 e_v21 => ?_)
                  refine Sf.zbb (by grind) (fun v22 e_v22 => ?_)
                  exact Sf.ok (show (0 ≤ x0_lines ∧ x0_lines ≤ 20) ∧ (LnM x0_line) ∧ (AI 0 99 x0_changes) ∧ (AI 0 9 x0_coins) ∧ (0 ≤ x0_goods ∧ x0_goods ≤ 8) ∧ (GdM x0_good) ∧ (0 ≤ x0_works ∧ x0_works ≤ 7) ∧ (WkB x0_work) ∧ (1 ≤ v21 ∧ v21 ≤ 30) ∧ (0 ≤ g15 ∧ g15 ≤ 250) ∧ ((v22 = 0 ∨ v22 = 1) ∧ (0 ≤ g13 ∧ g13 ≤ x0_tapeSize) ∧ x0_at ≤ g13 ∧ (v22 = 0 ∨ g14 ≠ 3 ∨ x0_at < g13) ∧ (v22 = 0 ∨ WkM x0_work)) from ⟨h_x0_lines, h_x0_line, h_x0_changes, h_x0_coins, h_x0_goods, h_x0_good, h_x0_works, (h_x0_work.1), (by grind), h_g15, (by grind)⟩)
              · refine Sf.bind (sX7_toldN hn h_x0_shelf h_x0_rowSize h_x0_tapeSize h_x0_lines h_x0_line h_x0_changes h_x0_coins h_x0_goods h_x0_good h_x0_works h_x0_work h_x0_years h_x0_at h_x0_from h_x0_far h_x0_way h_x0_steps h_x0_queue (by first | assumption | rfl | decide | grind) (by first | assumption | rfl | decide | grind) (by first | assumption | rfl | decide | grind)) ?_
                rintro ⟨v23, ⟨g25, g26, g27, g28, g29, g30⟩⟩ hr100
                obtain ⟨h_g27, hx_v23⟩ : (0 ≤ g27 ∧ g27 ≤ 250) ∧ ((v23 = 0 ∨ v23 = 1) ∧ (0 ≤ g25 ∧ g25 ≤ x0_tapeSize) ∧ x0_at ≤ g25 ∧ (v23 = 0 ∨ g26 ≠ 3 ∨ x0_at < g25) ∧ (v23 = 0 ∨ (0 ≤ g30 0 ∧ g30 0 ≤ 2)) ∧ (v23 = 0 ∨ x0_token = 1)) := hr100
                dsimp only [u2, u6]
                refine Sf.ite (fun hc101 => ?_) (fun hc101 => ?_)
                · exact Sf.ok (show (0 ≤ x0_lines ∧ x0_lines ≤ 20) ∧ (LnM x0_line) ∧ (AI 0 99 x0_changes) ∧ (AI 0 9 x0_coins) ∧ (0 ≤ x0_goods ∧ x0_goods ≤ 8) ∧ (GdM x0_good) ∧ (0 ≤ x0_works ∧ x0_works ≤ 7) ∧ (WkB x0_work) ∧ (1 ≤ x0_years ∧ x0_years ≤ 30) ∧ (0 ≤ g27 ∧ g27 ≤ 250) ∧ ((0 = 0 ∨ 0 = 1) ∧ (0 ≤ g25 ∧ g25 ≤ x0_tapeSize) ∧ x0_at ≤ g25 ∧ (0 = 0 ∨ g26 ≠ 3 ∨ x0_at < g25) ∧ (0 = 0 ∨ WkM x0_work)) from ⟨h_x0_lines, h_x0_line, h_x0_changes, h_x0_coins, h_x0_goods, h_x0_good, h_x0_works, (h_x0_work.1), h_x0_years, h_g27, (by grind)⟩)
                · refine Sf.rdl 0 rfl rfl (fun v32 e_v32 => ?_)
                  refine Sf.bind (sX7_numberO hn h_x0_shelf h_x0_rowSize h_x0_tapeSize h_x0_lines h_x0_line h_x0_changes h_x0_coins h_x0_goods h_x0_good h_x0_works h_x0_work h_x0_years (by grind) h_g27 h_x0_far h_x0_way h_x0_steps h_x0_queue (by first | assumption | rfl | decide | grind) (by first | assumption | rfl | decide | grind) (by first | assumption | rfl | decide | grind)) ?_
                  rintro ⟨v33, ⟨g35, g36, g37, g38, g39, g40⟩⟩ hr102
                  obtain ⟨h_g35, h_g38, hx_v33⟩ : (AI 0 9 g35) ∧ (0 ≤ g38 ∧ g38 ≤ 250) ∧ ((v33 = 0 ∨ v33 = 1) ∧ (0 ≤ g36 ∧ g36 ≤ x0_tapeSize) ∧ g25 ≤ g36 ∧ (v33 = 0 ∨ g37 ≠ 3 ∨ g25 < g36)) := hr102
                  dsimp only [u2, u6]
                  refine Sf.ite (fun hc103 => ?_) (fun hc103 => ?_)
                  · exact Sf.ok (show (0 ≤ x0_lines ∧ x0_lines ≤ 20) ∧ (LnM x0_line) ∧ (AI 0 99 x0_changes) ∧ (AI 0 9 g35) ∧ (0 ≤ x0_goods ∧ x0_goods ≤ 8) ∧ (GdM x0_good) ∧ (0 ≤ x0_works ∧ x0_works ≤ 7) ∧ (WkB x0_work) ∧ (1 ≤ x0_years ∧ x0_years ≤ 30) ∧ (0 ≤ g38 ∧ g38 ≤ 250) ∧ ((0 = 0 ∨ 0 = 1) ∧ (0 ≤ g36 ∧ g36 ≤ x0_tapeSize) ∧ x0_at ≤ g36 ∧ (0 = 0 ∨ g37 ≠ 3 ∨ x0_at < g36) ∧ (0 = 0 ∨ WkM x0_work)) from ⟨h_x0_lines, h_x0_line, h_x0_changes, h_g35, h_x0_goods, h_x0_good, h_x0_works, (h_x0_work.1), h_x0_years, h_g38, (by grind)⟩)
                  · exact Sf.ok (show (0 ≤ x0_lines ∧ x0_lines ≤ 20) ∧ (LnM x0_line) ∧ (AI 0 99 x0_changes) ∧ (AI 0 9 g35) ∧ (0 ≤ x0_goods ∧ x0_goods ≤ 8) ∧ (GdM x0_good) ∧ (0 ≤ x0_works ∧ x0_works ≤ 7) ∧ (WkB x0_work) ∧ (1 ≤ x0_years ∧ x0_years ≤ 30) ∧ (0 ≤ g38 ∧ g38 ≤ 250) ∧ ((1 = 0 ∨ 1 = 1) ∧ (0 ≤ g36 ∧ g36 ≤ x0_tapeSize) ∧ x0_at ≤ g36 ∧ (1 = 0 ∨ g37 ≠ 3 ∨ x0_at < g36) ∧ (1 = 0 ∨ WkM x0_work)) from ⟨h_x0_lines, h_x0_line, h_x0_changes, h_g35, h_x0_goods, h_x0_good, h_x0_works, (h_x0_work.1), h_x0_years, h_g38, (by grind)⟩)
            · refine Sf.bind (sX7_toldN hn h_x0_shelf h_x0_rowSize h_x0_tapeSize h_x0_lines h_x0_line h_x0_changes h_x0_coins h_x0_goods h_x0_good h_x0_works h_x0_work h_x0_years h_x0_at h_x0_from h_x0_far h_x0_way h_x0_steps h_x0_queue (by first | assumption | rfl | decide | grind) (by first | assumption | rfl | decide | grind) (by first | assumption | rfl | decide | grind)) ?_
              rintro ⟨v42, ⟨g44, g45, g46, g47, g48, g49⟩⟩ hr104
              obtain ⟨h_g46, hx_v42⟩ : (0 ≤ g46 ∧ g46 ≤ 250) ∧ ((v42 = 0 ∨ v42 = 1) ∧ (0 ≤ g44 ∧ g44 ≤ x0_tapeSize) ∧ x0_at ≤ g44 ∧ (v42 = 0 ∨ g45 ≠ 3 ∨ x0_at < g44) ∧ (v42 = 0 ∨ (0 ≤ g49 0 ∧ g49 0 ≤ 11)) ∧ (v42 = 0 ∨ x0_token = 1)) := hr104
              dsimp only [u2, u6]
              refine Sf.ite (fun hc105 => ?_) (fun hc105 => ?_)
              · exact Sf.ok (show (0 ≤ x0_lines ∧ x0_lines ≤ 20) ∧ (LnM x0_line) ∧ (AI 0 99 x0_changes) ∧ (AI 0 9 x0_coins) ∧ (0 ≤ x0_goods ∧ x0_goods ≤ 8) ∧ (GdM x0_good) ∧ (0 ≤ x0_works ∧ x0_works ≤ 7) ∧ (WkB x0_work) ∧ (1 ≤ x0_years ∧ x0_years ≤ 30) ∧ (0 ≤ g46 ∧ g46 ≤ 250) ∧ ((0 = 0 ∨ 0 = 1) ∧ (0 ≤ g44 ∧ g44 ≤ x0_tapeSize) ∧ x0_at ≤ g44 ∧ (0 = 0 ∨ g45 ≠ 3 ∨ x0_at < g44) ∧ (0 = 0 ∨ WkM x0_work)) from ⟨h_x0_lines, h_x0_line, h_x0_changes, h_x0_coins, h_x0_goods, h_x0_good, h_x0_works, (h_x0_work.1), h_x0_years, h_g46, (by grind)⟩)
              · refine Sf.rdl 0 rfl rfl (fun v51 e_v51 => ?_)
                refine Sf.bind (sX7_numberC hn h_x0_shelf h_x0_rowSize h_x0_tapeSize h_x0_lines h_x0_line h_x0_changes h_x0_coins h_x0_goods h_x0_good h_x0_works h_x0_work h_x0_years (by grind) h_g46 h_x0_far h_x0_way h_x0_steps h_x0_queue (by first | assumption | rfl | decide | grind) (by first | assumption | rfl | decide | grind) (by first | assumption | rfl | decide | grind)) ?_
                rintro ⟨v52, ⟨g54, g55, g56, g57, g58, g59⟩⟩ hr106
                obtain ⟨h_g54, h_g57, hx_v52⟩ : (AI 0 99 g54) ∧ (0 ≤ g57 ∧ g57 ≤ 250) ∧ ((v52 = 0 ∨ v52 = 1) ∧ (0 ≤ g55 ∧ g55 ≤ x0_tapeSize) ∧ g44 ≤ g55 ∧ (v52 = 0 ∨ g56 ≠ 3 ∨ g44 < g55)) := hr106
                dsimp only [u2, u6]
                refine Sf.ite (fun hc107 => ?_) (fun hc107 => ?_)
                · exact Sf.ok (show (0 ≤ x0_lines ∧ x0_lines ≤ 20) ∧ (LnM x0_line) ∧ (AI 0 99 g54) ∧ (AI 0 9 x0_coins) ∧ (0 ≤ x0_goods ∧ x0_goods ≤ 8) ∧ (GdM x0_good) ∧ (0 ≤ x0_works ∧ x0_works ≤ 7) ∧ (WkB x0_work) ∧ (1 ≤ x0_years ∧ x0_years ≤ 30) ∧ (0 ≤ g57 ∧ g57 ≤ 250) ∧ ((0 = 0 ∨ 0 = 1) ∧ (0 ≤ g55 ∧ g55 ≤ x0_tapeSize) ∧ x0_at ≤ g55 ∧ (0 = 0 ∨ g56 ≠ 3 ∨ x0_at < g55) ∧ (0 = 0 ∨ WkM x0_work)) from ⟨h_x0_lines, h_x0_line, h_g54, h_x0_coins, h_x0_goods, h_x0_good, h_x0_works, (h_x0_work.1), h_x0_years, h_g57, (by grind)⟩)
                · exact Sf.ok (show (0 ≤ x0_lines ∧ x0_lines ≤ 20) ∧ (LnM x0_line) ∧ (AI 0 99 g54) ∧ (AI 0 9 x0_coins) ∧ (0 ≤ x0_goods ∧ x0_goods ≤ 8) ∧ (GdM x0_good) ∧ (0 ≤ x0_works ∧ x0_works ≤ 7) ∧ (WkB x0_work) ∧ (1 ≤ x0_years ∧ x0_years ≤ 30) ∧ (0 ≤ g57 ∧ g57 ≤ 250) ∧ ((1 = 0 ∨ 1 = 1) ∧ (0 ≤ g55 ∧ g55 ≤ x0_tapeSize) ∧ x0_at ≤ g55 ∧ (1 = 0 ∨ g56 ≠ 3 ∨ x0_at < g55) ∧ (1 = 0 ∨ WkM x0_work)) from ⟨h_x0_lines, h_x0_line, h_g54, h_x0_coins, h_x0_goods, h_x0_good, h_x0_works, (h_x0_work.1), h_x0_years, h_g57, (by grind)⟩)
          · refine Sf.ckb 7 rfl (by grind) (fun q61 e_q61 h_q61 => ?_)
            refine Sf.bind (sX7_workTold hn h_x0_shelf h_x0_rowSize h_x0_tapeSize h_x0_lines h_x0_line h_x0_changes h_x0_coins h_x0_goods h_x0_good h_x0_works h_x0_work h_x0_years h_x0_at h_x0_from h_x0_far h_x0_way h_x0_steps h_x0_queue (h_x0_work.1 q61) (by first | assumption | rfl | decide | grind) (by first | assumption | rfl | decide | grind)) ?_
            rintro ⟨v62, ⟨g64, g65, g66, g67, g68, g69⟩, g70⟩ hr108
            obtain ⟨h_g64, h_g67, h_g70, hx_v62⟩ : (0 ≤ g64 ∧ g64 ≤ 7) ∧ (0 ≤ g67 ∧ g67 ≤ 250) ∧ (RI wkB g70) ∧ ((v62 = 0 ∨ v62 = 1) ∧ (0 ≤ g65 ∧ g65 ≤ x0_tapeSize) ∧ x0_at ≤ g65 ∧ (v62 = 0 ∨ g66 ≠ 3 ∨ x0_at < g65) ∧ (v62 = 0 ∨ (x0_token = 1 ∧ WkRm (g70 0) (g70 1) (g70 2)))) := hr108
            dsimp only [u3, u6]
            have hW : v62 = 0 ∨ WkM (va_up x0_work q61 g70) := by
              rcases hx_v62.2.2.2.2 with h | h
              · exact Or.inl h
              · exact Or.inr (WkM.up h_x0_work h_g70 h.2)
            refine Sf.zbb (by grind) (fun v72 e_v72 => ?_)
            exact Sf.ok (show (0 ≤ x0_lines ∧ x0_lines ≤ 20) ∧ (LnM x0_line) ∧ (AI 0 99 x0_changes) ∧ (AI 0 9 x0_coins) ∧ (0 ≤ x0_goods ∧ x0_goods ≤ 8) ∧ (GdM x0_good) ∧ (0 ≤ g64 ∧ g64 ≤ 7) ∧ (WkB (va_up x0_work q61 g70)) ∧ (1 ≤ x0_years ∧ x0_years ≤ 30) ∧ (0 ≤ g67 ∧ g67 ≤ 250) ∧ ((v72 = 0 ∨ v72 = 1) ∧ (0 ≤ g65 ∧ g65 ≤ x0_tapeSize) ∧ x0_at ≤ g65 ∧ (v72 = 0 ∨ g66 ≠ 3 ∨ x0_at < g65) ∧ (v72 = 0 ∨ WkM (va_up x0_work q61 g70))) from ⟨h_x0_lines, h_x0_line, h_x0_changes, h_x0_coins, h_x0_goods, h_x0_good, h_g64, (GI.up (h_x0_work.1) h_g70), h_x0_years, h_g67, (by grind)⟩)
      · refine Sf.ite (fun hc109 => ?_) (fun hc109 => ?_)
        · unfold fX7_statement_j182
          refine Sf.bind (sX7_isWord hn (by grind) h_x0_from (by first | assumption | decide)) ?_
          intro v5 hr110
          obtain ⟨h_v5, hx_v5⟩ : (0 ≤ v5 ∧ v5 ≤ 1) ∧ (v5 = 0 ∨ x0_token = 1) := hr110
          refine Sf.ite (fun hc111 => ?_) (fun hc111 => ?_)
          · unfold fX7_statement_j214
            refine Sf.bind (sX7_isWord hn (by grind) h_x0_from (by first | assumption | decide)) ?_
            intro v7 hr112
            obtain ⟨h_v7, hx_v7⟩ : (0 ≤ v7 ∧ v7 ≤ 1) ∧ (v7 = 0 ∨ x0_token = 1) := hr112
            refine Sf.ite (fun hc113 => ?_) (fun hc113 => ?_)
            · refine Sf.bind (sX7_isWord hn (by grind) h_x0_from (by first | assumption | decide)) ?_
              intro v9 hr114
              obtain ⟨h_v9, hx_v9⟩ : (0 ≤ v9 ∧ v9 ≤ 1) ∧ (v9 = 0 ∨ x0_token = 1) := hr114
              refine Sf.ite (fun hc115 => ?_) (fun hc115 => ?_)
              · refine Sf.bind (sX7_toldN hn h_x0_shelf h_x0_rowSize h_x0_tapeSize h_x0_lines h_x0_line h_x0_changes h_x0_coins h_x0_goods h_x0_good h_x0_works h_x0_work h_x0_years h_x0_at h_x0_from h_x0_far h_x0_way h_x0_steps h_x0_queue (by first | assumption | rfl | decide | grind) (by first | assumption | rfl | decide | grind) (by first | assumption | rfl | decide | grind)) ?_
                rintro ⟨v11, ⟨g13, g14, g15, g16, g17, g18⟩⟩ hr116
                obtain ⟨h_g15, hx_v11⟩ : (0 ≤ g15 ∧ g15 ≤ 250) ∧ ((v11 = 0 ∨ v11 = 1) ∧ (0 ≤ g13 ∧ g13 ≤ x0_tapeSize) ∧ x0_at ≤ g13 ∧ (v11 = 0 ∨ g14 ≠ 3 ∨ x0_at < g13) ∧ (v11 = 0 ∨ (1 ≤ g18 0 ∧ g18 0 ≤ 30)) ∧ (v11 = 0 ∨ x0_token = 1)) := hr116
                dsimp only [u2, u6]
                refine Sf.ite (fun hc117 => ?_) (fun hc117 => ?_)
                · refine Sf.zbb (by grind) (fun v20 e_v20 => ?_)
                  exact Sf.ok (show (0 ≤ x0_lines ∧ x0_lines ≤ 20) ∧ (LnM x0_line) ∧ (AI 0 99 x0_changes) ∧ (AI 0 9 x0_coins) ∧ (0 ≤ x0_goods ∧ x0_goods ≤ 8) ∧ (GdM x0_good) ∧ (0 ≤ x0_works ∧ x0_works ≤ 7) ∧ (WkB x0_work) ∧ (1 ≤ x0_years ∧ x0_years ≤ 30) ∧ (0 ≤ g15 ∧ g15 ≤ 250) ∧ ((v20 = 0 ∨ v20 = 1) ∧ (0 ≤ g13 ∧ g13 ≤ x0_tapeSize) ∧ x0_at ≤ g13 ∧ (v20 = 0 ∨ g14 ≠ 3 ∨ x0_at < g13) ∧ (v20 = 0 ∨ WkM x0_work)) from ⟨h_x0_lines, h_x0_line, h_x0_changes, h_x0_coins, h_x0_goods, h_x0_good, h_x0_works, (h_x0_work.1), h_x0_years, h_g15, (by grind)⟩)
                · refine Sf.rdl 0 rfl rfl (fun v21 e_v21 => ?_)
                  refine Sf.zbb (by grind) (fun v22 e_v22 => ?_)
                  exact Sf.ok (show (0 ≤ x0_lines ∧ x0_lines ≤ 20) ∧ (LnM x0_line) ∧ (AI 0 99 x0_changes) ∧ (AI 0 9 x0_coins) ∧ (0 ≤ x0_goods ∧ x0_goods ≤ 8) ∧ (GdM x0_good) ∧ (0 ≤ x0_works ∧ x0_works ≤ 7) ∧ (WkB x0_work) ∧ (1 ≤ v21 ∧ v21 ≤ 30) ∧ (0 ≤ g15 ∧ g15 ≤ 250) ∧ ((v22 = 0 ∨ v22 = 1) ∧ (0 ≤ g13 ∧ g13 ≤ x0_tapeSize) ∧ x0_at ≤ g13 ∧ (v22 = 0 ∨ g14 ≠ 3 ∨ x0_at < g13) ∧ (v22 = 0 ∨ WkM x0_work)) from ⟨h_x0_lines, h_x0_line, h_x0_changes, h_x0_coins, h_x0_goods, h_x0_good, h_x0_works, (h_x0_work.1), (by grind), h_g15, (by grind)⟩)
              · refine Sf.bind (sX7_toldN hn h_x0_shelf h_x0_rowSize h_x0_tapeSize h_x0_lines h_x0_line h_x0_changes h_x0_coins h_x0_goods h_x0_good h_x0_works h_x0_work h_x0_years h_x0_at h_x0_from h_x0_far h_x0_way h_x0_steps h_x0_queue (by first | assumption | rfl | decide | grind) (by first | assumption | rfl | decide | grind) (by first | assumption | rfl | decide | grind)) ?_
                rintro ⟨v23, ⟨g25, g26, g27, g28, g29, g30⟩⟩ hr118
                obtain ⟨h_g27, hx_v23⟩ : (0 ≤ g27 ∧ g27 ≤ 250) ∧ ((v23 = 0 ∨ v23 = 1) ∧ (0 ≤ g25 ∧ g25 ≤ x0_tapeSize) ∧ x0_at ≤ g25 ∧ (v23 = 0 ∨ g26 ≠ 3 ∨ x0_at < g25) ∧ (v23 = 0 ∨ (0 ≤ g30 0 ∧ g30 0 ≤ 2)) ∧ (v23 = 0 ∨ x0_token = 1)) := hr118
                dsimp only [u2, u6]
                refine Sf.ite (fun hc119 => ?_) (fun hc119 => ?_)
                · exact Sf.ok (show (0 ≤ x0_lines ∧ x0_lines ≤ 20) ∧ (LnM x0_line) ∧ (AI 0 99 x0_changes) ∧ (AI 0 9 x0_coins) ∧ (0 ≤ x0_goods ∧ x0_goods ≤ 8) ∧ (GdM x0_good) ∧ (0 ≤ x0_works ∧ x0_works ≤ 7) ∧ (WkB x0_work) ∧ (1 ≤ x0_years ∧ x0_years ≤ 30) ∧ (0 ≤ g27 ∧ g27 ≤ 250) ∧ ((0 = 0 ∨ 0 = 1) ∧ (0 ≤ g25 ∧ g25 ≤ x0_tapeSize) ∧ x0_at ≤ g25 ∧ (0 = 0 ∨ g26 ≠ 3 ∨ x0_at < g25) ∧ (0 = 0 ∨ WkM x0_work)) from ⟨h_x0_lines, h_x0_line, h_x0_changes, h_x0_coins, h_x0_goods, h_x0_good, h_x0_works, (h_x0_work.1), h_x0_years, h_g27, (by grind)⟩)
                · refine Sf.rdl 0 rfl rfl (fun v32 e_v32 => ?_)
                  refine Sf.bind (sX7_numberO hn h_x0_shelf h_x0_rowSize h_x0_tapeSize h_x0_lines h_x0_line h_x0_changes h_x0_coins h_x0_goods h_x0_good h_x0_works h_x0_work h_x0_years (by grind) h_g27 h_x0_far h_x0_way h_x0_steps h_x0_queue (by first | assumption | rfl | decide | grind) (by first | assumption | rfl | decide | grind) (by first | assumption | rfl | decide | grind)) ?_
                  rintro ⟨v33, ⟨g35, g36, g37, g38, g39, g40⟩⟩ hr120
                  obtain ⟨h_g35, h_g38, hx_v33⟩ : (AI 0 9 g35) ∧ (0 ≤ g38 ∧ g38 ≤ 250) ∧ ((v33 = 0 ∨ v33 = 1) ∧ (0 ≤ g36 ∧ g36 ≤ x0_tapeSize) ∧ g25 ≤ g36 ∧ (v33 = 0 ∨ g37 ≠ 3 ∨ g25 < g36)) := hr120
                  dsimp only [u2, u6]
                  refine Sf.ite (fun hc121 => ?_) (fun hc121 => ?_)
                  · exact Sf.ok (show (0 ≤ x0_lines ∧ x0_lines ≤ 20) ∧ (LnM x0_line) ∧ (AI 0 99 x0_changes) ∧ (AI 0 9 g35) ∧ (0 ≤ x0_goods ∧ x0_goods ≤ 8) ∧ (GdM x0_good) ∧ (0 ≤ x0_works ∧ x0_works ≤ 7) ∧ (WkB x0_work) ∧ (1 ≤ x0_years ∧ x0_years ≤ 30) ∧ (0 ≤ g38 ∧ g38 ≤ 250) ∧ ((0 = 0 ∨ 0 = 1) ∧ (0 ≤ g36 ∧ g36 ≤ x0_tapeSize) ∧ x0_at ≤ g36 ∧ (0 = 0 ∨ g37 ≠ 3 ∨ x0_at < g36) ∧ (0 = 0 ∨ WkM x0_work)) from ⟨h_x0_lines, h_x0_line, h_x0_changes, h_g35, h_x0_goods, h_x0_good, h_x0_works, (h_x0_work.1), h_x0_years, h_g38, (by grind)⟩)
                  · exact Sf.ok (show (0 ≤ x0_lines ∧ x0_lines ≤ 20) ∧ (LnM x0_line) ∧ (AI 0 99 x0_changes) ∧ (AI 0 9 g35) ∧ (0 ≤ x0_goods ∧ x0_goods ≤ 8) ∧ (GdM x0_good) ∧ (0 ≤ x0_works ∧ x0_works ≤ 7) ∧ (WkB x0_work) ∧ (1 ≤ x0_years ∧ x0_years ≤ 30) ∧ (0 ≤ g38 ∧ g38 ≤ 250) ∧ ((1 = 0 ∨ 1 = 1) ∧ (0 ≤ g36 ∧ g36 ≤ x0_tapeSize) ∧ x0_at ≤ g36 ∧ (1 = 0 ∨ g37 ≠ 3 ∨ x0_at < g36) ∧ (1 = 0 ∨ WkM x0_work)) from ⟨h_x0_lines, h_x0_line, h_x0_changes, h_g35, h_x0_goods, h_x0_good, h_x0_works, (h_x0_work.1), h_x0_years, h_g38, (by grind)⟩)
            · refine Sf.bind (sX7_toldN hn h_x0_shelf h_x0_rowSize h_x0_tapeSize h_x0_lines h_x0_line h_x0_changes h_x0_coins h_x0_goods h_x0_good h_x0_works h_x0_work h_x0_years h_x0_at h_x0_from h_x0_far h_x0_way h_x0_steps h_x0_queue (by first | assumption | rfl | decide | grind) (by first | assumption | rfl | decide | grind) (by first | assumption | rfl | decide | grind)) ?_
              rintro ⟨v42, ⟨g44, g45, g46, g47, g48, g49⟩⟩ hr122
              obtain ⟨h_g46, hx_v42⟩ : (0 ≤ g46 ∧ g46 ≤ 250) ∧ ((v42 = 0 ∨ v42 = 1) ∧ (0 ≤ g44 ∧ g44 ≤ x0_tapeSize) ∧ x0_at ≤ g44 ∧ (v42 = 0 ∨ g45 ≠ 3 ∨ x0_at < g44) ∧ (v42 = 0 ∨ (0 ≤ g49 0 ∧ g49 0 ≤ 11)) ∧ (v42 = 0 ∨ x0_token = 1)) := hr122
              dsimp only [u2, u6]
              refine Sf.ite (fun hc123 => ?_) (fun hc123 => ?_)
              · exact Sf.ok (show (0 ≤ x0_lines ∧ x0_lines ≤ 20) ∧ (LnM x0_line) ∧ (AI 0 99 x0_changes) ∧ (AI 0 9 x0_coins) ∧ (0 ≤ x0_goods ∧ x0_goods ≤ 8) ∧ (GdM x0_good) ∧ (0 ≤ x0_works ∧ x0_works ≤ 7) ∧ (WkB x0_work) ∧ (1 ≤ x0_years ∧ x0_years ≤ 30) ∧ (0 ≤ g46 ∧ g46 ≤ 250) ∧ ((0 = 0 ∨ 0 = 1) ∧ (0 ≤ g44 ∧ g44 ≤ x0_tapeSize) ∧ x0_at ≤ g44 ∧ (0 = 0 ∨ g45 ≠ 3 ∨ x0_at < g44) ∧ (0 = 0 ∨ WkM x0_work)) from ⟨h_x0_lines, h_x0_line, h_x0_changes, h_x0_coins, h_x0_goods, h_x0_good, h_x0_works, (h_x0_work.1), h_x0_years, h_g46, (by grind)⟩)
              · refine Sf.rdl 0 rfl rfl (fun v51 e_v51 => ?_)
                refine Sf.bind (sX7_numberC hn h_x0_shelf h_x0_rowSize h_x0_tapeSize h_x0_lines h_x0_line h_x0_changes h_x0_coins h_x0_goods h_x0_good h_x0_works h_x0_work h_x0_years (by grind) h_g46 h_x0_far h_x0_way h_x0_steps h_x0_queue (by first | assumption | rfl | decide | grind) (by first | assumption | rfl | decide | grind) (by first | assumption | rfl | decide | grind)) ?_
                rintro ⟨v52, ⟨g54, g55, g56, g57, g58, g59⟩⟩ hr124
                obtain ⟨h_g54, h_g57, hx_v52⟩ : (AI 0 99 g54) ∧ (0 ≤ g57 ∧ g57 ≤ 250) ∧ ((v52 = 0 ∨ v52 = 1) ∧ (0 ≤ g55 ∧ g55 ≤ x0_tapeSize) ∧ g44 ≤ g55 ∧ (v52 = 0 ∨ g56 ≠ 3 ∨ g44 < g55)) := hr124
                dsimp only [u2, u6]
                refine Sf.ite (fun hc125 => ?_) (fun hc125 => ?_)
                · exact Sf.ok (show (0 ≤ x0_lines ∧ x0_lines ≤ 20) ∧ (LnM x0_line) ∧ (AI 0 99 g54) ∧ (AI 0 9 x0_coins) ∧ (0 ≤ x0_goods ∧ x0_goods ≤ 8) ∧ (GdM x0_good) ∧ (0 ≤ x0_works ∧ x0_works ≤ 7) ∧ (WkB x0_work) ∧ (1 ≤ x0_years ∧ x0_years ≤ 30) ∧ (0 ≤ g57 ∧ g57 ≤ 250) ∧ ((0 = 0 ∨ 0 = 1) ∧ (0 ≤ g55 ∧ g55 ≤ x0_tapeSize) ∧ x0_at ≤ g55 ∧ (0 = 0 ∨ g56 ≠ 3 ∨ x0_at < g55) ∧ (0 = 0 ∨ WkM x0_work)) from ⟨h_x0_lines, h_x0_line, h_g54, h_x0_coins, h_x0_goods, h_x0_good, h_x0_works, (h_x0_work.1), h_x0_years, h_g57, (by grind)⟩)
                · exact Sf.ok (show (0 ≤ x0_lines ∧ x0_lines ≤ 20) ∧ (LnM x0_line) ∧ (AI 0 99 g54) ∧ (AI 0 9 x0_coins) ∧ (0 ≤ x0_goods ∧ x0_goods ≤ 8) ∧ (GdM x0_good) ∧ (0 ≤ x0_works ∧ x0_works ≤ 7) ∧ (WkB x0_work) ∧ (1 ≤ x0_years ∧ x0_years ≤ 30) ∧ (0 ≤ g57 ∧ g57 ≤ 250) ∧ ((1 = 0 ∨ 1 = 1) ∧ (0 ≤ g55 ∧ g55 ≤ x0_tapeSize) ∧ x0_at ≤ g55 ∧ (1 = 0 ∨ g56 ≠ 3 ∨ x0_at < g55) ∧ (1 = 0 ∨ WkM x0_work)) from ⟨h_x0_lines, h_x0_line, h_g54, h_x0_coins, h_x0_goods, h_x0_good, h_x0_works, (h_x0_work.1), h_x0_years, h_g57, (by grind)⟩)
          · refine Sf.ite (fun hc126 => ?_) (fun hc126 => ?_)
            · unfold fX7_statement_j214
              refine Sf.bind (sX7_isWord hn (by grind) h_x0_from (by first | assumption | decide)) ?_
              intro v7 hr127
              obtain ⟨h_v7, hx_v7⟩ : (0 ≤ v7 ∧ v7 ≤ 1) ∧ (v7 = 0 ∨ x0_token = 1) := hr127
              refine Sf.ite (fun hc128 => ?_) (fun hc128 => ?_)
              · refine Sf.bind (sX7_isWord hn (by grind) h_x0_from (by first | assumption | decide)) ?_
                intro v9 hr129
                obtain ⟨h_v9, hx_v9⟩ : (0 ≤ v9 ∧ v9 ≤ 1) ∧ (v9 = 0 ∨ x0_token = 1) := hr129
                refine Sf.ite (fun hc130 => ?_) (fun hc130 => ?_)
                · refine Sf.bind (sX7_toldN hn h_x0_shelf h_x0_rowSize h_x0_tapeSize h_x0_lines h_x0_line h_x0_changes h_x0_coins h_x0_goods h_x0_good h_x0_works h_x0_work h_x0_years h_x0_at h_x0_from h_x0_far h_x0_way h_x0_steps h_x0_queue (by first | assumption | rfl | decide | grind) (by first | assumption | rfl | decide | grind) (by first | assumption | rfl | decide | grind)) ?_
                  rintro ⟨v11, ⟨g13, g14, g15, g16, g17, g18⟩⟩ hr131
                  obtain ⟨h_g15, hx_v11⟩ : (0 ≤ g15 ∧ g15 ≤ 250) ∧ ((v11 = 0 ∨ v11 = 1) ∧ (0 ≤ g13 ∧ g13 ≤ x0_tapeSize) ∧ x0_at ≤ g13 ∧ (v11 = 0 ∨ g14 ≠ 3 ∨ x0_at < g13) ∧ (v11 = 0 ∨ (1 ≤ g18 0 ∧ g18 0 ≤ 30)) ∧ (v11 = 0 ∨ x0_token = 1)) := hr131
                  dsimp only [u2, u6]
                  refine Sf.ite (fun hc132 => ?_) (fun hc132 => ?_)
                  · refine Sf.zbb (by grind) (fun v20 e_v20 => ?_)
                    exact Sf.ok (show (0 ≤ x0_lines ∧ x0_lines ≤ 20) ∧ (LnM x0_line) ∧ (AI 0 99 x0_changes) ∧ (AI 0 9 x0_coins) ∧ (0 ≤ x0_goods ∧ x0_goods ≤ 8) ∧ (GdM x0_good) ∧ (0 ≤ x0_works ∧ x0_works ≤ 7) ∧ (WkB x0_work) ∧ (1 ≤ x0_years ∧ x0_years ≤ 30) ∧ (0 ≤ g15 ∧ g15 ≤ 250) ∧ ((v20 = 0 ∨ v20 = 1) ∧ (0 ≤ g13 ∧ g13 ≤ x0_tapeSize) ∧ x0_at ≤ g13 ∧ (v20 = 0 ∨ g14 ≠ 3 ∨ x0_at < g13) ∧ (v20 = 0 ∨ WkM x0_work)) from ⟨h_x0_lines, h_x0_line, h_x0_changes, h_x0_coins, h_x0_goods, h_x0_good, h_x0_works, (h_x0_work.1), h_x0_years, h_g15, (by grind)⟩)
                  · refine Sf.rdl 0 rfl rfl (fun v21 e_v21 => ?_)
                    refine Sf.zbb (by grind) (fun v22 e_v22 => ?_)
                    exact Sf.ok (show (0 ≤ x0_lines ∧ x0_lines ≤ 20) ∧ (LnM x0_line) ∧ (AI 0 99 x0_changes) ∧ (AI 0 9 x0_coins) ∧ (0 ≤ x0_goods ∧ x0_goods ≤ 8) ∧ (GdM x0_good) ∧ (0 ≤ x0_works ∧ x0_works ≤ 7) ∧ (WkB x0_work) ∧ (1 ≤ v21 ∧ v21 ≤ 30) ∧ (0 ≤ g15 ∧ g15 ≤ 250) ∧ ((v22 = 0 ∨ v22 = 1) ∧ (0 ≤ g13 ∧ g13 ≤ x0_tapeSize) ∧ x0_at ≤ g13 ∧ (v22 = 0 ∨ g14 ≠ 3 ∨ x0_at < g13) ∧ (v22 = 0 ∨ WkM x0_work)) from ⟨h_x0_lines, h_x0_line, h_x0_changes, h_x0_coins, h_x0_goods, h_x0_good, h_x0_works, (h_x0_work.1), (by grind), h_g15, (by grind)⟩)
                · refine Sf.bind (sX7_toldN hn h_x0_shelf h_x0_rowSize h_x0_tapeSize h_x0_lines h_x0_line h_x0_changes h_x0_coins h_x0_goods h_x0_good h_x0_works h_x0_work h_x0_years h_x0_at h_x0_from h_x0_far h_x0_way h_x0_steps h_x0_queue (by first | assumption | rfl | decide | grind) (by first | assumption | rfl | decide | grind) (by first | assumption | rfl | decide | grind)) ?_
                  rintro ⟨v23, ⟨g25, g26, g27, g28, g29, g30⟩⟩ hr133
                  obtain ⟨h_g27, hx_v23⟩ : (0 ≤ g27 ∧ g27 ≤ 250) ∧ ((v23 = 0 ∨ v23 = 1) ∧ (0 ≤ g25 ∧ g25 ≤ x0_tapeSize) ∧ x0_at ≤ g25 ∧ (v23 = 0 ∨ g26 ≠ 3 ∨ x0_at < g25) ∧ (v23 = 0 ∨ (0 ≤ g30 0 ∧ g30 0 ≤ 2)) ∧ (v23 = 0 ∨ x0_token = 1)) := hr133
                  dsimp only [u2, u6]
                  refine Sf.ite (fun hc134 => ?_) (fun hc134 => ?_)
                  · exact Sf.ok (show (0 ≤ x0_lines ∧ x0_lines ≤ 20) ∧ (LnM x0_line) ∧ (AI 0 99 x0_changes) ∧ (AI 0 9 x0_coins) ∧ (0 ≤ x0_goods ∧ x0_goods ≤ 8) ∧ (GdM x0_good) ∧ (0 ≤ x0_works ∧ x0_works ≤ 7) ∧ (WkB x0_work) ∧ (1 ≤ x0_years ∧ x0_years ≤ 30) ∧ (0 ≤ g27 ∧ g27 ≤ 250) ∧ ((0 = 0 ∨ 0 = 1) ∧ (0 ≤ g25 ∧ g25 ≤ x0_tapeSize) ∧ x0_at ≤ g25 ∧ (0 = 0 ∨ g26 ≠ 3 ∨ x0_at < g25) ∧ (0 = 0 ∨ WkM x0_work)) from ⟨h_x0_lines, h_x0_line, h_x0_changes, h_x0_coins, h_x0_goods, h_x0_good, h_x0_works, (h_x0_work.1), h_x0_years, h_g27, (by grind)⟩)
                  · refine Sf.rdl 0 rfl rfl (fun v32 e_v32 => ?_)
                    refine Sf.bind (sX7_numberO hn h_x0_shelf h_x0_rowSize h_x0_tapeSize h_x0_lines h_x0_line h_x0_changes h_x0_coins h_x0_goods h_x0_good h_x0_works h_x0_work h_x0_years (by grind) h_g27 h_x0_far h_x0_way h_x0_steps h_x0_queue (by first | assumption | rfl | decide | grind) (by first | assumption | rfl | decide | grind) (by first | assumption | rfl | decide | grind)) ?_
                    rintro ⟨v33, ⟨g35, g36, g37, g38, g39, g40⟩⟩ hr135
                    obtain ⟨h_g35, h_g38, hx_v33⟩ : (AI 0 9 g35) ∧ (0 ≤ g38 ∧ g38 ≤ 250) ∧ ((v33 = 0 ∨ v33 = 1) ∧ (0 ≤ g36 ∧ g36 ≤ x0_tapeSize) ∧ g25 ≤ g36 ∧ (v33 = 0 ∨ g37 ≠ 3 ∨ g25 < g36)) := hr135
                    dsimp only [u2, u6]
                    refine Sf.ite (fun hc136 => ?_) (fun hc136 => ?_)
                    · exact Sf.ok (show (0 ≤ x0_lines ∧ x0_lines ≤ 20) ∧ (LnM x0_line) ∧ (AI 0 99 x0_changes) ∧ (AI 0 9 g35) ∧ (0 ≤ x0_goods ∧ x0_goods ≤ 8) ∧ (GdM x0_good) ∧ (0 ≤ x0_works ∧ x0_works ≤ 7) ∧ (WkB x0_work) ∧ (1 ≤ x0_years ∧ x0_years ≤ 30) ∧ (0 ≤ g38 ∧ g38 ≤ 250) ∧ ((0 = 0 ∨ 0 = 1) ∧ (0 ≤ g36 ∧ g36 ≤ x0_tapeSize) ∧ x0_at ≤ g36 ∧ (0 = 0 ∨ g37 ≠ 3 ∨ x0_at < g36) ∧ (0 = 0 ∨ WkM x0_work)) from ⟨h_x0_lines, h_x0_line, h_x0_changes, h_g35, h_x0_goods, h_x0_good, h_x0_works, (h_x0_work.1), h_x0_years, h_g38, (by grind)⟩)
                    · exact Sf.ok (show (0 ≤ x0_lines ∧ x0_lines ≤ 20) ∧ (LnM x0_line) ∧ (AI 0 99 x0_changes) ∧ (AI 0 9 g35) ∧ (0 ≤ x0_goods ∧ x0_goods ≤ 8) ∧ (GdM x0_good) ∧ (0 ≤ x0_works ∧ x0_works ≤ 7) ∧ (WkB x0_work) ∧ (1 ≤ x0_years ∧ x0_years ≤ 30) ∧ (0 ≤ g38 ∧ g38 ≤ 250) ∧ ((1 = 0 ∨ 1 = 1) ∧ (0 ≤ g36 ∧ g36 ≤ x0_tapeSize) ∧ x0_at ≤ g36 ∧ (1 = 0 ∨ g37 ≠ 3 ∨ x0_at < g36) ∧ (1 = 0 ∨ WkM x0_work)) from ⟨h_x0_lines, h_x0_line, h_x0_changes, h_g35, h_x0_goods, h_x0_good, h_x0_works, (h_x0_work.1), h_x0_years, h_g38, (by grind)⟩)
              · refine Sf.bind (sX7_toldN hn h_x0_shelf h_x0_rowSize h_x0_tapeSize h_x0_lines h_x0_line h_x0_changes h_x0_coins h_x0_goods h_x0_good h_x0_works h_x0_work h_x0_years h_x0_at h_x0_from h_x0_far h_x0_way h_x0_steps h_x0_queue (by first | assumption | rfl | decide | grind) (by first | assumption | rfl | decide | grind) (by first | assumption | rfl | decide | grind)) ?_
                rintro ⟨v42, ⟨g44, g45, g46, g47, g48, g49⟩⟩ hr137
                obtain ⟨h_g46, hx_v42⟩ : (0 ≤ g46 ∧ g46 ≤ 250) ∧ ((v42 = 0 ∨ v42 = 1) ∧ (0 ≤ g44 ∧ g44 ≤ x0_tapeSize) ∧ x0_at ≤ g44 ∧ (v42 = 0 ∨ g45 ≠ 3 ∨ x0_at < g44) ∧ (v42 = 0 ∨ (0 ≤ g49 0 ∧ g49 0 ≤ 11)) ∧ (v42 = 0 ∨ x0_token = 1)) := hr137
                dsimp only [u2, u6]
                refine Sf.ite (fun hc138 => ?_) (fun hc138 => ?_)
                · exact Sf.ok (show (0 ≤ x0_lines ∧ x0_lines ≤ 20) ∧ (LnM x0_line) ∧ (AI 0 99 x0_changes) ∧ (AI 0 9 x0_coins) ∧ (0 ≤ x0_goods ∧ x0_goods ≤ 8) ∧ (GdM x0_good) ∧ (0 ≤ x0_works ∧ x0_works ≤ 7) ∧ (WkB x0_work) ∧ (1 ≤ x0_years ∧ x0_years ≤ 30) ∧ (0 ≤ g46 ∧ g46 ≤ 250) ∧ ((0 = 0 ∨ 0 = 1) ∧ (0 ≤ g44 ∧ g44 ≤ x0_tapeSize) ∧ x0_at ≤ g44 ∧ (0 = 0 ∨ g45 ≠ 3 ∨ x0_at < g44) ∧ (0 = 0 ∨ WkM x0_work)) from ⟨h_x0_lines, h_x0_line, h_x0_changes, h_x0_coins, h_x0_goods, h_x0_good, h_x0_works, (h_x0_work.1), h_x0_years, h_g46, (by grind)⟩)
                · refine Sf.rdl 0 rfl rfl (fun v51 e_v51 => ?_)
                  refine Sf.bind (sX7_numberC hn h_x0_shelf h_x0_rowSize h_x0_tapeSize h_x0_lines h_x0_line h_x0_changes h_x0_coins h_x0_goods h_x0_good h_x0_works h_x0_work h_x0_years (by grind) h_g46 h_x0_far h_x0_way h_x0_steps h_x0_queue (by first | assumption | rfl | decide | grind) (by first | assumption | rfl | decide | grind) (by first | assumption | rfl | decide | grind)) ?_
                  rintro ⟨v52, ⟨g54, g55, g56, g57, g58, g59⟩⟩ hr139
                  obtain ⟨h_g54, h_g57, hx_v52⟩ : (AI 0 99 g54) ∧ (0 ≤ g57 ∧ g57 ≤ 250) ∧ ((v52 = 0 ∨ v52 = 1) ∧ (0 ≤ g55 ∧ g55 ≤ x0_tapeSize) ∧ g44 ≤ g55 ∧ (v52 = 0 ∨ g56 ≠ 3 ∨ g44 < g55)) := hr139
                  dsimp only [u2, u6]
                  refine Sf.ite (fun hc140 => ?_) (fun hc140 => ?_)
                  · exact Sf.ok (show (0 ≤ x0_lines ∧ x0_lines ≤ 20) ∧ (LnM x0_line) ∧ (AI 0 99 g54) ∧ (AI 0 9 x0_coins) ∧ (0 ≤ x0_goods ∧ x0_goods ≤ 8) ∧ (GdM x0_good) ∧ (0 ≤ x0_works ∧ x0_works ≤ 7) ∧ (WkB x0_work) ∧ (1 ≤ x0_years ∧ x0_years ≤ 30) ∧ (0 ≤ g57 ∧ g57 ≤ 250) ∧ ((0 = 0 ∨ 0 = 1) ∧ (0 ≤ g55 ∧ g55 ≤ x0_tapeSize) ∧ x0_at ≤ g55 ∧ (0 = 0 ∨ g56 ≠ 3 ∨ x0_at < g55) ∧ (0 = 0 ∨ WkM x0_work)) from ⟨h_x0_lines, h_x0_line, h_g54, h_x0_coins, h_x0_goods, h_x0_good, h_x0_works, (h_x0_work.1), h_x0_years, h_g57, (by grind)⟩)
                  · exact Sf.ok (show (0 ≤ x0_lines ∧ x0_lines ≤ 20) ∧ (LnM x0_line) ∧ (AI 0 99 g54) ∧ (AI 0 9 x0_coins) ∧ (0 ≤ x0_goods ∧ x0_goods ≤ 8) ∧ (GdM x0_good) ∧ (0 ≤ x0_works ∧ x0_works ≤ 7) ∧ (WkB x0_work) ∧ (1 ≤ x0_years ∧ x0_years ≤ 30) ∧ (0 ≤ g57 ∧ g57 ≤ 250) ∧ ((1 = 0 ∨ 1 = 1) ∧ (0 ≤ g55 ∧ g55 ≤ x0_tapeSize) ∧ x0_at ≤ g55 ∧ (1 = 0 ∨ g56 ≠ 3 ∨ x0_at < g55) ∧ (1 = 0 ∨ WkM x0_work)) from ⟨h_x0_lines, h_x0_line, h_g54, h_x0_coins, h_x0_goods, h_x0_good, h_x0_works, (h_x0_work.1), h_x0_years, h_g57, (by grind)⟩)
            · refine Sf.ckb 7 rfl (by grind) (fun q61 e_q61 h_q61 => ?_)
              refine Sf.bind (sX7_workTold hn h_x0_shelf h_x0_rowSize h_x0_tapeSize h_x0_lines h_x0_line h_x0_changes h_x0_coins h_x0_goods h_x0_good h_x0_works h_x0_work h_x0_years h_x0_at h_x0_from h_x0_far h_x0_way h_x0_steps h_x0_queue (h_x0_work.1 q61) (by first | assumption | rfl | decide | grind) (by first | assumption | rfl | decide | grind)) ?_
              rintro ⟨v62, ⟨g64, g65, g66, g67, g68, g69⟩, g70⟩ hr141
              obtain ⟨h_g64, h_g67, h_g70, hx_v62⟩ : (0 ≤ g64 ∧ g64 ≤ 7) ∧ (0 ≤ g67 ∧ g67 ≤ 250) ∧ (RI wkB g70) ∧ ((v62 = 0 ∨ v62 = 1) ∧ (0 ≤ g65 ∧ g65 ≤ x0_tapeSize) ∧ x0_at ≤ g65 ∧ (v62 = 0 ∨ g66 ≠ 3 ∨ x0_at < g65) ∧ (v62 = 0 ∨ (x0_token = 1 ∧ WkRm (g70 0) (g70 1) (g70 2)))) := hr141
              dsimp only [u3, u6]
              have hW : v62 = 0 ∨ WkM (va_up x0_work q61 g70) := by
                rcases hx_v62.2.2.2.2 with h | h
                · exact Or.inl h
                · exact Or.inr (WkM.up h_x0_work h_g70 h.2)
              refine Sf.zbb (by grind) (fun v72 e_v72 => ?_)
              exact Sf.ok (show (0 ≤ x0_lines ∧ x0_lines ≤ 20) ∧ (LnM x0_line) ∧ (AI 0 99 x0_changes) ∧ (AI 0 9 x0_coins) ∧ (0 ≤ x0_goods ∧ x0_goods ≤ 8) ∧ (GdM x0_good) ∧ (0 ≤ g64 ∧ g64 ≤ 7) ∧ (WkB (va_up x0_work q61 g70)) ∧ (1 ≤ x0_years ∧ x0_years ≤ 30) ∧ (0 ≤ g67 ∧ g67 ≤ 250) ∧ ((v72 = 0 ∨ v72 = 1) ∧ (0 ≤ g65 ∧ g65 ≤ x0_tapeSize) ∧ x0_at ≤ g65 ∧ (v72 = 0 ∨ g66 ≠ 3 ∨ x0_at < g65) ∧ (v72 = 0 ∨ WkM (va_up x0_work q61 g70))) from ⟨h_x0_lines, h_x0_line, h_x0_changes, h_x0_coins, h_x0_goods, h_x0_good, h_g64, (GI.up (h_x0_work.1) h_g70), h_x0_years, h_g67, (by grind)⟩)
        · refine Sf.ckb 8 rfl (by grind) (fun q73 e_q73 h_q73 => ?_)
          refine Sf.bind (sX7_two (M := 3) (B := gdB) hn h_x0_shelf h_x0_rowSize h_x0_tapeSize h_x0_lines h_x0_line h_x0_changes h_x0_coins h_x0_goods h_x0_good h_x0_works h_x0_work h_x0_years h_x0_at h_x0_from h_x0_far h_x0_way h_x0_steps h_x0_queue (h_x0_good q73) (by first | assumption | rfl | decide | grind) (by first | assumption | rfl | decide | grind) (by first | assumption | rfl | decide | grind) (by first | assumption | rfl | decide | grind)) ?_
          rintro ⟨v74, ⟨g76, g77, g78, g79, g80⟩, g81⟩ hr142
          obtain ⟨h_g78, h_g81, hx_v74⟩ : (0 ≤ g78 ∧ g78 ≤ 250) ∧ (RI gdB g81) ∧ ((v74 = 0 ∨ v74 = 1) ∧ (0 ≤ g76 ∧ g76 ≤ x0_tapeSize) ∧ x0_at ≤ g76 ∧ (v74 = 0 ∨ g77 ≠ 3 ∨ x0_at < g76)) := hr142
          dsimp only [u3, u5]
          refine Sf.ite (fun hc143 => ?_) (fun hc143 => ?_)
          · exact Sf.ok (show (0 ≤ x0_lines ∧ x0_lines ≤ 20) ∧ (LnM x0_line) ∧ (AI 0 99 x0_changes) ∧ (AI 0 9 x0_coins) ∧ (0 ≤ x0_goods ∧ x0_goods ≤ 8) ∧ (GdM (va_up x0_good q73 g81)) ∧ (0 ≤ x0_works ∧ x0_works ≤ 7) ∧ (WkB x0_work) ∧ (1 ≤ x0_years ∧ x0_years ≤ 30) ∧ (0 ≤ g78 ∧ g78 ≤ 250) ∧ ((0 = 0 ∨ 0 = 1) ∧ (0 ≤ g76 ∧ g76 ≤ x0_tapeSize) ∧ x0_at ≤ g76 ∧ (0 = 0 ∨ g77 ≠ 3 ∨ x0_at < g76) ∧ (0 = 0 ∨ WkM x0_work)) from ⟨h_x0_lines, h_x0_line, h_x0_changes, h_x0_coins, h_x0_goods, (GI.up h_x0_good h_g81), h_x0_works, (h_x0_work.1), h_x0_years, h_g78, (by grind)⟩)
          · refine Sf.ckb 8 rfl (by grind) (fun q83 e_q83 h_q83 => ?_)
            refine Sf.bind (sX7_number (M := 3) (B := gdB) hn h_x0_shelf h_x0_rowSize h_x0_tapeSize h_x0_lines h_x0_line h_x0_changes h_x0_coins h_x0_goods (GI.up h_x0_good h_g81) h_x0_works h_x0_work h_x0_years (by grind) h_g78 h_x0_far h_x0_way h_x0_steps h_x0_queue ((GI.up h_x0_good h_g81) q83) (by first | assumption | rfl | decide | grind) (by first | assumption | rfl | decide | grind) (by first | assumption | rfl | decide | grind) (by first | assumption | rfl | decide | grind)) ?_
            rintro ⟨v84, ⟨g86, g87, g88, g89, g90⟩, g91⟩ hr144
            obtain ⟨h_g88, h_g91, hx_v84⟩ : (0 ≤ g88 ∧ g88 ≤ 250) ∧ (RI gdB g91) ∧ ((v84 = 0 ∨ v84 = 1) ∧ (0 ≤ g86 ∧ g86 ≤ x0_tapeSize) ∧ g76 ≤ g86 ∧ (v84 = 0 ∨ g87 ≠ 3 ∨ g76 < g86) ∧ (v84 = 0 ∨ g91 = va_up ((va_up x0_good q73 g81) q83) (2 : Int32).toNatClampNeg g79.toInt32) ∧ (v84 = 1 ∨ g77 ≠ 2 ∨ g79 < (1 : Int32).toInt64 ∨ (99 : Int32).toInt64 < g79)) := hr144
            dsimp only [u3, u5]
            refine Sf.ite (fun hc145 => ?_) (fun hc145 => ?_)
            · exact Sf.ok (show (0 ≤ x0_lines ∧ x0_lines ≤ 20) ∧ (LnM x0_line) ∧ (AI 0 99 x0_changes) ∧ (AI 0 9 x0_coins) ∧ (0 ≤ x0_goods ∧ x0_goods ≤ 8) ∧ (GdM (va_up (va_up x0_good q73 g81) q83 g91)) ∧ (0 ≤ x0_works ∧ x0_works ≤ 7) ∧ (WkB x0_work) ∧ (1 ≤ x0_years ∧ x0_years ≤ 30) ∧ (0 ≤ g88 ∧ g88 ≤ 250) ∧ ((0 = 0 ∨ 0 = 1) ∧ (0 ≤ g86 ∧ g86 ≤ x0_tapeSize) ∧ x0_at ≤ g86 ∧ (0 = 0 ∨ g87 ≠ 3 ∨ x0_at < g86) ∧ (0 = 0 ∨ WkM x0_work)) from ⟨h_x0_lines, h_x0_line, h_x0_changes, h_x0_coins, h_x0_goods, (GI.up (GI.up h_x0_good h_g81) h_g91), h_x0_works, (h_x0_work.1), h_x0_years, h_g88, (by grind)⟩)
            · exact Sf.ok (show (0 ≤ x0_lines ∧ x0_lines ≤ 20) ∧ (LnM x0_line) ∧ (AI 0 99 x0_changes) ∧ (AI 0 9 x0_coins) ∧ (0 ≤ (x0_goods + 1) ∧ (x0_goods + 1) ≤ 8) ∧ (GdM (va_up (va_up x0_good q73 g81) q83 g91)) ∧ (0 ≤ x0_works ∧ x0_works ≤ 7) ∧ (WkB x0_work) ∧ (1 ≤ x0_years ∧ x0_years ≤ 30) ∧ (0 ≤ g88 ∧ g88 ≤ 250) ∧ ((1 = 0 ∨ 1 = 1) ∧ (0 ≤ g86 ∧ g86 ≤ x0_tapeSize) ∧ x0_at ≤ g86 ∧ (1 = 0 ∨ g87 ≠ 3 ∨ x0_at < g86) ∧ (1 = 0 ∨ WkM x0_work)) from ⟨h_x0_lines, h_x0_line, h_x0_changes, h_x0_coins, (by grind), (GI.up (GI.up h_x0_good h_g81) h_g91), h_x0_works, (h_x0_work.1), h_x0_years, h_g88, (by grind)⟩)
    · refine Sf.ckb 20 rfl (by grind) (fun q93 e_q93 h_q93 => ?_)
      refine Sf.bind (sX7_newLine h_x0_shelf h_x0_rowSize h_x0_tapeSize h_x0_lines h_x0_line h_x0_changes h_x0_coins h_x0_goods h_x0_good h_x0_works h_x0_work h_x0_years h_x0_from h_x0_far h_x0_way h_x0_steps h_x0_queue (by decide) (by decide) (by grind)) ?_
      intro g94 hr146
      have h_g94 : (LnM g94) := hr146
      refine Sf.bind (sX7_two (M := 7) (B := lnB) hn h_x0_shelf h_x0_rowSize h_x0_tapeSize h_x0_lines h_g94 h_x0_changes h_x0_coins h_x0_goods h_x0_good h_x0_works h_x0_work h_x0_years h_x0_at h_x0_from h_x0_far h_x0_way h_x0_steps h_x0_queue (h_g94 q93) (by first | assumption | rfl | decide | grind) (by first | assumption | rfl | decide | grind) (by first | assumption | rfl | decide | grind) (by first | assumption | rfl | decide | grind)) ?_
      rintro ⟨v96, ⟨g98, g99, g100, g101, g102⟩, g103⟩ hr147
      obtain ⟨h_g100, h_g103, hx_v96⟩ : (0 ≤ g100 ∧ g100 ≤ 250) ∧ (RI lnB g103) ∧ ((v96 = 0 ∨ v96 = 1) ∧ (0 ≤ g98 ∧ g98 ≤ x0_tapeSize) ∧ x0_at ≤ g98 ∧ (v96 = 0 ∨ g99 ≠ 3 ∨ x0_at < g98)) := hr147
      dsimp only [u3, u5]
      refine Sf.ite (fun hc148 => ?_) (fun hc148 => ?_)
      · exact Sf.ok (show (0 ≤ x0_lines ∧ x0_lines ≤ 20) ∧ (LnM (va_up g94 q93 g103)) ∧ (AI 0 99 x0_changes) ∧ (AI 0 9 x0_coins) ∧ (0 ≤ x0_goods ∧ x0_goods ≤ 8) ∧ (GdM x0_good) ∧ (0 ≤ x0_works ∧ x0_works ≤ 7) ∧ (WkB x0_work) ∧ (1 ≤ x0_years ∧ x0_years ≤ 30) ∧ (0 ≤ g100 ∧ g100 ≤ 250) ∧ ((0 = 0 ∨ 0 = 1) ∧ (0 ≤ g98 ∧ g98 ≤ x0_tapeSize) ∧ x0_at ≤ g98 ∧ (0 = 0 ∨ g99 ≠ 3 ∨ x0_at < g98) ∧ (0 = 0 ∨ WkM x0_work)) from ⟨h_x0_lines, (GI.up h_g94 h_g103), h_x0_changes, h_x0_coins, h_x0_goods, h_x0_good, h_x0_works, (h_x0_work.1), h_x0_years, h_g100, (by grind)⟩)
      · refine Sf.bind (sX7_told (M := 7) (B := lnB) hn h_x0_shelf h_x0_rowSize h_x0_tapeSize h_x0_lines (GI.up h_g94 h_g103) h_x0_changes h_x0_coins h_x0_goods h_x0_good h_x0_works h_x0_work h_x0_years (by grind) h_g100 h_x0_far h_x0_way h_x0_steps h_x0_queue ((GI.up h_g94 h_g103) q93) (by first | assumption | rfl | decide | grind) (by first | assumption | rfl | decide | grind) (by first | assumption | rfl | decide | grind) (by first | assumption | rfl | decide | grind) (by first | assumption | rfl | decide | grind)) ?_
        rintro ⟨v105, ⟨g107, g108, g109, g110, g111⟩, g112⟩ hr149
        obtain ⟨h_g109, h_g112, hx_v105⟩ : (0 ≤ g109 ∧ g109 ≤ 250) ∧ (RI lnB g112) ∧ ((v105 = 0 ∨ v105 = 1) ∧ (0 ≤ g107 ∧ g107 ≤ x0_tapeSize) ∧ g98 ≤ g107 ∧ (v105 = 0 ∨ g108 ≠ 3 ∨ g98 < g107) ∧ (v105 = 0 ∨ g99 = 1)) := hr149
        dsimp only [u3, u5]
        refine Sf.ite (fun hc150 => ?_) (fun hc150 => ?_)
        · exact Sf.ok (show (0 ≤ x0_lines ∧ x0_lines ≤ 20) ∧ (LnM (va_up (va_up g94 q93 g103) q93 g112)) ∧ (AI 0 99 x0_changes) ∧ (AI 0 9 x0_coins) ∧ (0 ≤ x0_goods ∧ x0_goods ≤ 8) ∧ (GdM x0_good) ∧ (0 ≤ x0_works ∧ x0_works ≤ 7) ∧ (WkB x0_work) ∧ (1 ≤ x0_years ∧ x0_years ≤ 30) ∧ (0 ≤ g109 ∧ g109 ≤ 250) ∧ ((0 = 0 ∨ 0 = 1) ∧ (0 ≤ g107 ∧ g107 ≤ x0_tapeSize) ∧ x0_at ≤ g107 ∧ (0 = 0 ∨ g108 ≠ 3 ∨ x0_at < g107) ∧ (0 = 0 ∨ WkM x0_work)) from ⟨h_x0_lines, (GI.up (GI.up h_g94 h_g103) h_g112), h_x0_changes, h_x0_coins, h_x0_goods, h_x0_good, h_x0_works, (h_x0_work.1), h_x0_years, h_g109, (by grind)⟩)
        · refine Sf.bind (sX7_told (M := 7) (B := lnB) hn h_x0_shelf h_x0_rowSize h_x0_tapeSize h_x0_lines (GI.up (GI.up h_g94 h_g103) h_g112) h_x0_changes h_x0_coins h_x0_goods h_x0_good h_x0_works h_x0_work h_x0_years (by grind) h_g109 h_x0_far h_x0_way h_x0_steps h_x0_queue ((GI.up (GI.up h_g94 h_g103) h_g112) q93) (by first | assumption | rfl | decide | grind) (by first | assumption | rfl | decide | grind) (by first | assumption | rfl | decide | grind) (by first | assumption | rfl | decide | grind) (by first | assumption | rfl | decide | grind)) ?_
          rintro ⟨v114, ⟨g116, g117, g118, g119, g120⟩, g121⟩ hr151
          obtain ⟨h_g118, h_g121, hx_v114⟩ : (0 ≤ g118 ∧ g118 ≤ 250) ∧ (RI lnB g121) ∧ ((v114 = 0 ∨ v114 = 1) ∧ (0 ≤ g116 ∧ g116 ≤ x0_tapeSize) ∧ g107 ≤ g116 ∧ (v114 = 0 ∨ g117 ≠ 3 ∨ g107 < g116) ∧ (v114 = 0 ∨ g108 = 1)) := hr151
          dsimp only [u3, u5]
          refine Sf.ite (fun hc152 => ?_) (fun hc152 => ?_)
          · exact Sf.ok (show (0 ≤ x0_lines ∧ x0_lines ≤ 20) ∧ (LnM (va_up (va_up (va_up g94 q93 g103) q93 g112) q93 g121)) ∧ (AI 0 99 x0_changes) ∧ (AI 0 9 x0_coins) ∧ (0 ≤ x0_goods ∧ x0_goods ≤ 8) ∧ (GdM x0_good) ∧ (0 ≤ x0_works ∧ x0_works ≤ 7) ∧ (WkB x0_work) ∧ (1 ≤ x0_years ∧ x0_years ≤ 30) ∧ (0 ≤ g118 ∧ g118 ≤ 250) ∧ ((0 = 0 ∨ 0 = 1) ∧ (0 ≤ g116 ∧ g116 ≤ x0_tapeSize) ∧ x0_at ≤ g116 ∧ (0 = 0 ∨ g117 ≠ 3 ∨ x0_at < g116) ∧ (0 = 0 ∨ WkM x0_work)) from ⟨h_x0_lines, (GI.up (GI.up (GI.up h_g94 h_g103) h_g112) h_g121), h_x0_changes, h_x0_coins, h_x0_goods, h_x0_good, h_x0_works, (h_x0_work.1), h_x0_years, h_g118, (by grind)⟩)
          · refine Sf.bind (sX7_perhaps (M := 7) (B := lnB) hn h_x0_shelf h_x0_rowSize h_x0_tapeSize h_x0_lines (GI.up (GI.up (GI.up h_g94 h_g103) h_g112) h_g121) h_x0_changes h_x0_coins h_x0_goods h_x0_good h_x0_works h_x0_work h_x0_years (by grind) h_g118 h_x0_far h_x0_way h_x0_steps h_x0_queue ((GI.up (GI.up (GI.up h_g94 h_g103) h_g112) h_g121) q93) (by first | assumption | rfl | decide | grind) (by first | assumption | rfl | decide | grind) (by first | assumption | rfl | decide | grind) (by first | assumption | rfl | decide | grind) (by first | assumption | rfl | decide | grind)) ?_
            rintro ⟨v123, ⟨g125, g126, g127, g128, g129⟩, g130⟩ hr153
            obtain ⟨h_g127, h_g130, hx_v123⟩ : (0 ≤ g127 ∧ g127 ≤ 250) ∧ (RI lnB g130) ∧ ((v123 = 0 ∨ v123 = 1) ∧ (0 ≤ g125 ∧ g125 ≤ x0_tapeSize) ∧ g116 ≤ g125 ∧ (v123 = 0 ∨ (g125 = g116 ∧ g126 = g117) ∨ g126 ≠ 3 ∨ g116 < g125)) := hr153
            dsimp only [u3, u5]
            refine Sf.ite (fun hc154 => ?_) (fun hc154 => ?_)
            · exact Sf.ok (show (0 ≤ x0_lines ∧ x0_lines ≤ 20) ∧ (LnM (va_up (va_up (va_up (va_up g94 q93 g103) q93 g112) q93 g121) q93 g130)) ∧ (AI 0 99 x0_changes) ∧ (AI 0 9 x0_coins) ∧ (0 ≤ x0_goods ∧ x0_goods ≤ 8) ∧ (GdM x0_good) ∧ (0 ≤ x0_works ∧ x0_works ≤ 7) ∧ (WkB x0_work) ∧ (1 ≤ x0_years ∧ x0_years ≤ 30) ∧ (0 ≤ g127 ∧ g127 ≤ 250) ∧ ((0 = 0 ∨ 0 = 1) ∧ (0 ≤ g125 ∧ g125 ≤ x0_tapeSize) ∧ x0_at ≤ g125 ∧ (0 = 0 ∨ g126 ≠ 3 ∨ x0_at < g125) ∧ (0 = 0 ∨ WkM x0_work)) from ⟨h_x0_lines, (GI.up (GI.up (GI.up (GI.up h_g94 h_g103) h_g112) h_g121) h_g130), h_x0_changes, h_x0_coins, h_x0_goods, h_x0_good, h_x0_works, (h_x0_work.1), h_x0_years, h_g127, (by grind)⟩)
            · refine Sf.bind (sX7_perhaps (M := 7) (B := lnB) hn h_x0_shelf h_x0_rowSize h_x0_tapeSize h_x0_lines (GI.up (GI.up (GI.up (GI.up h_g94 h_g103) h_g112) h_g121) h_g130) h_x0_changes h_x0_coins h_x0_goods h_x0_good h_x0_works h_x0_work h_x0_years (by grind) h_g127 h_x0_far h_x0_way h_x0_steps h_x0_queue ((GI.up (GI.up (GI.up (GI.up h_g94 h_g103) h_g112) h_g121) h_g130) q93) (by first | assumption | rfl | decide | grind) (by first | assumption | rfl | decide | grind) (by first | assumption | rfl | decide | grind) (by first | assumption | rfl | decide | grind) (by first | assumption | rfl | decide | grind)) ?_
              rintro ⟨v132, ⟨g134, g135, g136, g137, g138⟩, g139⟩ hr155
              obtain ⟨h_g136, h_g139, hx_v132⟩ : (0 ≤ g136 ∧ g136 ≤ 250) ∧ (RI lnB g139) ∧ ((v132 = 0 ∨ v132 = 1) ∧ (0 ≤ g134 ∧ g134 ≤ x0_tapeSize) ∧ g125 ≤ g134 ∧ (v132 = 0 ∨ (g134 = g125 ∧ g135 = g126) ∨ g135 ≠ 3 ∨ g125 < g134)) := hr155
              dsimp only [u3, u5]
              refine Sf.ite (fun hc156 => ?_) (fun hc156 => ?_)
              · exact Sf.ok (show (0 ≤ x0_lines ∧ x0_lines ≤ 20) ∧ (LnM (va_up (va_up (va_up (va_up (va_up g94 q93 g103) q93 g112) q93 g121) q93 g130) q93 g139)) ∧ (AI 0 99 x0_changes) ∧ (AI 0 9 x0_coins) ∧ (0 ≤ x0_goods ∧ x0_goods ≤ 8) ∧ (GdM x0_good) ∧ (0 ≤ x0_works ∧ x0_works ≤ 7) ∧ (WkB x0_work) ∧ (1 ≤ x0_years ∧ x0_years ≤ 30) ∧ (0 ≤ g136 ∧ g136 ≤ 250) ∧ ((0 = 0 ∨ 0 = 1) ∧ (0 ≤ g134 ∧ g134 ≤ x0_tapeSize) ∧ x0_at ≤ g134 ∧ (0 = 0 ∨ g135 ≠ 3 ∨ x0_at < g134) ∧ (0 = 0 ∨ WkM x0_work)) from ⟨h_x0_lines, (GI.up (GI.up (GI.up (GI.up (GI.up h_g94 h_g103) h_g112) h_g121) h_g130) h_g139), h_x0_changes, h_x0_coins, h_x0_goods, h_x0_good, h_x0_works, (h_x0_work.1), h_x0_years, h_g136, (by grind)⟩)
              · exact Sf.ok (show (0 ≤ (x0_lines + 1) ∧ (x0_lines + 1) ≤ 20) ∧ (LnM (va_up (va_up (va_up (va_up (va_up g94 q93 g103) q93 g112) q93 g121) q93 g130) q93 g139)) ∧ (AI 0 99 x0_changes) ∧ (AI 0 9 x0_coins) ∧ (0 ≤ x0_goods ∧ x0_goods ≤ 8) ∧ (GdM x0_good) ∧ (0 ≤ x0_works ∧ x0_works ≤ 7) ∧ (WkB x0_work) ∧ (1 ≤ x0_years ∧ x0_years ≤ 30) ∧ (0 ≤ g136 ∧ g136 ≤ 250) ∧ ((1 = 0 ∨ 1 = 1) ∧ (0 ≤ g134 ∧ g134 ≤ x0_tapeSize) ∧ x0_at ≤ g134 ∧ (1 = 0 ∨ g135 ≠ 3 ∨ x0_at < g134) ∧ (1 = 0 ∨ WkM x0_work)) from ⟨(by grind), (GI.up (GI.up (GI.up (GI.up (GI.up h_g94 h_g103) h_g112) h_g121) h_g130) h_g139), h_x0_changes, h_x0_coins, h_x0_goods, h_x0_good, h_x0_works, (h_x0_work.1), h_x0_years, h_g136, (by grind)⟩)
theorem TX7_read_s23 {n : Nat} {x0_shelf x0_rowSort x0_rowSize : (Nat → Int32)} {x0_rows : (Nat → Nat → Int64)} {x0_moved : (Nat → Int64)} {x0_shown x0_tape : (Nat → Int32)} {x0_tapeSize : Int32} {x0_refused : (Nat → Int32)} {x0_gone x0_spent : Int32} {x0_left x0_far : (Nat → Int32)} {x0_tons : Int32} {x0_way : (Nat → Int32)} {x0_steps : Int32} {x0_met : Int64} {x0_queue x0_totals : (Nat → Int32)} {z25 : Int32} {z26 : (Nat → Nat → Int32)} {z27 z28 : (Nat → Int32)} {z29 : Int32} {z30 : (Nat → Nat → Int32)} {z31 : Int32} {z32 : (Nat → Nat → Int32)} {z33 z34 z35 z36 : Int32} {z37 : Int64} {z38 : Int32} {z39 : (Nat → Int32)} {z40 : Int32} (hn : 1000000000000 ≤ n) (h_x0_shelf : (AI 0 2 x0_shelf)) (h_x0_rowSize : (AI 0 40 x0_rowSize)) (h_x0_tapeSize : (0 ≤ x0_tapeSize ∧ x0_tapeSize ≤ 250)) (h_x0_far : (AI 0 1000000000 x0_far)) (h_x0_way : (AI 0 22 x0_way)) (h_x0_steps : (0 ≤ x0_steps ∧ x0_steps ≤ 37)) (h_x0_queue : (AI 0 35 x0_queue)) (h_z25 : (0 ≤ z25 ∧ z25 ≤ 20)) (h_z26 : (LnM z26)) (h_z27 : (AI 0 99 z27)) (h_z28 : (AI 0 9 z28)) (h_z29 : (0 ≤ z29 ∧ z29 ≤ 8)) (h_z30 : (GdM z30)) (h_z31 : (0 ≤ z31 ∧ z31 ≤ 7)) (h_z32 : (WkM z32)) (h_z33 : (1 ≤ z33 ∧ z33 ≤ 30)) (h_z34 : (0 ≤ z34)) (h_z36 : (0 ≤ z36 ∧ z36 ≤ 250)) (hi_0 : z34 ≤ x0_tapeSize) : Sf (fX7_read_s23 n x0_shelf x0_rowSort x0_rowSize x0_rows x0_moved x0_shown x0_tape x0_tapeSize x0_refused x0_gone x0_spent x0_left x0_far x0_tons x0_way x0_steps x0_met x0_queue x0_totals z25 z26 z27 z28 z29 z30 z31 z32 z33 z34 z35 z36 z37 z38 z39 z40) (LQ (u16 (fun z25 z26 z27 z28 z29 z30 z31 z32 z33 z34 z35 z36 z37 z38 z39 z40 => (0 ≤ z25 ∧ z25 ≤ 20) ∧ (LnM z26) ∧ (AI 0 99 z27) ∧ (AI 0 9 z28) ∧ (0 ≤ z29 ∧ z29 ≤ 8) ∧ (GdM z30) ∧ (0 ≤ z31 ∧ z31 ≤ 7) ∧ (WkM z32) ∧ (1 ≤ z33 ∧ z33 ≤ 30) ∧ (0 ≤ z34) ∧ (0 ≤ z36 ∧ z36 ≤ 250) ∧ (z34 ≤ x0_tapeSize))) (u16 (fun z25 z26 z27 z28 z29 z30 z31 z32 z33 z34 z35 z36 z37 z38 z39 z40 => rdMu x0_tapeSize z34 z35)) (rdMu x0_tapeSize z34 z35) ((Sum.elim (fun a => (0 ≤ a.1 ∧ a.1 ≤ 20) ∧ (LnM a.2.1) ∧ (AI 0 99 a.2.2.1) ∧ (AI 0 9 a.2.2.2.1) ∧ (0 ≤ a.2.2.2.2.1 ∧ a.2.2.2.2.1 ≤ 8) ∧ (GdM a.2.2.2.2.2.1) ∧ (0 ≤ a.2.2.2.2.2.2.1 ∧ a.2.2.2.2.2.2.1 ≤ 7) ∧ (WkM a.2.2.2.2.2.2.2.1) ∧ (1 ≤ a.2.2.2.2.2.2.2.2.1 ∧ a.2.2.2.2.2.2.2.2.1 ≤ 30) ∧ (0 ≤ a.2.2.2.2.2.2.2.2.2.1) ∧ (0 ≤ a.2.2.2.2.2.2.2.2.2.2.2.1 ∧ a.2.2.2.2.2.2.2.2.2.2.2.1 ≤ 250)) (Sum.elim (fun a => (0 ≤ a.1 ∧ a.1 ≤ 20) ∧ (LnM a.2.1) ∧ (AI 0 99 a.2.2.1) ∧ (AI 0 9 a.2.2.2.1) ∧ (0 ≤ a.2.2.2.2.1 ∧ a.2.2.2.2.1 ≤ 8) ∧ (GdM a.2.2.2.2.2.1) ∧ (0 ≤ a.2.2.2.2.2.2.1 ∧ a.2.2.2.2.2.2.1 ≤ 7) ∧ (WkB a.2.2.2.2.2.2.2.1) ∧ (1 ≤ a.2.2.2.2.2.2.2.2.1 ∧ a.2.2.2.2.2.2.2.2.1 ≤ 30) ∧ (0 ≤ a.2.2.2.2.2.2.2.2.2.2.2.1 ∧ a.2.2.2.2.2.2.2.2.2.2.2.1 ≤ 250)) (fun a => (0 ≤ a.1 ∧ a.1 ≤ 20) ∧ (LnM a.2.1) ∧ (AI 0 99 a.2.2.1) ∧ (AI 0 9 a.2.2.2.1) ∧ (0 ≤ a.2.2.2.2.1 ∧ a.2.2.2.2.1 ≤ 8) ∧ (GdM a.2.2.2.2.2.1) ∧ (0 ≤ a.2.2.2.2.2.2.1 ∧ a.2.2.2.2.2.2.1 ≤ 7) ∧ (WkM a.2.2.2.2.2.2.2.1) ∧ (1 ≤ a.2.2.2.2.2.2.2.2.1 ∧ a.2.2.2.2.2.2.2.2.1 ≤ 30) ∧ (0 ≤ a.2.2.2.2.2.2.2.2.2.1) ∧ (0 ≤ a.2.2.2.2.2.2.2.2.2.2.2.1 ∧ a.2.2.2.2.2.2.2.2.2.2.2.1 ≤ 250)))))) := by
  unfold fX7_read_s23
  refine Sf.ite (fun hc1 => ?_) (fun hc1 => ?_)
  · exact Sf.inr (show (0 ≤ z25 ∧ z25 ≤ 20) ∧ (LnM z26) ∧ (AI 0 99 z27) ∧ (AI 0 9 z28) ∧ (0 ≤ z29 ∧ z29 ≤ 8) ∧ (GdM z30) ∧ (0 ≤ z31 ∧ z31 ≤ 7) ∧ (WkM z32) ∧ (1 ≤ z33 ∧ z33 ≤ 30) ∧ (0 ≤ z34) ∧ (0 ≤ z36 ∧ z36 ≤ 250) from ⟨h_z25, h_z26, h_z27, h_z28, h_z29, h_z30, h_z31, h_z32, h_z33, h_z34, h_z36⟩)
  · refine Sf.ite (fun hc2 => ?_) (fun hc2 => ?_)
    · refine Sf.bind (sX7_look hn h_x0_shelf h_x0_rowSize h_x0_tapeSize h_z25 h_z26 h_z27 h_z28 h_z29 h_z30 h_z31 h_z32 h_z33 h_z34 h_z36 h_x0_far h_x0_way h_x0_steps h_x0_queue (by grind)) ?_
      rintro ⟨g94, g95, g96, g97⟩ hr3
      obtain ⟨h_g96, hx_g94⟩ : (0 ≤ g96 ∧ g96 ≤ 250) ∧ ((0 ≤ g94 ∧ g94 ≤ x0_tapeSize) ∧ z34 ≤ g94 ∧ (g95 ≠ 3 ∨ z34 < g94)) := hr3
      dsimp only [u4]
      refine Sf.bind (sX7_statement hn h_x0_shelf h_x0_rowSize h_x0_tapeSize h_z25 h_z26 h_z27 h_z28 h_z29 h_z30 h_z31 h_z32 h_z33 (by grind) h_g96 h_x0_far h_x0_way h_x0_steps h_x0_queue (by first | assumption | rfl | decide | grind)) ?_
      rintro ⟨v99, ⟨g101, g102, g103, g104, g105, g106, g107, g108, g109, g110, g111, g112, g113, g114, g115⟩⟩ hr4
      obtain ⟨h_g101, h_g102, h_g103, h_g104, h_g105, h_g106, h_g107, h_g108, h_g109, h_g112, hx_v99⟩ : (0 ≤ g101 ∧ g101 ≤ 20) ∧ (LnM g102) ∧ (AI 0 99 g103) ∧ (AI 0 9 g104) ∧ (0 ≤ g105 ∧ g105 ≤ 8) ∧ (GdM g106) ∧ (0 ≤ g107 ∧ g107 ≤ 7) ∧ (WkB g108) ∧ (1 ≤ g109 ∧ g109 ≤ 30) ∧ (0 ≤ g112 ∧ g112 ≤ 250) ∧ ((v99 = 0 ∨ v99 = 1) ∧ (0 ≤ g110 ∧ g110 ≤ x0_tapeSize) ∧ g94 ≤ g110 ∧ (v99 = 0 ∨ g111 ≠ 3 ∨ g94 < g110) ∧ (v99 = 0 ∨ WkM g108)) := hr4
      dsimp only [u15, u2]
      refine Sf.ite (fun hc5 => ?_) (fun hc5 => ?_)
      · exact Sf.inr (show (0 ≤ g101 ∧ g101 ≤ 20) ∧ (LnM g102) ∧ (AI 0 99 g103) ∧ (AI 0 9 g104) ∧ (0 ≤ g105 ∧ g105 ≤ 8) ∧ (GdM g106) ∧ (0 ≤ g107 ∧ g107 ≤ 7) ∧ (WkB g108) ∧ (1 ≤ g109 ∧ g109 ≤ 30) ∧ (0 ≤ g112 ∧ g112 ≤ 250) from ⟨h_g101, h_g102, h_g103, h_g104, h_g105, h_g106, h_g107, h_g108, h_g109, h_g112⟩)
      · exact Sf.inl (show (0 ≤ g101 ∧ g101 ≤ 20) ∧ (LnM g102) ∧ (AI 0 99 g103) ∧ (AI 0 9 g104) ∧ (0 ≤ g105 ∧ g105 ≤ 8) ∧ (GdM g106) ∧ (0 ≤ g107 ∧ g107 ≤ 7) ∧ (WkM g108) ∧ (1 ≤ g109 ∧ g109 ≤ 30) ∧ (0 ≤ g110) ∧ (0 ≤ g112 ∧ g112 ≤ 250) ∧ (g110 ≤ x0_tapeSize) from ⟨h_g101, h_g102, h_g103, h_g104, h_g105, h_g106, h_g107, (by grind), h_g109, (by grind), h_g112, (by grind)⟩) (rdMu_lt (by assumption) (by grind) (by grind) (by grind))
    · exact Sf.inr (show (0 ≤ z25 ∧ z25 ≤ 20) ∧ (LnM z26) ∧ (AI 0 99 z27) ∧ (AI 0 9 z28) ∧ (0 ≤ z29 ∧ z29 ≤ 8) ∧ (GdM z30) ∧ (0 ≤ z31 ∧ z31 ≤ 7) ∧ (WkM z32) ∧ (1 ≤ z33 ∧ z33 ≤ 30) ∧ (0 ≤ z34) ∧ (0 ≤ z36 ∧ z36 ≤ 250) from ⟨h_z25, h_z26, h_z27, h_z28, h_z29, h_z30, h_z31, h_z32, h_z33, h_z34, h_z36⟩)
theorem LX7_read_s23 {n : Nat} {x0_shelf x0_rowSort x0_rowSize : (Nat → Int32)} {x0_rows : (Nat → Nat → Int64)} {x0_moved : (Nat → Int64)} {x0_shown x0_tape : (Nat → Int32)} {x0_tapeSize : Int32} {x0_refused : (Nat → Int32)} {x0_gone x0_spent : Int32} {x0_left x0_far : (Nat → Int32)} {x0_tons : Int32} {x0_way : (Nat → Int32)} {x0_steps : Int32} {x0_met : Int64} {x0_queue x0_totals : (Nat → Int32)} {z25 : Int32} {z26 : (Nat → Nat → Int32)} {z27 z28 : (Nat → Int32)} {z29 : Int32} {z30 : (Nat → Nat → Int32)} {z31 : Int32} {z32 : (Nat → Nat → Int32)} {z33 z34 z35 z36 : Int32} {z37 : Int64} {z38 : Int32} {z39 : (Nat → Int32)} {z40 : Int32} (hn : 1000000000000 ≤ n) (h_x0_shelf : (AI 0 2 x0_shelf)) (h_x0_rowSize : (AI 0 40 x0_rowSize)) (h_x0_tapeSize : (0 ≤ x0_tapeSize ∧ x0_tapeSize ≤ 250)) (h_x0_far : (AI 0 1000000000 x0_far)) (h_x0_way : (AI 0 22 x0_way)) (h_x0_steps : (0 ≤ x0_steps ∧ x0_steps ≤ 37)) (h_x0_queue : (AI 0 35 x0_queue)) (h_z25 : (0 ≤ z25 ∧ z25 ≤ 20)) (h_z26 : (LnM z26)) (h_z27 : (AI 0 99 z27)) (h_z28 : (AI 0 9 z28)) (h_z29 : (0 ≤ z29 ∧ z29 ≤ 8)) (h_z30 : (GdM z30)) (h_z31 : (0 ≤ z31 ∧ z31 ≤ 7)) (h_z32 : (WkM z32)) (h_z33 : (1 ≤ z33 ∧ z33 ≤ 30)) (h_z34 : (0 ≤ z34)) (h_z36 : (0 ≤ z36 ∧ z36 ≤ 250)) (hi_0 : z34 ≤ x0_tapeSize) : Sf (lp (u16 (fX7_read_s23 n x0_shelf x0_rowSort x0_rowSize x0_rows x0_moved x0_shown x0_tape x0_tapeSize x0_refused x0_gone x0_spent x0_left x0_far x0_tons x0_way x0_steps x0_met x0_queue x0_totals)) n (z25, z26, z27, z28, z29, z30, z31, z32, z33, z34, z35, z36, z37, z38, z39, z40)) ((Sum.elim (fun a => (0 ≤ a.1 ∧ a.1 ≤ 20) ∧ (LnM a.2.1) ∧ (AI 0 99 a.2.2.1) ∧ (AI 0 9 a.2.2.2.1) ∧ (0 ≤ a.2.2.2.2.1 ∧ a.2.2.2.2.1 ≤ 8) ∧ (GdM a.2.2.2.2.2.1) ∧ (0 ≤ a.2.2.2.2.2.2.1 ∧ a.2.2.2.2.2.2.1 ≤ 7) ∧ (WkM a.2.2.2.2.2.2.2.1) ∧ (1 ≤ a.2.2.2.2.2.2.2.2.1 ∧ a.2.2.2.2.2.2.2.2.1 ≤ 30) ∧ (0 ≤ a.2.2.2.2.2.2.2.2.2.1) ∧ (0 ≤ a.2.2.2.2.2.2.2.2.2.2.2.1 ∧ a.2.2.2.2.2.2.2.2.2.2.2.1 ≤ 250)) (Sum.elim (fun a => (0 ≤ a.1 ∧ a.1 ≤ 20) ∧ (LnM a.2.1) ∧ (AI 0 99 a.2.2.1) ∧ (AI 0 9 a.2.2.2.1) ∧ (0 ≤ a.2.2.2.2.1 ∧ a.2.2.2.2.1 ≤ 8) ∧ (GdM a.2.2.2.2.2.1) ∧ (0 ≤ a.2.2.2.2.2.2.1 ∧ a.2.2.2.2.2.2.1 ≤ 7) ∧ (WkB a.2.2.2.2.2.2.2.1) ∧ (1 ≤ a.2.2.2.2.2.2.2.2.1 ∧ a.2.2.2.2.2.2.2.2.1 ≤ 30) ∧ (0 ≤ a.2.2.2.2.2.2.2.2.2.2.2.1 ∧ a.2.2.2.2.2.2.2.2.2.2.2.1 ≤ 250)) (fun a => (0 ≤ a.1 ∧ a.1 ≤ 20) ∧ (LnM a.2.1) ∧ (AI 0 99 a.2.2.1) ∧ (AI 0 9 a.2.2.2.1) ∧ (0 ≤ a.2.2.2.2.1 ∧ a.2.2.2.2.1 ≤ 8) ∧ (GdM a.2.2.2.2.2.1) ∧ (0 ≤ a.2.2.2.2.2.2.1 ∧ a.2.2.2.2.2.2.1 ≤ 7) ∧ (WkM a.2.2.2.2.2.2.2.1) ∧ (1 ≤ a.2.2.2.2.2.2.2.2.1 ∧ a.2.2.2.2.2.2.2.2.1 ≤ 30) ∧ (0 ≤ a.2.2.2.2.2.2.2.2.2.1) ∧ (0 ≤ a.2.2.2.2.2.2.2.2.2.2.2.1 ∧ a.2.2.2.2.2.2.2.2.2.2.2.1 ≤ 250))))) :=
  Sf.loop16 (fun z25 z26 z27 z28 z29 z30 z31 z32 z33 z34 z35 z36 z37 z38 z39 z40 => (0 ≤ z25 ∧ z25 ≤ 20) ∧ (LnM z26) ∧ (AI 0 99 z27) ∧ (AI 0 9 z28) ∧ (0 ≤ z29 ∧ z29 ≤ 8) ∧ (GdM z30) ∧ (0 ≤ z31 ∧ z31 ≤ 7) ∧ (WkM z32) ∧ (1 ≤ z33 ∧ z33 ≤ 30) ∧ (0 ≤ z34) ∧ (0 ≤ z36 ∧ z36 ≤ 250) ∧ (z34 ≤ x0_tapeSize)) (fun z25 z26 z27 z28 z29 z30 z31 z32 z33 z34 z35 z36 z37 z38 z39 z40 => rdMu x0_tapeSize z34 z35) (fun z25 z26 z27 z28 z29 z30 z31 z32 z33 z34 z35 z36 z37 z38 z39 z40 h => TX7_read_s23 hn h_x0_shelf h_x0_rowSize h_x0_tapeSize h_x0_far h_x0_way h_x0_steps h_x0_queue h.1 h.2.1 h.2.2.1 h.2.2.2.1 h.2.2.2.2.1 h.2.2.2.2.2.1 h.2.2.2.2.2.2.1 h.2.2.2.2.2.2.2.1 h.2.2.2.2.2.2.2.2.1 h.2.2.2.2.2.2.2.2.2.1 h.2.2.2.2.2.2.2.2.2.2.1 h.2.2.2.2.2.2.2.2.2.2.2) (show (0 ≤ z25 ∧ z25 ≤ 20) ∧ (LnM z26) ∧ (AI 0 99 z27) ∧ (AI 0 9 z28) ∧ (0 ≤ z29 ∧ z29 ≤ 8) ∧ (GdM z30) ∧ (0 ≤ z31 ∧ z31 ≤ 7) ∧ (WkM z32) ∧ (1 ≤ z33 ∧ z33 ≤ 30) ∧ (0 ≤ z34) ∧ (0 ≤ z36 ∧ z36 ≤ 250) ∧ (z34 ≤ x0_tapeSize) from ⟨h_z25, h_z26, h_z27, h_z28, h_z29, h_z30, h_z31, h_z32, h_z33, h_z34, h_z36, hi_0⟩) (rdMu_n hn)
set_option maxHeartbeats 1000000 in
theorem sX7_read {n : Nat} {x0_shelf x0_rowSort x0_rowSize : (Nat → Int32)} {x0_rows : (Nat → Nat → Int64)} {x0_moved : (Nat → Int64)} {x0_shown x0_tape : (Nat → Int32)} {x0_tapeSize : Int32} {x0_refused : (Nat → Int32)} {x0_lines : Int32} {x0_line : (Nat → Nat → Int32)} {x0_changes x0_coins : (Nat → Int32)} {x0_goods : Int32} {x0_good : (Nat → Nat → Int32)} {x0_works : Int32} {x0_work : (Nat → Nat → Int32)} {x0_years x0_gone x0_spent x0_at x0_token x0_from : Int32} {x0_figures : Int64} {x0_fault : Int32} {x0_numbers : (Nat → Int32)} {x0_statements : Int32} {x0_left x0_far : (Nat → Int32)} {x0_tons : Int32} {x0_way : (Nat → Int32)} {x0_steps : Int32} {x0_met : Int64} {x0_queue x0_totals : (Nat → Int32)} (hn : 1000000000000 ≤ n) (h_x0_shelf : (AI 0 2 x0_shelf)) (h_x0_rowSize : (AI 0 40 x0_rowSize)) (h_x0_tapeSize : (0 ≤ x0_tapeSize ∧ x0_tapeSize ≤ 250)) (h_x0_lines : (0 ≤ x0_lines ∧ x0_lines ≤ 20)) (h_x0_line : (LnM x0_line)) (h_x0_changes : (AI 0 99 x0_changes)) (h_x0_coins : (AI 0 9 x0_coins)) (h_x0_goods : (0 ≤ x0_goods ∧ x0_goods ≤ 8)) (h_x0_good : (GdM x0_good)) (h_x0_works : (0 ≤ x0_works ∧ x0_works ≤ 7)) (h_x0_work : (WkM x0_work)) (h_x0_years : (1 ≤ x0_years ∧ x0_years ≤ 30)) (h_x0_from : (0 ≤ x0_from ∧ x0_from ≤ 250)) (h_x0_far : (AI 0 1000000000 x0_far)) (h_x0_way : (AI 0 22 x0_way)) (h_x0_steps : (0 ≤ x0_steps ∧ x0_steps ≤ 37)) (h_x0_queue : (AI 0 35 x0_queue)) : Sf (fX7_read n (x0_shelf, x0_rowSort, x0_rowSize, x0_rows, x0_moved, x0_shown, x0_tape, x0_tapeSize, x0_refused, x0_lines, x0_line, x0_changes, x0_coins, x0_goods, x0_good, x0_works, x0_work, x0_years, x0_gone, x0_spent, x0_at, x0_token, x0_from, x0_figures, x0_fault, x0_numbers, x0_statements, x0_left, x0_far, x0_tons, x0_way, x0_steps, x0_met, x0_queue, x0_totals)) (fun r => (0 ≤ r.2.1 ∧ r.2.1 ≤ 20) ∧ (LnM r.2.2.1) ∧ (AI 0 99 r.2.2.2.1) ∧ (AI 0 9 r.2.2.2.2.1) ∧ (0 ≤ r.2.2.2.2.2.1 ∧ r.2.2.2.2.2.1 ≤ 8) ∧ (GdM r.2.2.2.2.2.2.1) ∧ (0 ≤ r.2.2.2.2.2.2.2.1 ∧ r.2.2.2.2.2.2.2.1 ≤ 7) ∧ (WkB r.2.2.2.2.2.2.2.2.1) ∧ (1 ≤ r.2.2.2.2.2.2.2.2.2.1 ∧ r.2.2.2.2.2.2.2.2.2.1 ≤ 30) ∧ (0 ≤ r.2.2.2.2.2.2.2.2.2.2.2.2.1 ∧ r.2.2.2.2.2.2.2.2.2.2.2.2.1 ≤ 250) ∧ ((r.1 = 0 ∨ r.1 = 1) ∧ (r.1 = 0 ∨ WkM r.2.2.2.2.2.2.2.2.1))) := by
  unfold fX7_read
  dsimp only [u35]
  refine Sf.bind (sX7_look hn h_x0_shelf h_x0_rowSize h_x0_tapeSize h_x0_lines h_x0_line h_x0_changes h_x0_coins h_x0_goods h_x0_good h_x0_works h_x0_work h_x0_years (by decide) h_x0_from h_x0_far h_x0_way h_x0_steps h_x0_queue (by grind)) ?_
  rintro ⟨g1, g2, g3, g4⟩ hr1
  obtain ⟨h_g3, hx_g1⟩ : (0 ≤ g3 ∧ g3 ≤ 250) ∧ ((0 ≤ g1 ∧ g1 ≤ x0_tapeSize) ∧ 0 ≤ g1 ∧ (g2 ≠ 3 ∨ 0 < g1)) := hr1
  dsimp only [u4]
  refine Sf.bind (sX7_statement hn h_x0_shelf h_x0_rowSize h_x0_tapeSize h_x0_lines h_x0_line h_x0_changes h_x0_coins h_x0_goods h_x0_good h_x0_works h_x0_work h_x0_years (by grind) h_g3 h_x0_far h_x0_way h_x0_steps h_x0_queue (by first | assumption | rfl | decide | grind)) ?_
  rintro ⟨v6, ⟨g8, g9, g10, g11, g12, g13, g14, g15, g16, g17, g18, g19, g20, g21, g22⟩⟩ hr2
  obtain ⟨h_g8, h_g9, h_g10, h_g11, h_g12, h_g13, h_g14, h_g15, h_g16, h_g19, hx_v6⟩ : (0 ≤ g8 ∧ g8 ≤ 20) ∧ (LnM g9) ∧ (AI 0 99 g10) ∧ (AI 0 9 g11) ∧ (0 ≤ g12 ∧ g12 ≤ 8) ∧ (GdM g13) ∧ (0 ≤ g14 ∧ g14 ≤ 7) ∧ (WkB g15) ∧ (1 ≤ g16 ∧ g16 ≤ 30) ∧ (0 ≤ g19 ∧ g19 ≤ 250) ∧ ((v6 = 0 ∨ v6 = 1) ∧ (0 ≤ g17 ∧ g17 ≤ x0_tapeSize) ∧ g1 ≤ g17 ∧ (v6 = 0 ∨ g18 ≠ 3 ∨ g1 < g17) ∧ (v6 = 0 ∨ WkM g15)) := hr2
  dsimp only [u15, u2]
  refine Sf.ite (fun hc3 => ?_) (fun hc3 => ?_)
  · exact Sf.ok (show (0 ≤ g8 ∧ g8 ≤ 20) ∧ (LnM g9) ∧ (AI 0 99 g10) ∧ (AI 0 9 g11) ∧ (0 ≤ g12 ∧ g12 ≤ 8) ∧ (GdM g13) ∧ (0 ≤ g14 ∧ g14 ≤ 7) ∧ (WkB g15) ∧ (1 ≤ g16 ∧ g16 ≤ 30) ∧ (0 ≤ g19 ∧ g19 ≤ 250) ∧ ((0 = 0 ∨ 0 = 1) ∧ (0 = 0 ∨ WkM g15)) from ⟨h_g8, h_g9, h_g10, h_g11, h_g12, h_g13, h_g14, h_g15, h_g16, h_g19, (by grind)⟩)
  · refine Sf.bindS (LX7_read_s23 hn h_x0_shelf h_x0_rowSize h_x0_tapeSize h_x0_far h_x0_way h_x0_steps h_x0_queue h_g8 h_g9 h_g10 h_g11 h_g12 h_g13 h_g14 (by grind) h_g16 (by grind) h_g19 (by grind)) ?_ ?_
    · rintro ⟨w42, w43, w44, w45, w46, w47, w48, w49, w50, w51, w52, w53, w54, w55, w56, w57⟩ hr4
      obtain ⟨h_w42, h_w43, h_w44, h_w45, h_w46, h_w47, h_w48, h_w49, h_w50, h_w51, h_w53⟩ : (0 ≤ w42 ∧ w42 ≤ 20) ∧ (LnM w43) ∧ (AI 0 99 w44) ∧ (AI 0 9 w45) ∧ (0 ≤ w46 ∧ w46 ≤ 8) ∧ (GdM w47) ∧ (0 ≤ w48 ∧ w48 ≤ 7) ∧ (WkM w49) ∧ (1 ≤ w50 ∧ w50 ≤ 30) ∧ (0 ≤ w51) ∧ (0 ≤ w53 ∧ w53 ≤ 250) := hr4
      dsimp only [u16]
      refine Sf.bind (sX7_wrong h_x0_shelf h_x0_rowSize h_x0_tapeSize h_w42 h_w43 h_w44 h_w45 h_w46 h_w47 h_w48 h_w49 h_w50 h_w53 h_x0_far h_x0_way h_x0_steps h_x0_queue) ?_
      rintro ⟨v58, g59⟩ hr5
      have h_v58 : (0 ≤ v58 ∧ v58 ≤ 0) := hr5
      dsimp only [u2]
      refine Sf.zbb (by grind) (fun v61 e_v61 => ?_)
      exact Sf.ok (show (0 ≤ w42 ∧ w42 ≤ 20) ∧ (LnM w43) ∧ (AI 0 99 w44) ∧ (AI 0 9 w45) ∧ (0 ≤ w46 ∧ w46 ≤ 8) ∧ (GdM w47) ∧ (0 ≤ w48 ∧ w48 ≤ 7) ∧ (WkB w49) ∧ (1 ≤ w50 ∧ w50 ≤ 30) ∧ (0 ≤ w53 ∧ w53 ≤ 250) ∧ ((v61 = 0 ∨ v61 = 1) ∧ (v61 = 0 ∨ WkM w49)) from ⟨h_w42, h_w43, h_w44, h_w45, h_w46, h_w47, h_w48, (h_w49.1), h_w50, h_w53, (by grind)⟩)
    · refine Sf.elimS ?_ ?_
      · rintro ⟨w62, w63, w64, w65, w66, w67, w68, w69, w70, w71, w72, w73, w74, w75, w76, w77⟩ hr6
        obtain ⟨h_w62, h_w63, h_w64, h_w65, h_w66, h_w67, h_w68, h_w69, h_w70, h_w73⟩ : (0 ≤ w62 ∧ w62 ≤ 20) ∧ (LnM w63) ∧ (AI 0 99 w64) ∧ (AI 0 9 w65) ∧ (0 ≤ w66 ∧ w66 ≤ 8) ∧ (GdM w67) ∧ (0 ≤ w68 ∧ w68 ≤ 7) ∧ (WkB w69) ∧ (1 ≤ w70 ∧ w70 ≤ 30) ∧ (0 ≤ w73 ∧ w73 ≤ 250) := hr6
        dsimp only [u16]
        exact Sf.ok (show (0 ≤ w62 ∧ w62 ≤ 20) ∧ (LnM w63) ∧ (AI 0 99 w64) ∧ (AI 0 9 w65) ∧ (0 ≤ w66 ∧ w66 ≤ 8) ∧ (GdM w67) ∧ (0 ≤ w68 ∧ w68 ≤ 7) ∧ (WkB w69) ∧ (1 ≤ w70 ∧ w70 ≤ 30) ∧ (0 ≤ w73 ∧ w73 ≤ 250) ∧ ((0 = 0 ∨ 0 = 1) ∧ (0 = 0 ∨ WkM w69)) from ⟨h_w62, h_w63, h_w64, h_w65, h_w66, h_w67, h_w68, h_w69, h_w70, h_w73, (by grind)⟩)
      · rintro ⟨w78, w79, w80, w81, w82, w83, w84, w85, w86, w87, w88, w89, w90, w91, w92, w93⟩ hr7
        obtain ⟨h_w78, h_w79, h_w80, h_w81, h_w82, h_w83, h_w84, h_w85, h_w86, h_w87, h_w89⟩ : (0 ≤ w78 ∧ w78 ≤ 20) ∧ (LnM w79) ∧ (AI 0 99 w80) ∧ (AI 0 9 w81) ∧ (0 ≤ w82 ∧ w82 ≤ 8) ∧ (GdM w83) ∧ (0 ≤ w84 ∧ w84 ≤ 7) ∧ (WkM w85) ∧ (1 ≤ w86 ∧ w86 ≤ 30) ∧ (0 ≤ w87) ∧ (0 ≤ w89 ∧ w89 ≤ 250) := hr7
        dsimp only [u16]
        exact Sf.ok (show (0 ≤ w78 ∧ w78 ≤ 20) ∧ (LnM w79) ∧ (AI 0 99 w80) ∧ (AI 0 9 w81) ∧ (0 ≤ w82 ∧ w82 ≤ 8) ∧ (GdM w83) ∧ (0 ≤ w84 ∧ w84 ≤ 7) ∧ (WkB w85) ∧ (1 ≤ w86 ∧ w86 ≤ 30) ∧ (0 ≤ w89 ∧ w89 ≤ 250) ∧ ((1 = 0 ∨ 1 = 1) ∧ (1 = 0 ∨ WkM w85)) from ⟨h_w78, h_w79, h_w80, h_w81, h_w82, h_w83, h_w84, (h_w85.1), h_w86, h_w89, (by grind)⟩)
theorem sX7_takeFrom {n : Nat} {x0_shelf x0_rowSort x0_rowSize : (Nat → Int32)} {x0_rows : (Nat → Nat → Int64)} {x0_moved : (Nat → Int64)} {x0_shown x0_tape : (Nat → Int32)} {x0_tapeSize : Int32} {x0_refused : (Nat → Int32)} {x0_lines : Int32} {x0_line : (Nat → Nat → Int32)} {x0_changes x0_coins : (Nat → Int32)} {x0_goods : Int32} {x0_good : (Nat → Nat → Int32)} {x0_works : Int32} {x0_work : (Nat → Nat → Int32)} {x0_years x0_gone x0_spent x0_at x0_token x0_from : Int32} {x0_figures : Int64} {x0_fault : Int32} {x0_numbers : (Nat → Int32)} {x0_statements : Int32} {x0_left x0_far : (Nat → Int32)} {x0_tons : Int32} {x0_way : (Nat → Int32)} {x0_steps : Int32} {x0_met : Int64} {x0_queue x0_totals x1_shelf x1_rowSort x1_rowSize : (Nat → Int32)} {x1_rows : (Nat → Nat → Int64)} {x1_moved : (Nat → Int64)} {x1_shown x1_tape : (Nat → Int32)} {x1_tapeSize : Int32} {x1_refused : (Nat → Int32)} {x1_lines : Int32} {x1_line : (Nat → Nat → Int32)} {x1_changes x1_coins : (Nat → Int32)} {x1_goods : Int32} {x1_good : (Nat → Nat → Int32)} {x1_works : Int32} {x1_work : (Nat → Nat → Int32)} {x1_years x1_gone x1_spent x1_at x1_token x1_from : Int32} {x1_figures : Int64} {x1_fault : Int32} {x1_numbers : (Nat → Int32)} {x1_statements : Int32} {x1_left x1_far : (Nat → Int32)} {x1_tons : Int32} {x1_way : (Nat → Int32)} {x1_steps : Int32} {x1_met : Int64} {x1_queue x1_totals : (Nat → Int32)} (hn : 1000000000000 ≤ n) (h_x0_line : (LnM x0_line)) (h_x0_changes : (AI 0 99 x0_changes)) (h_x0_coins : (AI 0 9 x0_coins)) (h_x0_good : (GdM x0_good)) (h_x0_work : (WkB x0_work)) (h_x1_lines : (0 ≤ x1_lines ∧ x1_lines ≤ 20)) (h_x1_line : (LnM x1_line)) (h_x1_changes : (AI 0 99 x1_changes)) (h_x1_coins : (AI 0 9 x1_coins)) (h_x1_goods : (0 ≤ x1_goods ∧ x1_goods ≤ 8)) (h_x1_good : (GdM x1_good)) (h_x1_works : (0 ≤ x1_works ∧ x1_works ≤ 7)) (h_x1_work : (WkM x1_work)) (h_x1_years : (1 ≤ x1_years ∧ x1_years ≤ 30)) : Sf (fX7_takeFrom n (x0_shelf, x0_rowSort, x0_rowSize, x0_rows, x0_moved, x0_shown, x0_tape, x0_tapeSize, x0_refused, x0_lines, x0_line, x0_changes, x0_coins, x0_goods, x0_good, x0_works, x0_work, x0_years, x0_gone, x0_spent, x0_at, x0_token, x0_from, x0_figures, x0_fault, x0_numbers, x0_statements, x0_left, x0_far, x0_tons, x0_way, x0_steps, x0_met, x0_queue, x0_totals) (x1_shelf, x1_rowSort, x1_rowSize, x1_rows, x1_moved, x1_shown, x1_tape, x1_tapeSize, x1_refused, x1_lines, x1_line, x1_changes, x1_coins, x1_goods, x1_good, x1_works, x1_work, x1_years, x1_gone, x1_spent, x1_at, x1_token, x1_from, x1_figures, x1_fault, x1_numbers, x1_statements, x1_left, x1_far, x1_tons, x1_way, x1_steps, x1_met, x1_queue, x1_totals)) (fun r => (0 ≤ r.1 ∧ r.1 ≤ 20) ∧ (LnM r.2.1) ∧ (AI 0 99 r.2.2.1) ∧ (AI 0 9 r.2.2.2.1) ∧ (0 ≤ r.2.2.2.2.1 ∧ r.2.2.2.2.1 ≤ 8) ∧ (GdM r.2.2.2.2.2.1) ∧ (0 ≤ r.2.2.2.2.2.2.1 ∧ r.2.2.2.2.2.2.1 ≤ 7) ∧ (WkM r.2.2.2.2.2.2.2.1) ∧ (1 ≤ r.2.2.2.2.2.2.2.2.1 ∧ r.2.2.2.2.2.2.2.2.1 ≤ 30)) := by
  unfold fX7_takeFrom
  dsimp only [u35]
  refine Sf.bind (s_overAll hn (by decide) (by decide)) (fun g1 e1 => ?_)
  refine Sf.bind (s_over hn (by decide)) (fun g3 e3 => ?_)
  refine Sf.bind (s_over hn (by decide)) (fun g5 e5 => ?_)
  refine Sf.bind (s_overAll hn (by decide) (by decide)) (fun g7 e7 => ?_)
  refine Sf.bind (s_overAll hn (by decide) (by decide)) (fun g9 e9 => ?_)
  exact Sf.ok ⟨h_x1_lines, GI.over e1 h_x1_line h_x0_line, AI.over e3 h_x1_changes h_x0_changes, AI.over e5 h_x1_coins h_x0_coins, h_x1_goods, GI.over e7 h_x1_good h_x0_good, h_x1_works, WkM.over e9 h_x1_work h_x0_work, h_x1_years⟩
set_option maxHeartbeats 1000000 in
theorem sX7_fresh {n : Nat} {x0_shelf x0_rowSort x0_rowSize : (Nat → Int32)} {x0_rows : (Nat → Nat → Int64)} {x0_moved : (Nat → Int64)} {x0_shown x0_tape : (Nat → Int32)} {x0_tapeSize : Int32} {x0_refused : (Nat → Int32)} {x0_lines : Int32} {x0_line : (Nat → Nat → Int32)} {x0_changes x0_coins : (Nat → Int32)} {x0_goods : Int32} {x0_good : (Nat → Nat → Int32)} {x0_works : Int32} {x0_work : (Nat → Nat → Int32)} {x0_years x0_gone x0_spent x0_at x0_token x0_from : Int32} {x0_figures : Int64} {x0_fault : Int32} {x0_numbers : (Nat → Int32)} {x0_statements : Int32} {x0_left x0_far : (Nat → Int32)} {x0_tons : Int32} {x0_way : (Nat → Int32)} {x0_steps : Int32} {x0_met : Int64} {x0_queue x0_totals x1_shelf x1_rowSort x1_rowSize : (Nat → Int32)} {x1_rows : (Nat → Nat → Int64)} {x1_moved : (Nat → Int64)} {x1_shown x1_tape : (Nat → Int32)} {x1_tapeSize : Int32} {x1_refused : (Nat → Int32)} {x1_lines : Int32} {x1_line : (Nat → Nat → Int32)} {x1_changes x1_coins : (Nat → Int32)} {x1_goods : Int32} {x1_good : (Nat → Nat → Int32)} {x1_works : Int32} {x1_work : (Nat → Nat → Int32)} {x1_years x1_gone x1_spent x1_at x1_token x1_from : Int32} {x1_figures : Int64} {x1_fault : Int32} {x1_numbers : (Nat → Int32)} {x1_statements : Int32} {x1_left x1_far : (Nat → Int32)} {x1_tons : Int32} {x1_way : (Nat → Int32)} {x1_steps : Int32} {x1_met : Int64} {x1_queue x1_totals : (Nat → Int32)} (hn : 1000000000000 ≤ n) (h_x0_shelf : (AI 0 2 x0_shelf)) (h_x0_rowSize : (AI 0 40 x0_rowSize)) (h_x0_tapeSize : (0 ≤ x0_tapeSize ∧ x0_tapeSize ≤ 250)) (h_x0_lines : (0 ≤ x0_lines ∧ x0_lines ≤ 20)) (h_x0_line : (LnM x0_line)) (h_x0_changes : (AI 0 99 x0_changes)) (h_x0_coins : (AI 0 9 x0_coins)) (h_x0_goods : (0 ≤ x0_goods ∧ x0_goods ≤ 8)) (h_x0_good : (GdM x0_good)) (h_x0_works : (0 ≤ x0_works ∧ x0_works ≤ 7)) (h_x0_work : (WkM x0_work)) (h_x0_years : (1 ≤ x0_years ∧ x0_years ≤ 30)) (h_x0_from : (0 ≤ x0_from ∧ x0_from ≤ 250)) (h_x0_far : (AI 0 1000000000 x0_far)) (h_x0_way : (AI 0 22 x0_way)) (h_x0_steps : (0 ≤ x0_steps ∧ x0_steps ≤ 37)) (h_x0_queue : (AI 0 35 x0_queue)) (h_x1_shelf : (AI 0 2 x1_shelf)) (h_x1_rowSize : (AI 0 40 x1_rowSize)) (h_x1_tapeSize : (0 ≤ x1_tapeSize ∧ x1_tapeSize ≤ 250)) (h_x1_lines : (0 ≤ x1_lines ∧ x1_lines ≤ 20)) (h_x1_line : (LnM x1_line)) (h_x1_changes : (AI 0 99 x1_changes)) (h_x1_coins : (AI 0 9 x1_coins)) (h_x1_goods : (0 ≤ x1_goods ∧ x1_goods ≤ 8)) (h_x1_good : (GdM x1_good)) (h_x1_works : (0 ≤ x1_works ∧ x1_works ≤ 7)) (h_x1_work : (WkM x1_work)) (h_x1_years : (1 ≤ x1_years ∧ x1_years ≤ 30)) (h_x1_from : (0 ≤ x1_from ∧ x1_from ≤ 250)) (h_x1_far : (AI 0 1000000000 x1_far)) (h_x1_way : (AI 0 22 x1_way)) (h_x1_steps : (0 ≤ x1_steps ∧ x1_steps ≤ 37)) (h_x1_queue : (AI 0 35 x1_queue)) : Sf (fX7_fresh n (x0_shelf, x0_rowSort, x0_rowSize, x0_rows, x0_moved, x0_shown, x0_tape, x0_tapeSize, x0_refused, x0_lines, x0_line, x0_changes, x0_coins, x0_goods, x0_good, x0_works, x0_work, x0_years, x0_gone, x0_spent, x0_at, x0_token, x0_from, x0_figures, x0_fault, x0_numbers, x0_statements, x0_left, x0_far, x0_tons, x0_way, x0_steps, x0_met, x0_queue, x0_totals) (x1_shelf, x1_rowSort, x1_rowSize, x1_rows, x1_moved, x1_shown, x1_tape, x1_tapeSize, x1_refused, x1_lines, x1_line, x1_changes, x1_coins, x1_goods, x1_good, x1_works, x1_work, x1_years, x1_gone, x1_spent, x1_at, x1_token, x1_from, x1_figures, x1_fault, x1_numbers, x1_statements, x1_left, x1_far, x1_tons, x1_way, x1_steps, x1_met, x1_queue, x1_totals)) (fun r => (0 ≤ r.1 ∧ r.1 ≤ 20) ∧ (LnM r.2.1) ∧ (AI 0 99 r.2.2.1) ∧ (AI 0 9 r.2.2.2.1) ∧ (0 ≤ r.2.2.2.2.1 ∧ r.2.2.2.2.1 ≤ 8) ∧ (GdM r.2.2.2.2.2.1) ∧ (0 ≤ r.2.2.2.2.2.2.1 ∧ r.2.2.2.2.2.2.1 ≤ 7) ∧ (WkM r.2.2.2.2.2.2.2.1) ∧ (1 ≤ r.2.2.2.2.2.2.2.2.1 ∧ r.2.2.2.2.2.2.2.2.1 ≤ 30)) := by
  unfold fX7_fresh
  dsimp only [u35]
  unfold fX7_fresh_j18
  refine Sf.bind (sX7_takeFrom hn h_x1_line h_x1_changes h_x1_coins h_x1_good (h_x1_work.1) h_x0_lines h_x0_line h_x0_changes h_x0_coins h_x0_goods h_x0_good h_x0_works h_x0_work h_x0_years) ?_
  rintro ⟨g2, g3, g4, g5, g6, g7, g8, g9, g10, g11, g12⟩ hr1
  obtain ⟨h_g2, h_g3, h_g4, h_g5, h_g6, h_g7, h_g8, h_g9, h_g10⟩ : (0 ≤ g2 ∧ g2 ≤ 20) ∧ (LnM g3) ∧ (AI 0 99 g4) ∧ (AI 0 9 g5) ∧ (0 ≤ g6 ∧ g6 ≤ 8) ∧ (GdM g7) ∧ (0 ≤ g8 ∧ g8 ≤ 7) ∧ (WkM g9) ∧ (1 ≤ g10 ∧ g10 ≤ 30) := hr1
  dsimp only [u11]
  exact Sf.ok (show (0 ≤ g2 ∧ g2 ≤ 20) ∧ (LnM g3) ∧ (AI 0 99 g4) ∧ (AI 0 9 g5) ∧ (0 ≤ g6 ∧ g6 ≤ 8) ∧ (GdM g7) ∧ (0 ≤ g8 ∧ g8 ≤ 7) ∧ (WkM g9) ∧ (1 ≤ g10 ∧ g10 ≤ 30) from ⟨h_g2, h_g3, h_g4, h_g5, h_g6, h_g7, h_g8, h_g9, h_g10⟩)
set_option maxHeartbeats 1000000 in
theorem sX7_land {n : Nat} {x0_shelf x0_rowSort x0_rowSize : (Nat → Int32)} {x0_rows : (Nat → Nat → Int64)} {x0_moved : (Nat → Int64)} {x0_shown x0_tape : (Nat → Int32)} {x0_tapeSize : Int32} {x0_refused : (Nat → Int32)} {x0_lines : Int32} {x0_line : (Nat → Nat → Int32)} {x0_changes x0_coins : (Nat → Int32)} {x0_goods : Int32} {x0_good : (Nat → Nat → Int32)} {x0_works : Int32} {x0_work : (Nat → Nat → Int32)} {x0_years x0_gone x0_spent x0_at x0_token x0_from : Int32} {x0_figures : Int64} {x0_fault : Int32} {x0_numbers : (Nat → Int32)} {x0_statements : Int32} {x0_left x0_far : (Nat → Int32)} {x0_tons : Int32} {x0_way : (Nat → Int32)} {x0_steps : Int32} {x0_met : Int64} {x0_queue x0_totals x1_shelf x1_rowSort x1_rowSize : (Nat → Int32)} {x1_rows : (Nat → Nat → Int64)} {x1_moved : (Nat → Int64)} {x1_shown x1_tape : (Nat → Int32)} {x1_tapeSize : Int32} {x1_refused : (Nat → Int32)} {x1_lines : Int32} {x1_line : (Nat → Nat → Int32)} {x1_changes x1_coins : (Nat → Int32)} {x1_goods : Int32} {x1_good : (Nat → Nat → Int32)} {x1_works : Int32} {x1_work : (Nat → Nat → Int32)} {x1_years x1_gone x1_spent x1_at x1_token x1_from : Int32} {x1_figures : Int64} {x1_fault : Int32} {x1_numbers : (Nat → Int32)} {x1_statements : Int32} {x1_left x1_far : (Nat → Int32)} {x1_tons : Int32} {x1_way : (Nat → Int32)} {x1_steps : Int32} {x1_met : Int64} {x1_queue x1_totals : (Nat → Int32)} (hn : 1000000000000 ≤ n) (h_x0_shelf : (AI 0 2 x0_shelf)) (h_x0_rowSize : (AI 0 40 x0_rowSize)) (h_x0_tapeSize : (0 ≤ x0_tapeSize ∧ x0_tapeSize ≤ 250)) (h_x0_lines : (0 ≤ x0_lines ∧ x0_lines ≤ 20)) (h_x0_line : (LnM x0_line)) (h_x0_changes : (AI 0 99 x0_changes)) (h_x0_coins : (AI 0 9 x0_coins)) (h_x0_goods : (0 ≤ x0_goods ∧ x0_goods ≤ 8)) (h_x0_good : (GdM x0_good)) (h_x0_works : (0 ≤ x0_works ∧ x0_works ≤ 7)) (h_x0_work : (WkM x0_work)) (h_x0_years : (1 ≤ x0_years ∧ x0_years ≤ 30)) (h_x0_from : (0 ≤ x0_from ∧ x0_from ≤ 250)) (h_x0_far : (AI 0 1000000000 x0_far)) (h_x0_way : (AI 0 22 x0_way)) (h_x0_steps : (0 ≤ x0_steps ∧ x0_steps ≤ 37)) (h_x0_queue : (AI 0 35 x0_queue)) (h_x1_shelf : (AI 0 2 x1_shelf)) (h_x1_rowSize : (AI 0 40 x1_rowSize)) (h_x1_tapeSize : (0 ≤ x1_tapeSize ∧ x1_tapeSize ≤ 250)) (h_x1_lines : (0 ≤ x1_lines ∧ x1_lines ≤ 20)) (h_x1_line : (LnM x1_line)) (h_x1_changes : (AI 0 99 x1_changes)) (h_x1_coins : (AI 0 9 x1_coins)) (h_x1_goods : (0 ≤ x1_goods ∧ x1_goods ≤ 8)) (h_x1_good : (GdM x1_good)) (h_x1_works : (0 ≤ x1_works ∧ x1_works ≤ 7)) (h_x1_work : (WkM x1_work)) (h_x1_years : (1 ≤ x1_years ∧ x1_years ≤ 30)) (h_x1_from : (0 ≤ x1_from ∧ x1_from ≤ 250)) (h_x1_far : (AI 0 1000000000 x1_far)) (h_x1_way : (AI 0 22 x1_way)) (h_x1_steps : (0 ≤ x1_steps ∧ x1_steps ≤ 37)) (h_x1_queue : (AI 0 35 x1_queue)) : Sf (fX7_land n (x0_shelf, x0_rowSort, x0_rowSize, x0_rows, x0_moved, x0_shown, x0_tape, x0_tapeSize, x0_refused, x0_lines, x0_line, x0_changes, x0_coins, x0_goods, x0_good, x0_works, x0_work, x0_years, x0_gone, x0_spent, x0_at, x0_token, x0_from, x0_figures, x0_fault, x0_numbers, x0_statements, x0_left, x0_far, x0_tons, x0_way, x0_steps, x0_met, x0_queue, x0_totals) (x1_shelf, x1_rowSort, x1_rowSize, x1_rows, x1_moved, x1_shown, x1_tape, x1_tapeSize, x1_refused, x1_lines, x1_line, x1_changes, x1_coins, x1_goods, x1_good, x1_works, x1_work, x1_years, x1_gone, x1_spent, x1_at, x1_token, x1_from, x1_figures, x1_fault, x1_numbers, x1_statements, x1_left, x1_far, x1_tons, x1_way, x1_steps, x1_met, x1_queue, x1_totals)) (fun r => (0 ≤ r.2.1.1 ∧ r.2.1.1 ≤ 250) ∧ (0 ≤ r.2.1.2.2.1 ∧ r.2.1.2.2.1 ≤ 20) ∧ (LnM r.2.1.2.2.2.1) ∧ (AI 0 99 r.2.1.2.2.2.2.1) ∧ (AI 0 9 r.2.1.2.2.2.2.2.1) ∧ (0 ≤ r.2.1.2.2.2.2.2.2.1 ∧ r.2.1.2.2.2.2.2.2.1 ≤ 8) ∧ (GdM r.2.1.2.2.2.2.2.2.2.1) ∧ (0 ≤ r.2.1.2.2.2.2.2.2.2.2.1 ∧ r.2.1.2.2.2.2.2.2.2.2.1 ≤ 7) ∧ (WkM r.2.1.2.2.2.2.2.2.2.2.2.1) ∧ (1 ≤ r.2.1.2.2.2.2.2.2.2.2.2.2.1 ∧ r.2.1.2.2.2.2.2.2.2.2.2.2.1 ≤ 30) ∧ (0 ≤ r.2.1.2.2.2.2.2.2.2.2.2.2.2.2.2.2.2.1 ∧ r.2.1.2.2.2.2.2.2.2.2.2.2.2.2.2.2.2.1 ≤ 250) ∧ (0 ≤ r.2.2.1 ∧ r.2.2.1 ≤ 20) ∧ (LnM r.2.2.2.1) ∧ (AI 0 99 r.2.2.2.2.1) ∧ (AI 0 9 r.2.2.2.2.2.1) ∧ (0 ≤ r.2.2.2.2.2.2.1 ∧ r.2.2.2.2.2.2.1 ≤ 8) ∧ (GdM r.2.2.2.2.2.2.2.1) ∧ (0 ≤ r.2.2.2.2.2.2.2.2.1 ∧ r.2.2.2.2.2.2.2.2.1 ≤ 7) ∧ (WkM r.2.2.2.2.2.2.2.2.2.1) ∧ (1 ≤ r.2.2.2.2.2.2.2.2.2.2.1 ∧ r.2.2.2.2.2.2.2.2.2.2.1 ≤ 30)) := by
  unfold fX7_land
  dsimp only [u35]
  refine Sf.bind (sX7_fresh hn h_x0_shelf h_x0_rowSize h_x0_tapeSize h_x0_lines h_x0_line h_x0_changes h_x0_coins h_x0_goods h_x0_good h_x0_works h_x0_work h_x0_years h_x0_from h_x0_far h_x0_way h_x0_steps h_x0_queue h_x1_shelf h_x1_rowSize h_x1_tapeSize h_x1_lines h_x1_line h_x1_changes h_x1_coins h_x1_goods h_x1_good h_x1_works h_x1_work h_x1_years h_x1_from h_x1_far h_x1_way h_x1_steps h_x1_queue) ?_
  rintro ⟨g2, g3, g4, g5, g6, g7, g8, g9, g10, g11, g12⟩ hr1
  obtain ⟨h_g2, h_g3, h_g4, h_g5, h_g6, h_g7, h_g8, h_g9, h_g10⟩ : (0 ≤ g2 ∧ g2 ≤ 20) ∧ (LnM g3) ∧ (AI 0 99 g4) ∧ (AI 0 9 g5) ∧ (0 ≤ g6 ∧ g6 ≤ 8) ∧ (GdM g7) ∧ (0 ≤ g8 ∧ g8 ≤ 7) ∧ (WkM g9) ∧ (1 ≤ g10 ∧ g10 ≤ 30) := hr1
  dsimp only [u11]
  refine Sf.bind (sX7_read hn h_x0_shelf h_x0_rowSize h_x0_tapeSize h_x0_lines h_x0_line h_x0_changes h_x0_coins h_x0_goods h_x0_good h_x0_works h_x0_work h_x0_years h_x0_from h_x0_far h_x0_way h_x0_steps h_x0_queue) ?_
  rintro ⟨v14, ⟨g16, g17, g18, g19, g20, g21, g22, g23, g24, g25, g26, g27, g28, g29, g30, g31⟩⟩ hr2
  obtain ⟨h_g16, h_g17, h_g18, h_g19, h_g20, h_g21, h_g22, h_g23, h_g24, h_g27, hx_v14⟩ : (0 ≤ g16 ∧ g16 ≤ 20) ∧ (LnM g17) ∧ (AI 0 99 g18) ∧ (AI 0 9 g19) ∧ (0 ≤ g20 ∧ g20 ≤ 8) ∧ (GdM g21) ∧ (0 ≤ g22 ∧ g22 ≤ 7) ∧ (WkB g23) ∧ (1 ≤ g24 ∧ g24 ≤ 30) ∧ (0 ≤ g27 ∧ g27 ≤ 250) ∧ ((v14 = 0 ∨ v14 = 1) ∧ (v14 = 0 ∨ WkM g23)) := hr2
  dsimp only [u16, u2]
  refine Sf.ite (fun hc3 => ?_) (fun hc3 => ?_)
  · refine Sf.bind (sX7_takeFrom hn h_g17 h_g18 h_g19 h_g21 h_g23 h_g2 h_g3 h_g4 h_g5 h_g6 h_g7 h_g8 h_g9 h_g10) ?_
    rintro ⟨g34, g35, g36, g37, g38, g39, g40, g41, g42, g43, g44⟩ hr4
    obtain ⟨h_g34, h_g35, h_g36, h_g37, h_g38, h_g39, h_g40, h_g41, h_g42⟩ : (0 ≤ g34 ∧ g34 ≤ 20) ∧ (LnM g35) ∧ (AI 0 99 g36) ∧ (AI 0 9 g37) ∧ (0 ≤ g38 ∧ g38 ≤ 8) ∧ (GdM g39) ∧ (0 ≤ g40 ∧ g40 ≤ 7) ∧ (WkM g41) ∧ (1 ≤ g42 ∧ g42 ≤ 30) := hr4
    dsimp only [u11]
    refine Sf.bind (sX7_refuse h_x0_shelf h_x0_rowSize (by decide) h_g34 h_g35 h_g36 h_g37 h_g38 h_g39 h_g40 h_g41 h_g42 h_g27 h_x0_far h_x0_way h_x0_steps h_x0_queue (by decide)) ?_
    rintro ⟨v46, g47⟩ hr5
    have hx_v46 : (v46 = (-2)) := hr5
    dsimp only [u2]
    exact Sf.ok (show (0 ≤ 0 ∧ 0 ≤ 250) ∧ (0 ≤ g34 ∧ g34 ≤ 20) ∧ (LnM g35) ∧ (AI 0 99 g36) ∧ (AI 0 9 g37) ∧ (0 ≤ g38 ∧ g38 ≤ 8) ∧ (GdM g39) ∧ (0 ≤ g40 ∧ g40 ≤ 7) ∧ (WkM g41) ∧ (1 ≤ g42 ∧ g42 ≤ 30) ∧ (0 ≤ g27 ∧ g27 ≤ 250) ∧ (0 ≤ g2 ∧ g2 ≤ 20) ∧ (LnM g3) ∧ (AI 0 99 g4) ∧ (AI 0 9 g5) ∧ (0 ≤ g6 ∧ g6 ≤ 8) ∧ (GdM g7) ∧ (0 ≤ g8 ∧ g8 ≤ 7) ∧ (WkM g9) ∧ (1 ≤ g10 ∧ g10 ≤ 30) from ⟨(by decide), h_g34, h_g35, h_g36, h_g37, h_g38, h_g39, h_g40, h_g41, h_g42, h_g27, h_g2, h_g3, h_g4, h_g5, h_g6, h_g7, h_g8, h_g9, h_g10⟩)
  · exact Sf.ok (show (0 ≤ 0 ∧ 0 ≤ 250) ∧ (0 ≤ g16 ∧ g16 ≤ 20) ∧ (LnM g17) ∧ (AI 0 99 g18) ∧ (AI 0 9 g19) ∧ (0 ≤ g20 ∧ g20 ≤ 8) ∧ (GdM g21) ∧ (0 ≤ g22 ∧ g22 ≤ 7) ∧ (WkM g23) ∧ (1 ≤ g24 ∧ g24 ≤ 30) ∧ (0 ≤ g27 ∧ g27 ≤ 250) ∧ (0 ≤ g2 ∧ g2 ≤ 20) ∧ (LnM g3) ∧ (AI 0 99 g4) ∧ (AI 0 9 g5) ∧ (0 ≤ g6 ∧ g6 ≤ 8) ∧ (GdM g7) ∧ (0 ≤ g8 ∧ g8 ≤ 7) ∧ (WkM g9) ∧ (1 ≤ g10 ∧ g10 ≤ 30) from ⟨(by decide), h_g16, h_g17, h_g18, h_g19, h_g20, h_g21, h_g22, (by grind), h_g24, h_g27, h_g2, h_g3, h_g4, h_g5, h_g6, h_g7, h_g8, h_g9, h_g10⟩)
set_option maxHeartbeats 1000000 in
theorem sX7_lineOf {x0_shelf x0_rowSort x0_rowSize : (Nat → Int32)} {x0_rows : (Nat → Nat → Int64)} {x0_moved : (Nat → Int64)} {x0_shown x0_tape : (Nat → Int32)} {x0_tapeSize : Int32} {x0_refused : (Nat → Int32)} {x0_lines : Int32} {x0_line : (Nat → Nat → Int32)} {x0_changes x0_coins : (Nat → Int32)} {x0_goods : Int32} {x0_good : (Nat → Nat → Int32)} {x0_works : Int32} {x0_work : (Nat → Nat → Int32)} {x0_years x0_gone x0_spent x0_at x0_token x0_from : Int32} {x0_figures : Int64} {x0_fault : Int32} {x0_numbers : (Nat → Int32)} {x0_statements : Int32} {x0_left x0_far : (Nat → Int32)} {x0_tons : Int32} {x0_way : (Nat → Int32)} {x0_steps : Int32} {x0_met : Int64} {x0_queue x0_totals : (Nat → Int32)} {p1 p2 : Int32}  (h_x0_shelf : (AI 0 2 x0_shelf)) (h_x0_rowSize : (AI 0 40 x0_rowSize)) (h_x0_tapeSize : (0 ≤ x0_tapeSize ∧ x0_tapeSize ≤ 250)) (h_x0_lines : (0 ≤ x0_lines ∧ x0_lines ≤ 20)) (h_x0_line : (LnM x0_line)) (h_x0_changes : (AI 0 99 x0_changes)) (h_x0_coins : (AI 0 9 x0_coins)) (h_x0_goods : (0 ≤ x0_goods ∧ x0_goods ≤ 8)) (h_x0_good : (GdM x0_good)) (h_x0_works : (0 ≤ x0_works ∧ x0_works ≤ 7)) (h_x0_work : (WkM x0_work)) (h_x0_years : (1 ≤ x0_years ∧ x0_years ≤ 30)) (h_x0_from : (0 ≤ x0_from ∧ x0_from ≤ 250)) (h_x0_far : (AI 0 1000000000 x0_far)) (h_x0_way : (AI 0 22 x0_way)) (h_x0_steps : (0 ≤ x0_steps ∧ x0_steps ≤ 37)) (h_x0_queue : (AI 0 35 x0_queue)) : Sf (fX7_lineOf (x0_shelf, x0_rowSort, x0_rowSize, x0_rows, x0_moved, x0_shown, x0_tape, x0_tapeSize, x0_refused, x0_lines, x0_line, x0_changes, x0_coins, x0_goods, x0_good, x0_works, x0_work, x0_years, x0_gone, x0_spent, x0_at, x0_token, x0_from, x0_figures, x0_fault, x0_numbers, x0_statements, x0_left, x0_far, x0_tons, x0_way, x0_steps, x0_met, x0_queue, x0_totals) p1 p2) (fun r => True) := by
  unfold fX7_lineOf
  dsimp only [u35]
  refine Sf.bind (sX7_isLine h_x0_shelf h_x0_rowSize h_x0_tapeSize h_x0_lines h_x0_line h_x0_changes h_x0_coins h_x0_goods h_x0_good h_x0_works h_x0_work h_x0_years h_x0_from h_x0_far h_x0_way h_x0_steps h_x0_queue) ?_
  intro v1 hr1
  have hx_v1 : ((v1 = 1 ∧ 0 ≤ p1 ∧ p1 < x0_lines) ∨ (v1 = 0 ∧ ¬ (0 ≤ p1 ∧ p1 < x0_lines))) := hr1
  refine Sf.ite (fun hc2 => ?_) (fun hc2 => ?_)
  · refine Sf.bind (sX7_refuse h_x0_shelf h_x0_rowSize h_x0_tapeSize h_x0_lines h_x0_line h_x0_changes h_x0_coins h_x0_goods h_x0_good h_x0_works h_x0_work h_x0_years h_x0_from h_x0_far h_x0_way h_x0_steps h_x0_queue (by decide)) ?_
    rintro ⟨v3, g4⟩ hr3
    have hx_v3 : (v3 = (-2)) := hr3
    dsimp only [u2]
    exact Sf.ok trivial
  · refine Sf.bind (s_inq p2 0 6 (by decide) (by decide)) ?_
    intro v6 hr_v6
    refine Sf.ite (fun hc4 => ?_) (fun hc4 => ?_)
    · refine Sf.bind (sX7_refuse h_x0_shelf h_x0_rowSize h_x0_tapeSize h_x0_lines h_x0_line h_x0_changes h_x0_coins h_x0_goods h_x0_good h_x0_works h_x0_work h_x0_years h_x0_from h_x0_far h_x0_way h_x0_steps h_x0_queue (by decide)) ?_
      rintro ⟨v8, g9⟩ hr5
      have hx_v8 : (v8 = (-2)) := hr5
      dsimp only [u2]
      exact Sf.ok trivial
    · refine Sf.ckb 20 rfl (by grind) (fun q11 e_q11 h_q11 => ?_)
      refine Sf.rdb 7 rfl (by grind) (fun v12 e_v12 => ?_)
      clear e_v12
      exact Sf.ok trivial
set_option maxHeartbeats 1000000 in
theorem sX7_goodsOf {x0_shelf x0_rowSort x0_rowSize : (Nat → Int32)} {x0_rows : (Nat → Nat → Int64)} {x0_moved : (Nat → Int64)} {x0_shown x0_tape : (Nat → Int32)} {x0_tapeSize : Int32} {x0_refused : (Nat → Int32)} {x0_lines : Int32} {x0_line : (Nat → Nat → Int32)} {x0_changes x0_coins : (Nat → Int32)} {x0_goods : Int32} {x0_good : (Nat → Nat → Int32)} {x0_works : Int32} {x0_work : (Nat → Nat → Int32)} {x0_years x0_gone x0_spent x0_at x0_token x0_from : Int32} {x0_figures : Int64} {x0_fault : Int32} {x0_numbers : (Nat → Int32)} {x0_statements : Int32} {x0_left x0_far : (Nat → Int32)} {x0_tons : Int32} {x0_way : (Nat → Int32)} {x0_steps : Int32} {x0_met : Int64} {x0_queue x0_totals : (Nat → Int32)} {p1 p2 : Int32}  (h_x0_shelf : (AI 0 2 x0_shelf)) (h_x0_rowSize : (AI 0 40 x0_rowSize)) (h_x0_tapeSize : (0 ≤ x0_tapeSize ∧ x0_tapeSize ≤ 250)) (h_x0_lines : (0 ≤ x0_lines ∧ x0_lines ≤ 20)) (h_x0_line : (LnM x0_line)) (h_x0_changes : (AI 0 99 x0_changes)) (h_x0_coins : (AI 0 9 x0_coins)) (h_x0_goods : (0 ≤ x0_goods ∧ x0_goods ≤ 8)) (h_x0_good : (GdM x0_good)) (h_x0_works : (0 ≤ x0_works ∧ x0_works ≤ 7)) (h_x0_work : (WkM x0_work)) (h_x0_years : (1 ≤ x0_years ∧ x0_years ≤ 30)) (h_x0_from : (0 ≤ x0_from ∧ x0_from ≤ 250)) (h_x0_far : (AI 0 1000000000 x0_far)) (h_x0_way : (AI 0 22 x0_way)) (h_x0_steps : (0 ≤ x0_steps ∧ x0_steps ≤ 37)) (h_x0_queue : (AI 0 35 x0_queue)) : Sf (fX7_goodsOf (x0_shelf, x0_rowSort, x0_rowSize, x0_rows, x0_moved, x0_shown, x0_tape, x0_tapeSize, x0_refused, x0_lines, x0_line, x0_changes, x0_coins, x0_goods, x0_good, x0_works, x0_work, x0_years, x0_gone, x0_spent, x0_at, x0_token, x0_from, x0_figures, x0_fault, x0_numbers, x0_statements, x0_left, x0_far, x0_tons, x0_way, x0_steps, x0_met, x0_queue, x0_totals) p1 p2) (fun r => True) := by
  unfold fX7_goodsOf
  dsimp only [u35]
  refine Sf.bind (s_inq p1 0 (x0_goods - 1) (by decide) rfl) ?_
  intro v1 hr_v1
  refine Sf.ite (fun hc1 => ?_) (fun hc1 => ?_)
  · refine Sf.bind (sX7_refuse h_x0_shelf h_x0_rowSize h_x0_tapeSize h_x0_lines h_x0_line h_x0_changes h_x0_coins h_x0_goods h_x0_good h_x0_works h_x0_work h_x0_years h_x0_from h_x0_far h_x0_way h_x0_steps h_x0_queue (by decide)) ?_
    rintro ⟨v3, g4⟩ hr2
    have hx_v3 : (v3 = (-2)) := hr2
    dsimp only [u2]
    exact Sf.ok trivial
  · refine Sf.bind (s_inq p2 0 2 (by decide) (by decide)) ?_
    intro v6 hr_v6
    refine Sf.ite (fun hc3 => ?_) (fun hc3 => ?_)
    · refine Sf.bind (sX7_refuse h_x0_shelf h_x0_rowSize h_x0_tapeSize h_x0_lines h_x0_line h_x0_changes h_x0_coins h_x0_goods h_x0_good h_x0_works h_x0_work h_x0_years h_x0_from h_x0_far h_x0_way h_x0_steps h_x0_queue (by decide)) ?_
      rintro ⟨v8, g9⟩ hr4
      have hx_v8 : (v8 = (-2)) := hr4
      dsimp only [u2]
      exact Sf.ok trivial
    · refine Sf.ckb 8 rfl (by grind) (fun q11 e_q11 h_q11 => ?_)
      refine Sf.rdb 3 rfl (by grind) (fun v12 e_v12 => ?_)
      clear e_v12
      exact Sf.ok trivial
set_option maxHeartbeats 1000000 in
theorem sX7_workOf {x0_shelf x0_rowSort x0_rowSize : (Nat → Int32)} {x0_rows : (Nat → Nat → Int64)} {x0_moved : (Nat → Int64)} {x0_shown x0_tape : (Nat → Int32)} {x0_tapeSize : Int32} {x0_refused : (Nat → Int32)} {x0_lines : Int32} {x0_line : (Nat → Nat → Int32)} {x0_changes x0_coins : (Nat → Int32)} {x0_goods : Int32} {x0_good : (Nat → Nat → Int32)} {x0_works : Int32} {x0_work : (Nat → Nat → Int32)} {x0_years x0_gone x0_spent x0_at x0_token x0_from : Int32} {x0_figures : Int64} {x0_fault : Int32} {x0_numbers : (Nat → Int32)} {x0_statements : Int32} {x0_left x0_far : (Nat → Int32)} {x0_tons : Int32} {x0_way : (Nat → Int32)} {x0_steps : Int32} {x0_met : Int64} {x0_queue x0_totals : (Nat → Int32)} {p1 p2 : Int32}  (h_x0_shelf : (AI 0 2 x0_shelf)) (h_x0_rowSize : (AI 0 40 x0_rowSize)) (h_x0_tapeSize : (0 ≤ x0_tapeSize ∧ x0_tapeSize ≤ 250)) (h_x0_lines : (0 ≤ x0_lines ∧ x0_lines ≤ 20)) (h_x0_line : (LnM x0_line)) (h_x0_changes : (AI 0 99 x0_changes)) (h_x0_coins : (AI 0 9 x0_coins)) (h_x0_goods : (0 ≤ x0_goods ∧ x0_goods ≤ 8)) (h_x0_good : (GdM x0_good)) (h_x0_works : (0 ≤ x0_works ∧ x0_works ≤ 7)) (h_x0_work : (WkM x0_work)) (h_x0_years : (1 ≤ x0_years ∧ x0_years ≤ 30)) (h_x0_from : (0 ≤ x0_from ∧ x0_from ≤ 250)) (h_x0_far : (AI 0 1000000000 x0_far)) (h_x0_way : (AI 0 22 x0_way)) (h_x0_steps : (0 ≤ x0_steps ∧ x0_steps ≤ 37)) (h_x0_queue : (AI 0 35 x0_queue)) : Sf (fX7_workOf (x0_shelf, x0_rowSort, x0_rowSize, x0_rows, x0_moved, x0_shown, x0_tape, x0_tapeSize, x0_refused, x0_lines, x0_line, x0_changes, x0_coins, x0_goods, x0_good, x0_works, x0_work, x0_years, x0_gone, x0_spent, x0_at, x0_token, x0_from, x0_figures, x0_fault, x0_numbers, x0_statements, x0_left, x0_far, x0_tons, x0_way, x0_steps, x0_met, x0_queue, x0_totals) p1 p2) (fun r => True) := by
  unfold fX7_workOf
  dsimp only [u35]
  refine Sf.bind (sX7_isWork h_x0_shelf h_x0_rowSize h_x0_tapeSize h_x0_lines h_x0_line h_x0_changes h_x0_coins h_x0_goods h_x0_good h_x0_works h_x0_work h_x0_years h_x0_from h_x0_far h_x0_way h_x0_steps h_x0_queue) ?_
  intro v1 hr1
  have hx_v1 : ((v1 = 1 ∧ 0 ≤ p1 ∧ p1 < x0_works) ∨ (v1 = 0 ∧ ¬ (0 ≤ p1 ∧ p1 < x0_works))) := hr1
  refine Sf.ite (fun hc2 => ?_) (fun hc2 => ?_)
  · refine Sf.bind (sX7_refuse h_x0_shelf h_x0_rowSize h_x0_tapeSize h_x0_lines h_x0_line h_x0_changes h_x0_coins h_x0_goods h_x0_good h_x0_works h_x0_work h_x0_years h_x0_from h_x0_far h_x0_way h_x0_steps h_x0_queue (by decide)) ?_
    rintro ⟨v3, g4⟩ hr3
    have hx_v3 : (v3 = (-2)) := hr3
    dsimp only [u2]
    exact Sf.ok trivial
  · refine Sf.bind (s_inq p2 0 4 (by decide) (by decide)) ?_
    intro v6 hr_v6
    refine Sf.ite (fun hc4 => ?_) (fun hc4 => ?_)
    · refine Sf.bind (sX7_refuse h_x0_shelf h_x0_rowSize h_x0_tapeSize h_x0_lines h_x0_line h_x0_changes h_x0_coins h_x0_goods h_x0_good h_x0_works h_x0_work h_x0_years h_x0_from h_x0_far h_x0_way h_x0_steps h_x0_queue (by decide)) ?_
      rintro ⟨v8, g9⟩ hr5
      have hx_v8 : (v8 = (-2)) := hr5
      dsimp only [u2]
      exact Sf.ok trivial
    · refine Sf.ckb 7 rfl (by grind) (fun q11 e_q11 h_q11 => ?_)
      refine Sf.rdb 5 rfl (by grind) (fun v12 e_v12 => ?_)
      clear e_v12
      exact Sf.ok trivial
set_option maxHeartbeats 1000000 in
theorem sX7_bears {x0_shelf x0_rowSort x0_rowSize : (Nat → Int32)} {x0_rows : (Nat → Nat → Int64)} {x0_moved : (Nat → Int64)} {x0_shown x0_tape : (Nat → Int32)} {x0_tapeSize : Int32} {x0_refused : (Nat → Int32)} {x0_lines : Int32} {x0_line : (Nat → Nat → Int32)} {x0_changes x0_coins : (Nat → Int32)} {x0_goods : Int32} {x0_good : (Nat → Nat → Int32)} {x0_works : Int32} {x0_work : (Nat → Nat → Int32)} {x0_years x0_gone x0_spent x0_at x0_token x0_from : Int32} {x0_figures : Int64} {x0_fault : Int32} {x0_numbers : (Nat → Int32)} {x0_statements : Int32} {x0_left x0_far : (Nat → Int32)} {x0_tons : Int32} {x0_way : (Nat → Int32)} {x0_steps : Int32} {x0_met : Int64} {x0_queue x0_totals : (Nat → Int32)} {p1 p2 : Int32}  (h_x0_shelf : (AI 0 2 x0_shelf)) (h_x0_rowSize : (AI 0 40 x0_rowSize)) (h_x0_tapeSize : (0 ≤ x0_tapeSize ∧ x0_tapeSize ≤ 250)) (h_x0_lines : (0 ≤ x0_lines ∧ x0_lines ≤ 20)) (h_x0_line : (LnM x0_line)) (h_x0_changes : (AI 0 99 x0_changes)) (h_x0_coins : (AI 0 9 x0_coins)) (h_x0_goods : (0 ≤ x0_goods ∧ x0_goods ≤ 8)) (h_x0_good : (GdM x0_good)) (h_x0_works : (0 ≤ x0_works ∧ x0_works ≤ 7)) (h_x0_work : (WkM x0_work)) (h_x0_years : (1 ≤ x0_years ∧ x0_years ≤ 30)) (h_x0_from : (0 ≤ x0_from ∧ x0_from ≤ 250)) (h_x0_far : (AI 0 1000000000 x0_far)) (h_x0_way : (AI 0 22 x0_way)) (h_x0_steps : (0 ≤ x0_steps ∧ x0_steps ≤ 37)) (h_x0_queue : (AI 0 35 x0_queue)) (h_p1 : (0 ≤ p1 ∧ p1 ≤ 19)) : Sf (fX7_bears (x0_shelf, x0_rowSort, x0_rowSize, x0_rows, x0_moved, x0_shown, x0_tape, x0_tapeSize, x0_refused, x0_lines, x0_line, x0_changes, x0_coins, x0_goods, x0_good, x0_works, x0_work, x0_years, x0_gone, x0_spent, x0_at, x0_token, x0_from, x0_figures, x0_fault, x0_numbers, x0_statements, x0_left, x0_far, x0_tons, x0_way, x0_steps, x0_met, x0_queue, x0_totals) p1 p2) (fun r => (0 ≤ r ∧ r ≤ 1)) := by
  unfold fX7_bears
  dsimp only [u35]
  refine Sf.ckb 20 rfl (by grind) (fun q1 e_q1 h_q1 => ?_)
  refine Sf.rdl 6 rfl rfl (fun v2 e_v2 => ?_)
  have h_v2 : 0 ≤ v2 ∧ v2 ≤ 1 := by rw [e_v2]; exact (h_x0_line q1) 6
  clear e_v2
  refine Sf.ite (fun hc1 => ?_) (fun hc1 => ?_)
  · refine Sf.ckb 20 rfl (by grind) (fun q3 e_q3 h_q3 => ?_)
    refine Sf.rdl 2 rfl rfl (fun v4 e_v4 => ?_)
    have h_v4 : 0 ≤ v4 ∧ v4 ≤ 7 := by rw [e_v4]; exact (h_x0_line q3) 2
    clear e_v4
    refine Sf.ite (fun hc2 => ?_) (fun hc2 => ?_)
    · exact Sf.ok (show (0 ≤ 0 ∧ 0 ≤ 1) from (by decide))
    · refine Sf.rdb 20 rfl (by grind) (fun v5 e_v5 => ?_)
      clear e_v5
      refine Sf.ite (fun hc3 => ?_) (fun hc3 => ?_)
      · exact Sf.ok (show (0 ≤ 0 ∧ 0 ≤ 1) from (by decide))
      · exact Sf.ok (show (0 ≤ 1 ∧ 1 ≤ 1) from (by decide))
  · exact Sf.ok (show (0 ≤ 0 ∧ 0 ≤ 1) from (by decide))
theorem TX7_refill_s2 {x0_lines : Int32} {x0_line : (Nat → Nat → Int32)} {z2 : Int32} {z3 : (Nat → Int32)}  (h_x0_lines : (0 ≤ x0_lines ∧ x0_lines ≤ 20)) (h_x0_line : (LnM x0_line)) (h_z2 : (0 ≤ z2)) : Sf (fX7_refill_s2 x0_lines x0_line z2 z3) (LQ (u2 (fun z2 z3 => (0 ≤ z2))) (u2 (fun z2 z3 => muUp z2)) (muUp z2) (fun e => True)) := by
  unfold fX7_refill_s2
  refine Sf.ite (fun hc1 => ?_) (fun hc1 => ?_)
  · exact Sf.inr trivial
  · refine Sf.ckb 20 rfl (by grind) (fun q6 e_q6 h_q6 => ?_)
    refine Sf.rdl 4 rfl rfl (fun v7 e_v7 => ?_)
    have h_v7 : 0 ≤ v7 ∧ v7 ≤ 999 := by rw [e_v7]; exact (h_x0_line q6) 4
    clear e_v7
    refine Sf.wrb 20 rfl (by grind) (fun f8 e_f8 => ?_)
    clear e_f8
    exact Sf.inl (show (0 ≤ (z2 + 1)) from (by grind)) (muUp_lt hc1)
theorem LX7_refill_s2 {n : Nat} {x0_lines : Int32} {x0_line : (Nat → Nat → Int32)} {z2 : Int32} {z3 : (Nat → Int32)} (hn : 1000000000000 ≤ n) (h_x0_lines : (0 ≤ x0_lines ∧ x0_lines ≤ 20)) (h_x0_line : (LnM x0_line)) (h_z2 : (0 ≤ z2)) : Sf (lp (u2 (fX7_refill_s2 x0_lines x0_line)) n (z2, z3)) (fun e => True) :=
  Sf.loop2 (fun z2 z3 => (0 ≤ z2)) (fun z2 z3 => muUp z2) (fun z2 z3 h => TX7_refill_s2 h_x0_lines h_x0_line h) h_z2 (muUp_n hn)
set_option maxHeartbeats 1000000 in
theorem sX7_refill {n : Nat} {x0_shelf x0_rowSort x0_rowSize : (Nat → Int32)} {x0_rows : (Nat → Nat → Int64)} {x0_moved : (Nat → Int64)} {x0_shown x0_tape : (Nat → Int32)} {x0_tapeSize : Int32} {x0_refused : (Nat → Int32)} {x0_lines : Int32} {x0_line : (Nat → Nat → Int32)} {x0_changes x0_coins : (Nat → Int32)} {x0_goods : Int32} {x0_good : (Nat → Nat → Int32)} {x0_works : Int32} {x0_work : (Nat → Nat → Int32)} {x0_years x0_gone x0_spent x0_at x0_token x0_from : Int32} {x0_figures : Int64} {x0_fault : Int32} {x0_numbers : (Nat → Int32)} {x0_statements : Int32} {x0_left x0_far : (Nat → Int32)} {x0_tons : Int32} {x0_way : (Nat → Int32)} {x0_steps : Int32} {x0_met : Int64} {x0_queue x0_totals : (Nat → Int32)} (hn : 1000000000000 ≤ n) (h_x0_shelf : (AI 0 2 x0_shelf)) (h_x0_rowSize : (AI 0 40 x0_rowSize)) (h_x0_tapeSize : (0 ≤ x0_tapeSize ∧ x0_tapeSize ≤ 250)) (h_x0_lines : (0 ≤ x0_lines ∧ x0_lines ≤ 20)) (h_x0_line : (LnM x0_line)) (h_x0_changes : (AI 0 99 x0_changes)) (h_x0_coins : (AI 0 9 x0_coins)) (h_x0_goods : (0 ≤ x0_goods ∧ x0_goods ≤ 8)) (h_x0_good : (GdM x0_good)) (h_x0_works : (0 ≤ x0_works ∧ x0_works ≤ 7)) (h_x0_work : (WkM x0_work)) (h_x0_years : (1 ≤ x0_years ∧ x0_years ≤ 30)) (h_x0_from : (0 ≤ x0_from ∧ x0_from ≤ 250)) (h_x0_far : (AI 0 1000000000 x0_far)) (h_x0_way : (AI 0 22 x0_way)) (h_x0_steps : (0 ≤ x0_steps ∧ x0_steps ≤ 37)) (h_x0_queue : (AI 0 35 x0_queue)) : Sf (fX7_refill n (x0_shelf, x0_rowSort, x0_rowSize, x0_rows, x0_moved, x0_shown, x0_tape, x0_tapeSize, x0_refused, x0_lines, x0_line, x0_changes, x0_coins, x0_goods, x0_good, x0_works, x0_work, x0_years, x0_gone, x0_spent, x0_at, x0_token, x0_from, x0_figures, x0_fault, x0_numbers, x0_statements, x0_left, x0_far, x0_tons, x0_way, x0_steps, x0_met, x0_queue, x0_totals)) (fun r => True) := by
  unfold fX7_refill
  dsimp only [u35]
  refine Sf.bind (LX7_refill_s2 hn h_x0_lines h_x0_line (by decide)) ?_
  intro w5 hr1
  exact Sf.ok trivial

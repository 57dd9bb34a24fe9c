set_option maxHeartbeats 1000000 in
theorem sX7_isLetter {p0 : Int32}   : Sf (fX7_isLetter p0) (fun r => True) := by
  unfold fX7_isLetter
  refine Sf.ite (fun hc1 => ?_) (fun hc1 => ?_)
  · exact Sf.ok trivial
  · refine Sf.ite (fun hc2 => ?_) (fun hc2 => ?_)
    · exact Sf.ok trivial
    · exact Sf.ok trivial
set_option maxHeartbeats 1000000 in
theorem sX7_isDigit {p0 : Int32}   : Sf (fX7_isDigit p0) (fun r => True) := by
  unfold fX7_isDigit
  refine Sf.ite (fun hc1 => ?_) (fun hc1 => ?_)
  · exact Sf.ok trivial
  · refine Sf.ite (fun hc2 => ?_) (fun hc2 => ?_)
    · exact Sf.ok trivial
    · exact Sf.ok trivial
theorem TX7_look_s0 {x0_tape : (Nat → Int32)} {x0_tapeSize z2 a0 : Int32}  (h_x0_tapeSize : (0 ≤ x0_tapeSize ∧ x0_tapeSize ≤ 250)) (h_z2 : (0 ≤ z2)) (hi_0 : a0 ≤ z2 ∧ z2 ≤ x0_tapeSize) : Sf (fX7_look_s0 x0_tape x0_tapeSize z2) (LQ (fun (e : Int32) => (0 ≤ e) ∧ (a0 ≤ e ∧ e ≤ x0_tapeSize)) (fun (e : Int32) => muUp e) (muUp z2) (fun e => (0 ≤ e) ∧ (a0 ≤ e ∧ e ≤ x0_tapeSize))) := by
  unfold fX7_look_s0
  refine Sf.ite (fun hc1 => ?_) (fun hc1 => ?_)
  · exact Sf.inr (show (0 ≤ z2) ∧ (a0 ≤ z2 ∧ z2 ≤ x0_tapeSize) from ⟨h_z2, (by grind)⟩)
  · refine Sf.rdb 250 rfl (by grind) (fun v31 e_v31 => ?_)
    clear e_v31
    refine Sf.ite (fun hc2 => ?_) (fun hc2 => ?_)
    · exact Sf.inl (show (0 ≤ (z2 + 1)) ∧ (a0 ≤ (z2 + 1) ∧ (z2 + 1) ≤ x0_tapeSize) from ⟨(by grind), (by grind)⟩) (muUp_lt hc1)
    · exact Sf.inr (show (0 ≤ z2) ∧ (a0 ≤ z2 ∧ z2 ≤ x0_tapeSize) from ⟨h_z2, (by grind)⟩)
theorem LX7_look_s0 {n : Nat} {x0_tape : (Nat → Int32)} {x0_tapeSize z2 a0 : Int32} (hn : 1000000000000 ≤ n) (h_x0_tapeSize : (0 ≤ x0_tapeSize ∧ x0_tapeSize ≤ 250)) (h_z2 : (0 ≤ z2)) (hi_0 : a0 ≤ z2 ∧ z2 ≤ x0_tapeSize) : Sf (lp (fX7_look_s0 x0_tape x0_tapeSize) n z2) (fun e => (0 ≤ e) ∧ (a0 ≤ e ∧ e ≤ x0_tapeSize)) :=
  Sf.loop (fun e => (0 ≤ e) ∧ (a0 ≤ e ∧ e ≤ x0_tapeSize)) (fun e => muUp e) (fun e h => TX7_look_s0 h_x0_tapeSize h.1 h.2) n _ (show (0 ≤ z2) ∧ (a0 ≤ z2 ∧ z2 ≤ x0_tapeSize) from ⟨h_z2, hi_0⟩) (muUp_n hn)
theorem TX7_look_s149 {x0_tape : (Nat → Int32)} {x0_tapeSize w4 z14 : Int32} {z15 : Int64} {a0 : Int32}  (h_x0_tapeSize : (0 ≤ x0_tapeSize ∧ x0_tapeSize ≤ 250)) (h_w4 : (0 ≤ w4 ∧ w4 ≤ 250)) (h_z14 : (0 ≤ z14)) (hi_0 : a0 ≤ z14 ∧ z14 ≤ x0_tapeSize) : Sf (fX7_look_s149 x0_tape x0_tapeSize w4 z14 z15) (LQ (u2 (fun z14 z15 => (0 ≤ z14) ∧ (a0 ≤ z14 ∧ z14 ≤ x0_tapeSize))) (u2 (fun z14 z15 => muUp z14)) (muUp z14) (fun e => (0 ≤ e.1) ∧ (a0 ≤ e.1 ∧ e.1 ≤ x0_tapeSize))) := by
  unfold fX7_look_s149
  refine Sf.ite (fun hc1 => ?_) (fun hc1 => ?_)
  · exact Sf.inr (show (0 ≤ z14) ∧ (a0 ≤ z14 ∧ z14 ≤ x0_tapeSize) from ⟨h_z14, (by grind)⟩)
  · refine Sf.rdb 250 rfl (by grind) (fun v19 e_v19 => ?_)
    refine Sf.bind (sX7_isDigit ) ?_
    intro v20 hr2
    refine Sf.ite (fun hc3 => ?_) (fun hc3 => ?_)
    · exact Sf.inr (show (0 ≤ z14) ∧ (a0 ≤ z14 ∧ z14 ≤ x0_tapeSize) from ⟨h_z14, (by grind)⟩)
    · refine Sf.ite (fun hc4 => ?_) (fun hc4 => ?_)
      · clear hc4
        unfold fX7_look_j218
        exact Sf.inl (show (0 ≤ (z14 + 1)) ∧ (a0 ≤ (z14 + 1) ∧ (z14 + 1) ≤ x0_tapeSize) from ⟨(by grind), (by grind)⟩) (muUp_lt hc1)
      · clear hc4
        refine Sf.rdb 250 rfl (by grind) (fun v23 e_v23 => ?_)
        have hs5 : v23 = v19 := e_v23.trans e_v19.symm
        clear e_v23
        unfold fX7_look_j218
        exact Sf.inl (show (0 ≤ (z14 + 1)) ∧ (a0 ≤ (z14 + 1) ∧ (z14 + 1) ≤ x0_tapeSize) from ⟨(by grind), (by grind)⟩) (muUp_lt hc1)
theorem LX7_look_s149 {n : Nat} {x0_tape : (Nat → Int32)} {x0_tapeSize w4 z14 : Int32} {z15 : Int64} {a0 : Int32} (hn : 1000000000000 ≤ n) (h_x0_tapeSize : (0 ≤ x0_tapeSize ∧ x0_tapeSize ≤ 250)) (h_w4 : (0 ≤ w4 ∧ w4 ≤ 250)) (h_z14 : (0 ≤ z14)) (hi_0 : a0 ≤ z14 ∧ z14 ≤ x0_tapeSize) : Sf (lp (u2 (fX7_look_s149 x0_tape x0_tapeSize w4)) n (z14, z15)) (fun e => (0 ≤ e.1) ∧ (a0 ≤ e.1 ∧ e.1 ≤ x0_tapeSize)) :=
  Sf.loop2 (fun z14 z15 => (0 ≤ z14) ∧ (a0 ≤ z14 ∧ z14 ≤ x0_tapeSize)) (fun z14 z15 => muUp z14) (fun z14 z15 h => TX7_look_s149 h_x0_tapeSize h_w4 h.1 h.2) (show (0 ≤ z14) ∧ (a0 ≤ z14 ∧ z14 ≤ x0_tapeSize) from ⟨h_z14, hi_0⟩) (muUp_n hn)
theorem TX7_look_s90 {x0_tape : (Nat → Int32)} {x0_tapeSize z25 a0 : Int32}  (h_x0_tapeSize : (0 ≤ x0_tapeSize ∧ x0_tapeSize ≤ 250)) (h_z25 : (0 ≤ z25)) (hi_0 : a0 ≤ z25 ∧ z25 ≤ x0_tapeSize) : Sf (fX7_look_s90 x0_tape x0_tapeSize z25) (LQ (fun (e : Int32) => (0 ≤ e) ∧ (a0 ≤ e ∧ e ≤ x0_tapeSize)) (fun (e : Int32) => muUp e) (muUp z25) (fun e => (0 ≤ e) ∧ (a0 ≤ e ∧ e ≤ x0_tapeSize))) := by
  unfold fX7_look_s90
  refine Sf.ite (fun hc1 => ?_) (fun hc1 => ?_)
  · exact Sf.inr (show (0 ≤ z25) ∧ (a0 ≤ z25 ∧ z25 ≤ x0_tapeSize) from ⟨h_z25, (by grind)⟩)
  · refine Sf.rdb 250 rfl (by grind) (fun v28 e_v28 => ?_)
    clear e_v28
    refine Sf.bind (sX7_isLetter ) ?_
    intro v29 hr2
    refine Sf.ite (fun hc3 => ?_) (fun hc3 => ?_)
    · exact Sf.inr (show (0 ≤ z25) ∧ (a0 ≤ z25 ∧ z25 ≤ x0_tapeSize) from ⟨h_z25, (by grind)⟩)
    · exact Sf.inl (show (0 ≤ (z25 + 1)) ∧ (a0 ≤ (z25 + 1) ∧ (z25 + 1) ≤ x0_tapeSize) from ⟨(by grind), (by grind)⟩) (muUp_lt hc1)
theorem LX7_look_s90 {n : Nat} {x0_tape : (Nat → Int32)} {x0_tapeSize z25 a0 : Int32} (hn : 1000000000000 ≤ n) (h_x0_tapeSize : (0 ≤ x0_tapeSize ∧ x0_tapeSize ≤ 250)) (h_z25 : (0 ≤ z25)) (hi_0 : a0 ≤ z25 ∧ z25 ≤ x0_tapeSize) : Sf (lp (fX7_look_s90 x0_tape x0_tapeSize) n z25) (fun e => (0 ≤ e) ∧ (a0 ≤ e ∧ e ≤ x0_tapeSize)) :=
  Sf.loop (fun e => (0 ≤ e) ∧ (a0 ≤ e ∧ e ≤ x0_tapeSize)) (fun e => muUp e) (fun e h => TX7_look_s90 h_x0_tapeSize h.1 h.2) n _ (show (0 ≤ z25) ∧ (a0 ≤ z25 ∧ z25 ≤ x0_tapeSize) from ⟨h_z25, hi_0⟩) (muUp_n hn)
set_option maxHeartbeats 1000000 in
theorem sX7_look {n : Nat} {x0_shelf x0_rowSort x0_rowSize : (Nat → Int32)} {x0_rows : (Nat → Nat → Int64)} {x0_moved : (Nat → Int64)} {x0_shown x0_tape : (Nat → Int32)} {x0_tapeSize : Int32} {x0_refused : (Nat → Int32)} {x0_lines : Int32} {x0_line : (Nat → Nat → Int32)} {x0_changes x0_coins : (Nat → Int32)} {x0_goods : Int32} {x0_good : (Nat → Nat → Int32)} {x0_works : Int32} {x0_work : (Nat → Nat → Int32)} {x0_years x0_gone x0_spent x0_at x0_token x0_from : Int32} {x0_figures : Int64} {x0_fault : Int32} {x0_numbers : (Nat → Int32)} {x0_statements : Int32} {x0_left x0_far : (Nat → Int32)} {x0_tons : Int32} {x0_way : (Nat → Int32)} {x0_steps : Int32} {x0_met : Int64} {x0_queue x0_totals : (Nat → Int32)} (hn : 1000000000000 ≤ n) (h_x0_shelf : (AI 0 2 x0_shelf)) (h_x0_rowSize : (AI 0 40 x0_rowSize)) (h_x0_tapeSize : (0 ≤ x0_tapeSize ∧ x0_tapeSize ≤ 250)) (h_x0_lines : (0 ≤ x0_lines ∧ x0_lines ≤ 20)) (h_x0_line : (LnM x0_line)) (h_x0_changes : (AI 0 99 x0_changes)) (h_x0_coins : (AI 0 9 x0_coins)) (h_x0_goods : (0 ≤ x0_goods ∧ x0_goods ≤ 8)) (h_x0_good : (GdM x0_good)) (h_x0_works : (0 ≤ x0_works ∧ x0_works ≤ 7)) (h_x0_work : (WkM x0_work)) (h_x0_years : (1 ≤ x0_years ∧ x0_years ≤ 30)) (h_x0_at : (0 ≤ x0_at)) (h_x0_from : (0 ≤ x0_from ∧ x0_from ≤ 250)) (h_x0_far : (AI 0 1000000000 x0_far)) (h_x0_way : (AI 0 22 x0_way)) (h_x0_steps : (0 ≤ x0_steps ∧ x0_steps ≤ 37)) (h_x0_queue : (AI 0 35 x0_queue)) (he_0 : x0_at ≤ x0_tapeSize) : Sf (fX7_look n (x0_shelf, x0_rowSort, x0_rowSize, x0_rows, x0_moved, x0_shown, x0_tape, x0_tapeSize, x0_refused, x0_lines, x0_line, x0_changes, x0_coins, x0_goods, x0_good, x0_works, x0_work, x0_years, x0_gone, x0_spent, x0_at, x0_token, x0_from, x0_figures, x0_fault, x0_numbers, x0_statements, x0_left, x0_far, x0_tons, x0_way, x0_steps, x0_met, x0_queue, x0_totals)) (fun r => (0 ≤ r.2.2.1 ∧ r.2.2.1 ≤ 250) ∧ ((0 ≤ r.1 ∧ r.1 ≤ x0_tapeSize) ∧ x0_at ≤ r.1 ∧ (r.2.1 ≠ 3 ∨ x0_at < r.1))) := by
  unfold fX7_look
  dsimp only [u35]
  refine Sf.bind (LX7_look_s0 (a0 := x0_at) hn h_x0_tapeSize h_x0_at (by grind)) ?_
  intro w4 hr1
  obtain ⟨h_w4, hx_w4⟩ : (0 ≤ w4) ∧ (x0_at ≤ w4 ∧ w4 ≤ x0_tapeSize) := hr1
  refine Sf.ite (fun hc2 => ?_) (fun hc2 => ?_)
  · exact Sf.ok (show (0 ≤ w4 ∧ w4 ≤ 250) ∧ ((0 ≤ w4 ∧ w4 ≤ x0_tapeSize) ∧ x0_at ≤ w4 ∧ (0 ≠ 3 ∨ x0_at < w4)) from ⟨(by grind), (by grind)⟩)
  · refine Sf.rdb 250 rfl (by grind) (fun v5 e_v5 => ?_)
    refine Sf.bind (sX7_isLetter ) ?_
    intro v6 hr3
    refine Sf.ite (fun hc4 => ?_) (fun hc4 => ?_)
    · refine Sf.rdb 250 rfl (by grind) (fun v8 e_v8 => ?_)
      have hs5 : v8 = v5 := e_v8.trans e_v5.symm
      clear e_v8
      refine Sf.bind (sX7_isDigit ) ?_
      intro v9 hr6
      refine Sf.ite (fun hc7 => ?_) (fun hc7 => ?_)
      · refine Sf.rdb 250 rfl (by grind) (fun v11 e_v11 => ?_)
        have hs8 : v11 = v5 := e_v11.trans e_v5.symm
        clear e_v11
        refine Sf.ite (fun hc9 => ?_) (fun hc9 => ?_)
        · unfold fX7_look_j254
          exact Sf.ok (show (0 ≤ w4 ∧ w4 ≤ 250) ∧ ((0 ≤ (w4 + 1) ∧ (w4 + 1) ≤ x0_tapeSize) ∧ x0_at ≤ (w4 + 1) ∧ (3 ≠ 3 ∨ x0_at < (w4 + 1))) from ⟨(by grind), (by grind)⟩)
        · unfold fX7_look_j254
          exact Sf.ok (show (0 ≤ w4 ∧ w4 ≤ 250) ∧ ((0 ≤ (w4 + 1) ∧ (w4 + 1) ≤ x0_tapeSize) ∧ x0_at ≤ (w4 + 1) ∧ (4 ≠ 3 ∨ x0_at < (w4 + 1))) from ⟨(by grind), (by grind)⟩)
      · refine Sf.bind (LX7_look_s149 (a0 := w4) hn h_x0_tapeSize (by grind) h_w4 (by grind)) ?_
        rintro ⟨w17, w18⟩ hr10
        obtain ⟨h_w17, hx_w17⟩ : (0 ≤ w17) ∧ (w4 ≤ w17 ∧ w17 ≤ x0_tapeSize) := hr10
        dsimp only [u2]
        exact Sf.ok (show (0 ≤ w4 ∧ w4 ≤ 250) ∧ ((0 ≤ w17 ∧ w17 ≤ x0_tapeSize) ∧ x0_at ≤ w17 ∧ (2 ≠ 3 ∨ x0_at < w17)) from ⟨(by grind), (by grind)⟩)
    · refine Sf.bind (LX7_look_s90 (a0 := w4) hn h_x0_tapeSize h_w4 (by grind)) ?_
      intro w27 hr11
      obtain ⟨h_w27, hx_w27⟩ : (0 ≤ w27) ∧ (w4 ≤ w27 ∧ w27 ≤ x0_tapeSize) := hr11
      exact Sf.ok (show (0 ≤ w4 ∧ w4 ≤ 250) ∧ ((0 ≤ w27 ∧ w27 ≤ x0_tapeSize) ∧ x0_at ≤ w27 ∧ (1 ≠ 3 ∨ x0_at < w27)) from ⟨(by grind), (by grind)⟩)
set_option maxHeartbeats 1000000 in
theorem sX7_wrong {x0_shelf x0_rowSort x0_rowSize : (Nat → Int32)} {x0_rows : (Nat → Nat → Int64)} {x0_moved : (Nat → Int64)} {x0_shown x0_tape : (Nat → Int32)} {x0_tapeSize : Int32} {x0_refused : (Nat → Int32)} {x0_lines : Int32} {x0_line : (Nat → Nat → Int32)} {x0_changes x0_coins : (Nat → Int32)} {x0_goods : Int32} {x0_good : (Nat → Nat → Int32)} {x0_works : Int32} {x0_work : (Nat → Nat → Int32)} {x0_years x0_gone x0_spent x0_at x0_token x0_from : Int32} {x0_figures : Int64} {x0_fault : Int32} {x0_numbers : (Nat → Int32)} {x0_statements : Int32} {x0_left x0_far : (Nat → Int32)} {x0_tons : Int32} {x0_way : (Nat → Int32)} {x0_steps : Int32} {x0_met : Int64} {x0_queue x0_totals : (Nat → Int32)}  (h_x0_shelf : (AI 0 2 x0_shelf)) (h_x0_rowSize : (AI 0 40 x0_rowSize)) (h_x0_tapeSize : (0 ≤ x0_tapeSize ∧ x0_tapeSize ≤ 250)) (h_x0_lines : (0 ≤ x0_lines ∧ x0_lines ≤ 20)) (h_x0_line : (LnM x0_line)) (h_x0_changes : (AI 0 99 x0_changes)) (h_x0_coins : (AI 0 9 x0_coins)) (h_x0_goods : (0 ≤ x0_goods ∧ x0_goods ≤ 8)) (h_x0_good : (GdM x0_good)) (h_x0_works : (0 ≤ x0_works ∧ x0_works ≤ 7)) (h_x0_work : (WkM x0_work)) (h_x0_years : (1 ≤ x0_years ∧ x0_years ≤ 30)) (h_x0_from : (0 ≤ x0_from ∧ x0_from ≤ 250)) (h_x0_far : (AI 0 1000000000 x0_far)) (h_x0_way : (AI 0 22 x0_way)) (h_x0_steps : (0 ≤ x0_steps ∧ x0_steps ≤ 37)) (h_x0_queue : (AI 0 35 x0_queue)) : Sf (fX7_wrong (x0_shelf, x0_rowSort, x0_rowSize, x0_rows, x0_moved, x0_shown, x0_tape, x0_tapeSize, x0_refused, x0_lines, x0_line, x0_changes, x0_coins, x0_goods, x0_good, x0_works, x0_work, x0_years, x0_gone, x0_spent, x0_at, x0_token, x0_from, x0_figures, x0_fault, x0_numbers, x0_statements, x0_left, x0_far, x0_tons, x0_way, x0_steps, x0_met, x0_queue, x0_totals)) (fun r => (0 ≤ r.1 ∧ r.1 ≤ 0)) := by
  unfold fX7_wrong
  dsimp only [u35]
  exact Sf.ok (show (0 ≤ 0 ∧ 0 ≤ 0) from (by decide))

def fX7_land (n : Nat) (X0 : MdT) (X1 : MdT) : Option (Int32 × (Int32 × (Nat → Int32) × Int32 × (Nat → Nat → Int32) × (Nat → Int32) × (Nat → Int32) × Int32 × (Nat → Nat → Int32) × Int32 × (Nat → Nat → Int32) × Int32 × Int32 × Int32 × Int32 × Int32 × Int32 × Int64 × Int32 × (Nat → Int32) × Int32) × (Int32 × (Nat → Nat → Int32) × (Nat → Int32) × (Nat → Int32) × Int32 × (Nat → Nat → Int32) × Int32 × (Nat → Nat → Int32) × Int32 × Int32 × Int32)) :=
  u35 (fun (x0_shelf : (Nat → Int32)) (x0_rowSort : (Nat → Int32)) (x0_rowSize : (Nat → Int32)) (x0_rows : (Nat → Nat → Int64)) (x0_moved : (Nat → Int64)) (x0_shown : (Nat → Int32)) (x0_tape : (Nat → Int32)) (x0_tapeSize : Int32) (x0_refused : (Nat → Int32)) (x0_lines : Int32) (x0_line : (Nat → Nat → Int32)) (x0_changes : (Nat → Int32)) (x0_coins : (Nat → Int32)) (x0_goods : Int32) (x0_good : (Nat → Nat → Int32)) (x0_works : Int32) (x0_work : (Nat → Nat → Int32)) (x0_years : Int32) (x0_gone : Int32) (x0_spent : Int32) (x0_at : Int32) (x0_token : Int32) (x0_from : Int32) (x0_figures : Int64) (x0_fault : Int32) (x0_numbers : (Nat → Int32)) (x0_statements : Int32) (x0_left : (Nat → Int32)) (x0_far : (Nat → Int32)) (x0_tons : Int32) (x0_way : (Nat → Int32)) (x0_steps : Int32) (x0_met : Int64) (x0_queue : (Nat → Int32)) (x0_totals : (Nat → Int32)) => u35 (fun (x1_shelf : (Nat → Int32)) (x1_rowSort : (Nat → Int32)) (x1_rowSize : (Nat → Int32)) (x1_rows : (Nat → Nat → Int64)) (x1_moved : (Nat → Int64)) (x1_shown : (Nat → Int32)) (x1_tape : (Nat → Int32)) (x1_tapeSize : Int32) (x1_refused : (Nat → Int32)) (x1_lines : Int32) (x1_line : (Nat → Nat → Int32)) (x1_changes : (Nat → Int32)) (x1_coins : (Nat → Int32)) (x1_goods : Int32) (x1_good : (Nat → Nat → Int32)) (x1_works : Int32) (x1_work : (Nat → Nat → Int32)) (x1_years : Int32) (x1_gone : Int32) (x1_spent : Int32) (x1_at : Int32) (x1_token : Int32) (x1_from : Int32) (x1_figures : Int64) (x1_fault : Int32) (x1_numbers : (Nat → Int32)) (x1_statements : Int32) (x1_left : (Nat → Int32)) (x1_far : (Nat → Int32)) (x1_tons : Int32) (x1_way : (Nat → Int32)) (x1_steps : Int32) (x1_met : Int64) (x1_queue : (Nat → Int32)) (x1_totals : (Nat → Int32)) => (fX7_fresh n (x0_shelf, x0_rowSort, x0_rowSize, x0_rows, x0_moved, x0_shown, x0_tape, x0_tapeSize, x0_refused, x0_lines, x0_line, x0_changes, x0_coins, x0_goods, x0_good, x0_works, x0_work, x0_years, x0_gone, x0_spent, x0_at, x0_token, x0_from, x0_figures, x0_fault, x0_numbers, x0_statements, x0_left, x0_far, x0_tons, x0_way, x0_steps, x0_met, x0_queue, x0_totals) (x1_shelf, x1_rowSort, x1_rowSize, x1_rows, x1_moved, x1_shown, x1_tape, x1_tapeSize, x1_refused, x1_lines, x1_line, x1_changes, x1_coins, x1_goods, x1_good, x1_works, x1_work, x1_years, x1_gone, x1_spent, x1_at, x1_token, x1_from, x1_figures, x1_fault, x1_numbers, x1_statements, x1_left, x1_far, x1_tons, x1_way, x1_steps, x1_met, x1_queue, x1_totals)).bind (fun G1 => u11 (fun g2 g3 g4 g5 g6 g7 g8 g9 g10 g11 g12 => (fX7_read n (x0_shelf, x0_rowSort, x0_rowSize, x0_rows, x0_moved, x0_shown, x0_tape, x0_tapeSize, x0_refused, x0_lines, x0_line, x0_changes, x0_coins, x0_goods, x0_good, x0_works, x0_work, x0_years, x0_gone, x0_spent, x0_at, x0_token, x0_from, x0_figures, x0_fault, x0_numbers, x0_statements, x0_left, x0_far, x0_tons, x0_way, x0_steps, x0_met, x0_queue, x0_totals)).bind (u2 fun v14 G15 => u16 (fun g16 g17 g18 g19 g20 g21 g22 g23 g24 g25 g26 g27 g28 g29 g30 g31 => if v14 = 0 then ((fX7_takeFrom n (x0_shelf, x0_rowSort, x0_rowSize, x0_rows, x0_moved, x0_shown, x0_tape, 0, x0_refused, g16, g17, g18, g19, g20, g21, g22, g23, g24, x0_gone, x0_spent, g25, g26, g27, g28, g29, g30, g31, x0_left, x0_far, x0_tons, x0_way, x0_steps, x0_met, x0_queue, x0_totals) (x1_shelf, x1_rowSort, x1_rowSize, x1_rows, x1_moved, x1_shown, x1_tape, x1_tapeSize, x1_refused, g2, g3, g4, g5, g6, g7, g8, g9, g10, g11, g12, x1_at, x1_token, x1_from, x1_figures, x1_fault, x1_numbers, x1_statements, x1_left, x1_far, x1_tons, x1_way, x1_steps, x1_met, x1_queue, x1_totals)).bind (fun G33 => u11 (fun g34 g35 g36 g37 g38 g39 g40 g41 g42 g43 g44 => (fX7_refuse (x0_shelf, x0_rowSort, x0_rowSize, x0_rows, x0_moved, x0_shown, x0_tape, 0, x0_refused, g34, g35, g36, g37, g38, g39, g40, g41, g42, g43, g44, g25, g26, g27, g28, g29, g30, g31, x0_left, x0_far, x0_tons, x0_way, x0_steps, x0_met, x0_queue, x0_totals) (-2)).bind (u2 fun v46 g47 => some (((-20) - g29), (0, g47, g34, g35, g36, g37, g38, g39, g40, g41, g42, g43, g44, g25, g26, g27, g28, g29, g30, g31), (g2, g3, g4, g5, g6, g7, g8, g9, g10, g11, g12)))) G33)) else (some (g31, (0, x0_refused, g16, g17, g18, g19, g20, g21, g22, g23, g24, x0_gone, x0_spent, g25, g26, g27, g28, g29, g30, g31), (g2, g3, g4, g5, g6, g7, g8, g9, g10, g11, g12)))) G15)) G1)) X1) X0
set_option maxHeartbeats 4000000 in
set_option maxRecDepth 100000 in
theorem kX7_land (l : Launch) (d : DT) (h0 : Nat → Nat) (r0_rows : Nat → Nat) (r0_line : Nat → Nat) (r0_good : Nat → Nat) (r0_work : Nat → Nat) (a0_kept : Option Nat) (a0_chosen : Option Nat) (h1 : Nat → Nat) (r1_rows : Nat → Nat) (r1_line : Nat → Nat) (r1_good : Nat → Nat) (r1_work : Nat → Nat) (a1_kept : Option Nat) (a1_tried : Option Nat) (a1_chosen : Option Nat) (n : Nat) (x0_shelf : (Nat → Int32)) (x0_rowSort : (Nat → Int32)) (x0_rowSize : (Nat → Int32)) (x0_rows : (Nat → Nat → Int64)) (x0_moved : (Nat → Int64)) (x0_shown : (Nat → Int32)) (x0_tape : (Nat → Int32)) (x0_tapeSize : Int32) (x0_refused : (Nat → Int32)) (x0_lines : Int32) (x0_line : (Nat → Nat → Int32)) (x0_changes : (Nat → Int32)) (x0_coins : (Nat → Int32)) (x0_goods : Int32) (x0_good : (Nat → Nat → Int32)) (x0_works : Int32) (x0_work : (Nat → Nat → Int32)) (x0_years : Int32) (x0_gone : Int32) (x0_spent : Int32) (x0_at : Int32) (x0_token : Int32) (x0_from : Int32) (x0_figures : Int64) (x0_fault : Int32) (x0_numbers : (Nat → Int32)) (x0_statements : Int32) (x0_left : (Nat → Int32)) (x0_far : (Nat → Int32)) (x0_tons : Int32) (x0_way : (Nat → Int32)) (x0_steps : Int32) (x0_met : Int64) (x0_queue : (Nat → Int32)) (x0_totals : (Nat → Int32)) (x1_shelf : (Nat → Int32)) (x1_rowSort : (Nat → Int32)) (x1_rowSize : (Nat → Int32)) (x1_rows : (Nat → Nat → Int64)) (x1_moved : (Nat → Int64)) (x1_shown : (Nat → Int32)) (x1_tape : (Nat → Int32)) (x1_tapeSize : Int32) (x1_refused : (Nat → Int32)) (x1_lines : Int32) (x1_line : (Nat → Nat → Int32)) (x1_changes : (Nat → Int32)) (x1_coins : (Nat → Int32)) (x1_goods : Int32) (x1_good : (Nat → Nat → Int32)) (x1_works : Int32) (x1_work : (Nat → Nat → Int32)) (x1_years : Int32) (x1_gone : Int32) (x1_spent : Int32) (x1_at : Int32) (x1_token : Int32) (x1_from : Int32) (x1_figures : Int64) (x1_fault : Int32) (x1_numbers : (Nat → Int32)) (x1_statements : Int32) (x1_left : (Nat → Int32)) (x1_far : (Nat → Int32)) (x1_tons : Int32) (x1_way : (Nat → Int32)) (x1_steps : Int32) (x1_met : Int64) (x1_queue : (Nat → Int32)) (x1_totals : (Nat → Int32))  {out : Int32 × (Int32 × (Nat → Int32) × Int32 × (Nat → Nat → Int32) × (Nat → Int32) × (Nat → Int32) × Int32 × (Nat → Nat → Int32) × Int32 × (Nat → Nat → Int32) × Int32 × Int32 × Int32 × Int32 × Int32 × Int32 × Int64 × Int32 × (Nat → Int32) × Int32) × (Int32 × (Nat → Nat → Int32) × (Nat → Int32) × (Nat → Int32) × Int32 × (Nat → Nat → Int32) × Int32 × (Nat → Nat → Int32) × Int32 × Int32 × Int32)} (hf : fX7_land n (x0_shelf, x0_rowSort, x0_rowSize, x0_rows, x0_moved, x0_shown, x0_tape, x0_tapeSize, x0_refused, x0_lines, x0_line, x0_changes, x0_coins, x0_goods, x0_good, x0_works, x0_work, x0_years, x0_gone, x0_spent, x0_at, x0_token, x0_from, x0_figures, x0_fault, x0_numbers, x0_statements, x0_left, x0_far, x0_tons, x0_way, x0_steps, x0_met, x0_queue, x0_totals) (x1_shelf, x1_rowSort, x1_rowSize, x1_rows, x1_moved, x1_shown, x1_tape, x1_tapeSize, x1_refused, x1_lines, x1_line, x1_changes, x1_coins, x1_goods, x1_good, x1_works, x1_work, x1_years, x1_gone, x1_spent, x1_at, x1_token, x1_from, x1_figures, x1_fault, x1_numbers, x1_statements, x1_left, x1_far, x1_tons, x1_way, x1_steps, x1_met, x1_queue, x1_totals) = some out) : Ct l d yX7_land cX7_land 3 (some .int) { frames := 9, cells := 0, slots := 0, locals := 198 } [.ref (h0 0)] [gMd d h0 a0_kept (some (h1 0)) a0_chosen r0_rows r0_line r0_good r0_work x0_shelf x0_rowSort x0_rowSize x0_moved x0_shown x0_tape x0_tapeSize x0_refused x0_lines x0_changes x0_coins x0_goods x0_works x0_years x0_gone x0_spent x0_at x0_token x0_from x0_figures x0_fault x0_numbers x0_statements x0_left x0_far x0_tons x0_way x0_steps x0_met x0_queue x0_totals, gridI d r0_line 20 7 x0_line, gridI d r0_good 8 3 x0_good, gridI d r0_work 7 5 x0_work, gMd d h1 a1_kept a1_tried a1_chosen r1_rows r1_line r1_good r1_work x1_shelf x1_rowSort x1_rowSize x1_moved x1_shown x1_tape x1_tapeSize x1_refused x1_lines x1_changes x1_coins x1_goods x1_works x1_years x1_gone x1_spent x1_at x1_token x1_from x1_figures x1_fault x1_numbers x1_statements x1_left x1_far x1_tons x1_way x1_steps x1_met x1_queue x1_totals, gridI d r1_line 20 7 x1_line, gridI d r1_good 8 3 x1_good, gridI d r1_work 7 5 x1_work] (fun _ : Unit => (some (.int out.1), [gMd d h0 a0_kept (some (h1 0)) a0_chosen r0_rows r0_line r0_good r0_work x0_shelf x0_rowSort x0_rowSize x0_moved x0_shown x0_tape (out.2.1.1) (out.2.1.2.1) (out.2.1.2.2.1) (out.2.1.2.2.2.2.1) (out.2.1.2.2.2.2.2.1) (out.2.1.2.2.2.2.2.2.1) (out.2.1.2.2.2.2.2.2.2.2.1) (out.2.1.2.2.2.2.2.2.2.2.2.2.1) (out.2.1.2.2.2.2.2.2.2.2.2.2.2.1) (out.2.1.2.2.2.2.2.2.2.2.2.2.2.2.1) (out.2.1.2.2.2.2.2.2.2.2.2.2.2.2.2.1) (out.2.1.2.2.2.2.2.2.2.2.2.2.2.2.2.2.1) (out.2.1.2.2.2.2.2.2.2.2.2.2.2.2.2.2.2.1) (out.2.1.2.2.2.2.2.2.2.2.2.2.2.2.2.2.2.2.1) (out.2.1.2.2.2.2.2.2.2.2.2.2.2.2.2.2.2.2.2.1) (out.2.1.2.2.2.2.2.2.2.2.2.2.2.2.2.2.2.2.2.2.1) (out.2.1.2.2.2.2.2.2.2.2.2.2.2.2.2.2.2.2.2.2.2) x0_left x0_far x0_tons x0_way x0_steps x0_met x0_queue x0_totals, gridI d r0_line 20 7 (out.2.1.2.2.2.1), gridI d r0_good 8 3 (out.2.1.2.2.2.2.2.2.2.1), gridI d r0_work 7 5 (out.2.1.2.2.2.2.2.2.2.2.2.1), gMd d h1 a1_kept a1_tried a1_chosen r1_rows r1_line r1_good r1_work x1_shelf x1_rowSort x1_rowSize x1_moved x1_shown x1_tape x1_tapeSize x1_refused (out.2.2.1) (out.2.2.2.2.1) (out.2.2.2.2.2.1) (out.2.2.2.2.2.2.1) (out.2.2.2.2.2.2.2.2.1) (out.2.2.2.2.2.2.2.2.2.2.1) (out.2.2.2.2.2.2.2.2.2.2.2.1) (out.2.2.2.2.2.2.2.2.2.2.2.2) x1_at x1_token x1_from x1_figures x1_fault x1_numbers x1_statements x1_left x1_far x1_tons x1_way x1_steps x1_met x1_queue x1_totals, gridI d r1_line 20 7 (out.2.2.2.1), gridI d r1_good 8 3 (out.2.2.2.2.2.2.2.1), gridI d r1_work 7 5 (out.2.2.2.2.2.2.2.2.2.1)])) := by
  refine Ct.of (by decide) (Nat.le_of_ble_eq_true rfl) ?_
  intro Φ hl hK hR
  subst hl
  have hK : Ok d Φ RX7 "land" cX7_land 3 (some .int) { frames := 9, cells := 0, slots := 0, locals := 198 } := hK
  unfold fX7_land at hf
  have hf := un35 hf
  have hf := un35 hf
  show J d Φ 3 [gMd d h0 a0_kept (some (h1 0)) a0_chosen r0_rows r0_line r0_good r0_work x0_shelf x0_rowSort x0_rowSize x0_moved x0_shown x0_tape x0_tapeSize x0_refused x0_lines x0_changes x0_coins x0_goods x0_works x0_years x0_gone x0_spent x0_at x0_token x0_from x0_figures x0_fault x0_numbers x0_statements x0_left x0_far x0_tons x0_way x0_steps x0_met x0_queue x0_totals, gridI d r0_line 20 7 x0_line, gridI d r0_good 8 3 x0_good, gridI d r0_work 7 5 x0_work, gMd d h1 a1_kept a1_tried a1_chosen r1_rows r1_line r1_good r1_work x1_shelf x1_rowSort x1_rowSize x1_moved x1_shown x1_tape x1_tapeSize x1_refused x1_lines x1_changes x1_coins x1_goods x1_works x1_years x1_gone x1_spent x1_at x1_token x1_from x1_figures x1_fault x1_numbers x1_statements x1_left x1_far x1_tons x1_way x1_steps x1_met x1_queue x1_totals, gridI d r1_line 20 7 x1_line, gridI d r1_good 8 3 x1_good, gridI d r1_work 7 5 x1_work] 0 0 0 [(0, .ref (h0 0))] []
  refine J_aload_n hK dX7_land_0 rfl 0 rfl rfl ?_
  obtain ⟨⟨g2, g3, g4, g5, g6, g7, g8, g9, g10, g11, g12⟩, e13, hf⟩ := bs hf
  have hf := un11 hf
  refine J_callV (m' := 8) (ce' := 0) (sl' := 0) (gr := []) (gs' := fun _ => [gMd d h0 a0_kept (some (h1 0)) a0_chosen r0_rows r0_line r0_good r0_work x0_shelf x0_rowSort x0_rowSize x0_moved x0_shown x0_tape x0_tapeSize x0_refused x0_lines x0_changes x0_coins x0_goods x0_works x0_years x0_gone x0_spent x0_at x0_token x0_from x0_figures x0_fault x0_numbers x0_statements x0_left x0_far x0_tons x0_way x0_steps x0_met x0_queue x0_totals, gridI d r0_line 20 7 x0_line, gridI d r0_good 8 3 x0_good, gridI d r0_work 7 5 x0_work, gMd d h1 a1_kept a1_tried a1_chosen r1_rows r1_line r1_good r1_work x1_shelf x1_rowSort x1_rowSize x1_moved x1_shown x1_tape x1_tapeSize x1_refused g2 g4 g5 g6 g8 g10 g11 g12 x1_at x1_token x1_from x1_figures x1_fault x1_numbers x1_statements x1_left x1_far x1_tons x1_way x1_steps x1_met x1_queue x1_totals, gridI d r1_line 20 7 g3, gridI d r1_good 8 3 g7, gridI d r1_work 7 5 g9]) (st' := fun _ => [.ref (h1 0)]) (st := []) hK dX7_land_1 cv_RX7_238 iv_yX7_fresh (As := []) (kX7_fresh _ d h0 r0_rows r0_line r0_good r0_work a0_kept a0_chosen h1 r1_rows r1_line r1_good r1_work a1_kept a1_tried a1_chosen n x0_shelf x0_rowSort x0_rowSize x0_rows x0_moved x0_shown x0_tape x0_tapeSize x0_refused x0_lines x0_line x0_changes x0_coins x0_goods x0_good x0_works x0_work x0_years x0_gone x0_spent x0_at x0_token x0_from x0_figures x0_fault x0_numbers x0_statements x0_left x0_far x0_tons x0_way x0_steps x0_met x0_queue x0_totals x1_shelf x1_rowSort x1_rowSize x1_rows x1_moved x1_shown x1_tape x1_tapeSize x1_refused x1_lines x1_line x1_changes x1_coins x1_goods x1_good x1_works x1_work x1_years x1_gone x1_spent x1_at x1_token x1_from x1_figures x1_fault x1_numbers x1_statements x1_left x1_far x1_tons x1_way x1_steps x1_met x1_queue x1_totals e13) rfl rfl (Nat.le_of_ble_eq_true rfl) (by decide) 0 0 rfl rfl rfl [0, 1, 2, 3, 4, 5, 6, 7] [] rfl rfl rfl rfl [0, 1, 2, 3, 4, 5, 6, 7] rfl (fun _ => rfl) (fun _ => rfl) rfl rfl rfl (fun _ => rfl) (fun _ => ?_)
  refine J_astore_n (L' := [(1, .ref (h1 0)), (0, .ref (h0 0))]) hK dX7_land_4 rfl rfl (by decide) rfl ?_
  refine J_aload_n hK dX7_land_5 rfl 1 rfl rfl ?_
  obtain ⟨⟨v14, ⟨g16, g17, g18, g19, g20, g21, g22, g23, g24, g25, g26, g27, g28, g29, g30, g31⟩⟩, e32, hf⟩ := bs hf
  have hf := un2 hf
  have hf := un16 hf
  refine J_callV (m' := 8) (ce' := 0) (sl' := 0) (gr := [gMd d h1 a1_kept a1_tried a1_chosen r1_rows r1_line r1_good r1_work x1_shelf x1_rowSort x1_rowSize x1_moved x1_shown x1_tape x1_tapeSize x1_refused g2 g4 g5 g6 g8 g10 g11 g12 x1_at x1_token x1_from x1_figures x1_fault x1_numbers x1_statements x1_left x1_far x1_tons x1_way x1_steps x1_met x1_queue x1_totals, gridI d r1_line 20 7 g3, gridI d r1_good 8 3 g7, gridI d r1_work 7 5 g9]) (gs' := fun _ => [gMd d h0 a0_kept (some (h1 0)) a0_chosen r0_rows r0_line r0_good r0_work x0_shelf x0_rowSort x0_rowSize x0_moved x0_shown x0_tape x0_tapeSize x0_refused g16 g18 g19 g20 g22 g24 x0_gone x0_spent g25 g26 g27 g28 g29 g30 g31 x0_left x0_far x0_tons x0_way x0_steps x0_met x0_queue x0_totals, gridI d r0_line 20 7 g17, gridI d r0_good 8 3 g21, gridI d r0_work 7 5 g23, gMd d h1 a1_kept a1_tried a1_chosen r1_rows r1_line r1_good r1_work x1_shelf x1_rowSort x1_rowSize x1_moved x1_shown x1_tape x1_tapeSize x1_refused g2 g4 g5 g6 g8 g10 g11 g12 x1_at x1_token x1_from x1_figures x1_fault x1_numbers x1_statements x1_left x1_far x1_tons x1_way x1_steps x1_met x1_queue x1_totals, gridI d r1_line 20 7 g3, gridI d r1_good 8 3 g7, gridI d r1_work 7 5 g9]) (st' := fun _ => [.int v14]) (st := []) hK dX7_land_6 cv_RX7_242 iv_yX7_read (As := []) (kX7_read _ d h0 r0_rows r0_line r0_good r0_work a0_kept (some (h1 0)) a0_chosen n x0_shelf x0_rowSort x0_rowSize x0_rows x0_moved x0_shown x0_tape x0_tapeSize x0_refused x0_lines x0_line x0_changes x0_coins x0_goods x0_good x0_works x0_work x0_years x0_gone x0_spent x0_at x0_token x0_from x0_figures x0_fault x0_numbers x0_statements x0_left x0_far x0_tons x0_way x0_steps x0_met x0_queue x0_totals e32) rfl rfl (Nat.le_of_ble_eq_true rfl) (by decide) 0 0 rfl rfl rfl [0, 1, 2, 3] [4, 5, 6, 7] rfl rfl rfl rfl [4, 5, 6, 7, 0, 1, 2, 3] rfl (fun _ => rfl) (fun _ => rfl) rfl rfl rfl (fun _ => rfl) (fun _ => ?_)
  refine J_istore_n (L' := [(2, .int v14), (1, .ref (h1 0)), (0, .ref (h0 0))]) hK dX7_land_9 rfl rfl (by decide) rfl ?_
  refine J_aload_n hK dX7_land_10 rfl 2 rfl rfl ?_
  refine J_iconst (v := 0) hK dX7_land_11 rfl (by decide) ?_
  refine J_put (g' := gMd d h0 a0_kept (some (h1 0)) a0_chosen r0_rows r0_line r0_good r0_work x0_shelf x0_rowSort x0_rowSize x0_moved x0_shown x0_tape (0) x0_refused g16 g18 g19 g20 g22 g24 x0_gone x0_spent g25 g26 g27 g28 g29 g30 g31 x0_left x0_far x0_tons x0_way x0_steps x0_met x0_queue x0_totals) (gs' := [gMd d h0 a0_kept (some (h1 0)) a0_chosen r0_rows r0_line r0_good r0_work x0_shelf x0_rowSort x0_rowSize x0_moved x0_shown x0_tape (0) x0_refused g16 g18 g19 g20 g22 g24 x0_gone x0_spent g25 g26 g27 g28 g29 g30 g31 x0_left x0_far x0_tons x0_way x0_steps x0_met x0_queue x0_totals, gridI d r0_line 20 7 g17, gridI d r0_good 8 3 g21, gridI d r0_work 7 5 g23, gMd d h1 a1_kept a1_tried a1_chosen r1_rows r1_line r1_good r1_work x1_shelf x1_rowSort x1_rowSize x1_moved x1_shown x1_tape x1_tapeSize x1_refused g2 g4 g5 g6 g8 g10 g11 g12 x1_at x1_token x1_from x1_figures x1_fault x1_numbers x1_statements x1_left x1_far x1_tons x1_way x1_steps x1_met x1_queue x1_totals, gridI d r1_line 20 7 g3, gridI d r1_good 8 3 g7, gridI d r1_work 7 5 g9]) hK fp_RX7_146 dX7_land_12 rfl 0 0 rfl rfl rfl rfl (Nat.le_of_ble_eq_true rfl) rfl rfl ?_
  refine J_iload_n hK dX7_land_15 rfl 0 rfl rfl ?_
  refine J_if_ne (tg := 39) hK dX7_land_16 rfl rfl (fun hc16 => ?_) (fun hc16 => ?_)
  · have hf := iq hc16 hf
    refine J_aload_n hK dX7_land_39 rfl 2 rfl rfl ?_
    refine J_get hK fo_RX7_232 dX7_land_40 rfl 0 0 rfl rfl rfl ?_
    obtain rfl := Option.some.inj hf
    exact J_iret hK hR dX7_land_43 () rfl (by decide) (by decide)
  · have hf := ip hc16 hf
    refine J_aload_n hK dX7_land_19 rfl 2 rfl rfl ?_
    refine J_aload_n hK dX7_land_20 rfl 1 rfl rfl ?_
    obtain ⟨⟨g34, g35, g36, g37, g38, g39, g40, g41, g42, g43, g44⟩, e45, hf⟩ := bs hf
    have hf := un11 hf
    refine J_callV (m' := 8) (ce' := 0) (sl' := 0) (gr := []) (gs' := fun _ => [gMd d h0 a0_kept (some (h1 0)) a0_chosen r0_rows r0_line r0_good r0_work x0_shelf x0_rowSort x0_rowSize x0_moved x0_shown x0_tape (0) x0_refused g34 g36 g37 g38 g40 g42 g43 g44 g25 g26 g27 g28 g29 g30 g31 x0_left x0_far x0_tons x0_way x0_steps x0_met x0_queue x0_totals, gridI d r0_line 20 7 g35, gridI d r0_good 8 3 g39, gridI d r0_work 7 5 g41, gMd d h1 a1_kept a1_tried a1_chosen r1_rows r1_line r1_good r1_work x1_shelf x1_rowSort x1_rowSize x1_moved x1_shown x1_tape x1_tapeSize x1_refused g2 g4 g5 g6 g8 g10 g11 g12 x1_at x1_token x1_from x1_figures x1_fault x1_numbers x1_statements x1_left x1_far x1_tons x1_way x1_steps x1_met x1_queue x1_totals, gridI d r1_line 20 7 g3, gridI d r1_good 8 3 g7, gridI d r1_work 7 5 g9]) (st' := fun _ => []) (st := []) hK dX7_land_21 cv_RX7_245 iv_yX7_takeFrom (As := [.ref (h1 0)]) (kX7_takeFrom _ d h0 r0_rows r0_line r0_good r0_work a0_kept (some (h1 0)) a0_chosen h1 r1_rows r1_line r1_good r1_work a1_kept a1_tried a1_chosen n x0_shelf x0_rowSort x0_rowSize x0_rows x0_moved x0_shown x0_tape (0) x0_refused g16 g17 g18 g19 g20 g21 g22 g23 g24 x0_gone x0_spent g25 g26 g27 g28 g29 g30 g31 x0_left x0_far x0_tons x0_way x0_steps x0_met x0_queue x0_totals x1_shelf x1_rowSort x1_rowSize x1_rows x1_moved x1_shown x1_tape x1_tapeSize x1_refused g2 g3 g4 g5 g6 g7 g8 g9 g10 g11 g12 x1_at x1_token x1_from x1_figures x1_fault x1_numbers x1_statements x1_left x1_far x1_tons x1_way x1_steps x1_met x1_queue x1_totals e45) rfl rfl (Nat.le_of_ble_eq_true rfl) (by decide) 0 0 rfl rfl rfl [0, 1, 2, 3, 4, 5, 6, 7] [] rfl rfl rfl rfl [0, 1, 2, 3, 4, 5, 6, 7] rfl (fun _ => rfl) (fun _ => rfl) rfl rfl rfl (fun _ => rfl) (fun _ => ?_)
    refine J_aload_n hK dX7_land_24 rfl 2 rfl rfl ?_
    refine J_bipush (v := (-2)) hK dX7_land_25 rfl (by decide) ?_
    obtain ⟨⟨v46, g47⟩, e48, hf⟩ := bs hf
    have hf := un2 hf
    refine J_callV (m' := 8) (ce' := 0) (sl' := 0) (gr := [gridI d r0_line 20 7 g35, gridI d r0_good 8 3 g39, gridI d r0_work 7 5 g41, gMd d h1 a1_kept a1_tried a1_chosen r1_rows r1_line r1_good r1_work x1_shelf x1_rowSort x1_rowSize x1_moved x1_shown x1_tape x1_tapeSize x1_refused g2 g4 g5 g6 g8 g10 g11 g12 x1_at x1_token x1_from x1_figures x1_fault x1_numbers x1_statements x1_left x1_far x1_tons x1_way x1_steps x1_met x1_queue x1_totals, gridI d r1_line 20 7 g3, gridI d r1_good 8 3 g7, gridI d r1_work 7 5 g9]) (gs' := fun _ => [gMd d h0 a0_kept (some (h1 0)) a0_chosen r0_rows r0_line r0_good r0_work x0_shelf x0_rowSort x0_rowSize x0_moved x0_shown x0_tape (0) g47 g34 g36 g37 g38 g40 g42 g43 g44 g25 g26 g27 g28 g29 g30 g31 x0_left x0_far x0_tons x0_way x0_steps x0_met x0_queue x0_totals, gridI d r0_line 20 7 g35, gridI d r0_good 8 3 g39, gridI d r0_work 7 5 g41, gMd d h1 a1_kept a1_tried a1_chosen r1_rows r1_line r1_good r1_work x1_shelf x1_rowSort x1_rowSize x1_moved x1_shown x1_tape x1_tapeSize x1_refused g2 g4 g5 g6 g8 g10 g11 g12 x1_at x1_token x1_from x1_figures x1_fault x1_numbers x1_statements x1_left x1_far x1_tons x1_way x1_steps x1_met x1_queue x1_totals, gridI d r1_line 20 7 g3, gridI d r1_good 8 3 g7, gridI d r1_work 7 5 g9]) (st' := fun _ => [.int v46]) (st := []) hK dX7_land_27 cv_RX7_94 iv_yX7_refuse (As := [.int (-2)]) (kX7_refuse _ d h0 r0_rows r0_line r0_good r0_work a0_kept (some (h1 0)) a0_chosen x0_shelf x0_rowSort x0_rowSize x0_rows x0_moved x0_shown x0_tape (0) x0_refused g34 g35 g36 g37 g38 g39 g40 g41 g42 g43 g44 g25 g26 g27 g28 g29 g30 g31 x0_left x0_far x0_tons x0_way x0_steps x0_met x0_queue x0_totals (-2) e48) rfl rfl (Nat.le_of_ble_eq_true rfl) (by decide) 0 0 rfl rfl rfl [0] [1, 2, 3, 4, 5, 6, 7] rfl rfl rfl rfl [7, 0, 1, 2, 3, 4, 5, 6] rfl (fun _ => rfl) (fun _ => rfl) rfl rfl rfl (fun _ => rfl) (fun _ => ?_)
    refine J_pop hK dX7_land_30 rfl rfl ?_
    refine J_bipush (v := (-20)) hK dX7_land_31 rfl (by decide) ?_
    refine J_aload_n hK dX7_land_33 rfl 2 rfl rfl ?_
    refine J_get hK fo_RX7_174 dX7_land_34 rfl 0 0 rfl rfl rfl ?_
    refine J_isub hK dX7_land_37 rfl ?_
    obtain rfl := Option.some.inj hf
    exact J_iret hK hR dX7_land_38 () rfl (by decide) (by decide)

def fX7_lineOf (X0 : MdT) (p1 : Int32) (p2 : Int32) : Option (Int32 × (Nat → Int32)) :=
  u35 (fun (x0_shelf : (Nat → Int32)) (x0_rowSort : (Nat → Int32)) (x0_rowSize : (Nat → Int32)) (x0_rows : (Nat → Nat → Int64)) (x0_moved : (Nat → Int64)) (x0_shown : (Nat → Int32)) (x0_tape : (Nat → Int32)) (x0_tapeSize : Int32) (x0_refused : (Nat → Int32)) (x0_lines : Int32) (x0_line : (Nat → Nat → Int32)) (x0_changes : (Nat → Int32)) (x0_coins : (Nat → Int32)) (x0_goods : Int32) (x0_good : (Nat → Nat → Int32)) (x0_works : Int32) (x0_work : (Nat → Nat → Int32)) (x0_years : Int32) (x0_gone : Int32) (x0_spent : Int32) (x0_at : Int32) (x0_token : Int32) (x0_from : Int32) (x0_figures : Int64) (x0_fault : Int32) (x0_numbers : (Nat → Int32)) (x0_statements : Int32) (x0_left : (Nat → Int32)) (x0_far : (Nat → Int32)) (x0_tons : Int32) (x0_way : (Nat → Int32)) (x0_steps : Int32) (x0_met : Int64) (x0_queue : (Nat → Int32)) (x0_totals : (Nat → Int32)) => (fX7_isLine (x0_shelf, x0_rowSort, x0_rowSize, x0_rows, x0_moved, x0_shown, x0_tape, x0_tapeSize, x0_refused, x0_lines, x0_line, x0_changes, x0_coins, x0_goods, x0_good, x0_works, x0_work, x0_years, x0_gone, x0_spent, x0_at, x0_token, x0_from, x0_figures, x0_fault, x0_numbers, x0_statements, x0_left, x0_far, x0_tons, x0_way, x0_steps, x0_met, x0_queue, x0_totals) p1).bind (fun v1 => if v1 = 0 then ((fX7_refuse (x0_shelf, x0_rowSort, x0_rowSize, x0_rows, x0_moved, x0_shown, x0_tape, x0_tapeSize, x0_refused, x0_lines, x0_line, x0_changes, x0_coins, x0_goods, x0_good, x0_works, x0_work, x0_years, x0_gone, x0_spent, x0_at, x0_token, x0_from, x0_figures, x0_fault, x0_numbers, x0_statements, x0_left, x0_far, x0_tons, x0_way, x0_steps, x0_met, x0_queue, x0_totals) (-2)).bind (u2 fun v3 g4 => some (v3, g4))) else ((fX7_in ((p2).toInt64) (0 : Int64) (6 : Int64)).bind (fun v6 => if v6 = 0 then ((fX7_refuse (x0_shelf, x0_rowSort, x0_rowSize, x0_rows, x0_moved, x0_shown, x0_tape, x0_tapeSize, x0_refused, x0_lines, x0_line, x0_changes, x0_coins, x0_goods, x0_good, x0_works, x0_work, x0_years, x0_gone, x0_spent, x0_at, x0_token, x0_from, x0_figures, x0_fault, x0_numbers, x0_statements, x0_left, x0_far, x0_tons, x0_way, x0_steps, x0_met, x0_queue, x0_totals) (-2)).bind (u2 fun v8 g9 => some (v8, g9))) else ((ck p1 20).bind fun q11 => (rd 7 (x0_line q11) p2).bind fun v12 => some (v12, x0_refused)))))) X0
set_option maxHeartbeats 4000000 in
set_option maxRecDepth 100000 in
theorem kX7_lineOf (l : Launch) (d : DT) (h0 : Nat → Nat) (r0_rows : Nat → Nat) (r0_line : Nat → Nat) (r0_good : Nat → Nat) (r0_work : Nat → Nat) (a0_kept : Option Nat) (a0_tried : Option Nat) (a0_chosen : Option Nat) (x0_shelf : (Nat → Int32)) (x0_rowSort : (Nat → Int32)) (x0_rowSize : (Nat → Int32)) (x0_rows : (Nat → Nat → Int64)) (x0_moved : (Nat → Int64)) (x0_shown : (Nat → Int32)) (x0_tape : (Nat → Int32)) (x0_tapeSize : Int32) (x0_refused : (Nat → Int32)) (x0_lines : Int32) (x0_line : (Nat → Nat → Int32)) (x0_changes : (Nat → Int32)) (x0_coins : (Nat → Int32)) (x0_goods : Int32) (x0_good : (Nat → Nat → Int32)) (x0_works : Int32) (x0_work : (Nat → Nat → Int32)) (x0_years : Int32) (x0_gone : Int32) (x0_spent : Int32) (x0_at : Int32) (x0_token : Int32) (x0_from : Int32) (x0_figures : Int64) (x0_fault : Int32) (x0_numbers : (Nat → Int32)) (x0_statements : Int32) (x0_left : (Nat → Int32)) (x0_far : (Nat → Int32)) (x0_tons : Int32) (x0_way : (Nat → Int32)) (x0_steps : Int32) (x0_met : Int64) (x0_queue : (Nat → Int32)) (x0_totals : (Nat → Int32)) (p1 : Int32) (p2 : Int32)  {out : Int32 × (Nat → Int32)} (hf : fX7_lineOf (x0_shelf, x0_rowSort, x0_rowSize, x0_rows, x0_moved, x0_shown, x0_tape, x0_tapeSize, x0_refused, x0_lines, x0_line, x0_changes, x0_coins, x0_goods, x0_good, x0_works, x0_work, x0_years, x0_gone, x0_spent, x0_at, x0_token, x0_from, x0_figures, x0_fault, x0_numbers, x0_statements, x0_left, x0_far, x0_tons, x0_way, x0_steps, x0_met, x0_queue, x0_totals) p1 p2 = some out) : Ct l d yX7_lineOf cX7_lineOf 3 (some .int) { frames := 2, cells := 0, slots := 0, locals := 46 } [.ref (h0 0), .int p1, .int p2] [gMd d h0 a0_kept a0_tried a0_chosen r0_rows r0_line r0_good r0_work x0_shelf x0_rowSort x0_rowSize x0_moved x0_shown x0_tape x0_tapeSize x0_refused x0_lines x0_changes x0_coins x0_goods x0_works x0_years x0_gone x0_spent x0_at x0_token x0_from x0_figures x0_fault x0_numbers x0_statements x0_left x0_far x0_tons x0_way x0_steps x0_met x0_queue x0_totals, gridI d r0_line 20 7 x0_line] (fun _ : Unit => (some (.int out.1), [gMd d h0 a0_kept a0_tried a0_chosen r0_rows r0_line r0_good r0_work x0_shelf x0_rowSort x0_rowSize x0_moved x0_shown x0_tape x0_tapeSize (out.2) x0_lines x0_changes x0_coins x0_goods x0_works x0_years x0_gone x0_spent x0_at x0_token x0_from x0_figures x0_fault x0_numbers x0_statements x0_left x0_far x0_tons x0_way x0_steps x0_met x0_queue x0_totals, gridI d r0_line 20 7 x0_line])) := by
  refine Ct.of (by decide) (Nat.le_of_ble_eq_true rfl) ?_
  intro Φ hl hK hR
  subst hl
  have hK : Ok d Φ RX7 "lineOf" cX7_lineOf 3 (some .int) { frames := 2, cells := 0, slots := 0, locals := 46 } := hK
  unfold fX7_lineOf at hf
  have hf := un35 hf
  show J d Φ 3 [gMd d h0 a0_kept a0_tried a0_chosen r0_rows r0_line r0_good r0_work x0_shelf x0_rowSort x0_rowSize x0_moved x0_shown x0_tape x0_tapeSize x0_refused x0_lines x0_changes x0_coins x0_goods x0_works x0_years x0_gone x0_spent x0_at x0_token x0_from x0_figures x0_fault x0_numbers x0_statements x0_left x0_far x0_tons x0_way x0_steps x0_met x0_queue x0_totals, gridI d r0_line 20 7 x0_line] 0 0 0 [(0, .ref (h0 0)), (1, .int p1), (2, .int p2)] []
  refine J_aload_n hK dX7_lineOf_0 rfl 0 rfl rfl ?_
  refine J_iload_n hK dX7_lineOf_1 rfl 1 rfl rfl ?_
  obtain ⟨v1, e2, hf⟩ := bs hf
  refine J_callV (m' := 2) (ce' := 0) (sl' := 0) (gr := [gridI d r0_line 20 7 x0_line]) (gs' := fun _ => [gMd d h0 a0_kept a0_tried a0_chosen r0_rows r0_line r0_good r0_work x0_shelf x0_rowSort x0_rowSize x0_moved x0_shown x0_tape x0_tapeSize x0_refused x0_lines x0_changes x0_coins x0_goods x0_works x0_years x0_gone x0_spent x0_at x0_token x0_from x0_figures x0_fault x0_numbers x0_statements x0_left x0_far x0_tons x0_way x0_steps x0_met x0_queue x0_totals, gridI d r0_line 20 7 x0_line]) (st' := fun _ => [.int v1]) (st := []) hK dX7_lineOf_2 cv_RX7_128 iv_yX7_isLine (As := [.int p1]) (kX7_isLine _ d h0 r0_rows r0_line r0_good r0_work a0_kept a0_tried a0_chosen x0_shelf x0_rowSort x0_rowSize x0_rows x0_moved x0_shown x0_tape x0_tapeSize x0_refused x0_lines x0_line x0_changes x0_coins x0_goods x0_good x0_works x0_work x0_years x0_gone x0_spent x0_at x0_token x0_from x0_figures x0_fault x0_numbers x0_statements x0_left x0_far x0_tons x0_way x0_steps x0_met x0_queue x0_totals p1 e2) rfl rfl (Nat.le_of_ble_eq_true rfl) (by decide) 0 0 rfl rfl rfl [0] [1] rfl rfl rfl rfl [1, 0] rfl (fun _ => rfl) (fun _ => rfl) rfl rfl rfl (fun _ => rfl) (fun _ => ?_)
  refine J_if_eq (tg := 31) hK dX7_lineOf_5 rfl rfl (fun hc5 => ?_) (fun hc5 => ?_)
  · have hf := ip hc5 hf
    refine J_aload_n hK dX7_lineOf_31 rfl 0 rfl rfl ?_
    refine J_bipush (v := (-2)) hK dX7_lineOf_32 rfl (by decide) ?_
    obtain ⟨⟨v3, g4⟩, e5, hf⟩ := bs hf
    have hf := un2 hf
    refine J_callV (m' := 2) (ce' := 0) (sl' := 0) (gr := [gridI d r0_line 20 7 x0_line]) (gs' := fun _ => [gMd d h0 a0_kept a0_tried a0_chosen r0_rows r0_line r0_good r0_work x0_shelf x0_rowSort x0_rowSize x0_moved x0_shown x0_tape x0_tapeSize g4 x0_lines x0_changes x0_coins x0_goods x0_works x0_years x0_gone x0_spent x0_at x0_token x0_from x0_figures x0_fault x0_numbers x0_statements x0_left x0_far x0_tons x0_way x0_steps x0_met x0_queue x0_totals, gridI d r0_line 20 7 x0_line]) (st' := fun _ => [.int v3]) (st := []) hK dX7_lineOf_34 cv_RX7_94 iv_yX7_refuse (As := [.int (-2)]) (kX7_refuse _ d h0 r0_rows r0_line r0_good r0_work a0_kept a0_tried a0_chosen x0_shelf x0_rowSort x0_rowSize x0_rows x0_moved x0_shown x0_tape x0_tapeSize x0_refused x0_lines x0_line x0_changes x0_coins x0_goods x0_good x0_works x0_work x0_years x0_gone x0_spent x0_at x0_token x0_from x0_figures x0_fault x0_numbers x0_statements x0_left x0_far x0_tons x0_way x0_steps x0_met x0_queue x0_totals (-2) e5) rfl rfl (Nat.le_of_ble_eq_true rfl) (by decide) 0 0 rfl rfl rfl [0] [1] rfl rfl rfl rfl [1, 0] rfl (fun _ => rfl) (fun _ => rfl) rfl rfl rfl (fun _ => rfl) (fun _ => ?_)
    obtain rfl := Option.some.inj hf
    exact J_iret hK hR dX7_lineOf_37 () rfl (by decide) (by decide)
  · have hf := iq hc5 hf
    refine J_iload_n hK dX7_lineOf_8 rfl 2 rfl rfl ?_
    refine J_i2l hK dX7_lineOf_9 rfl ?_
    refine J_lconst (v := 0) hK dX7_lineOf_10 rfl (by decide) ?_
    refine J_ldc2 (v := (6 : Int64)) hK dX7_lineOf_11 rfl wk_RX7_249 ?_
    obtain ⟨v6, e7, hf⟩ := bs hf
    refine J_callS (m' := 2) (ce' := 0) (sl' := 0) (gr := [gMd d h0 a0_kept a0_tried a0_chosen r0_rows r0_line r0_good r0_work x0_shelf x0_rowSort x0_rowSize x0_moved x0_shown x0_tape x0_tapeSize x0_refused x0_lines x0_changes x0_coins x0_goods x0_works x0_years x0_gone x0_spent x0_at x0_token x0_from x0_figures x0_fault x0_numbers x0_statements x0_left x0_far x0_tons x0_way x0_steps x0_met x0_queue x0_totals, gridI d r0_line 20 7 x0_line]) (gs' := fun _ => [gMd d h0 a0_kept a0_tried a0_chosen r0_rows r0_line r0_good r0_work x0_shelf x0_rowSort x0_rowSize x0_moved x0_shown x0_tape x0_tapeSize x0_refused x0_lines x0_changes x0_coins x0_goods x0_works x0_years x0_gone x0_spent x0_at x0_token x0_from x0_figures x0_fault x0_numbers x0_statements x0_left x0_far x0_tons x0_way x0_steps x0_met x0_queue x0_totals, gridI d r0_line 20 7 x0_line]) (st' := fun _ => [.int v6]) (st := []) hK dX7_lineOf_14 cv_RX7_78 ws_yX7_in (As := [.long ((p2).toInt64), .long (0 : Int64), .long (6 : Int64)]) (kX7_in _ d ((p2).toInt64) (0 : Int64) (6 : Int64) e7) rfl rfl (Nat.le_of_ble_eq_true rfl) (by decide) [] [0, 1] rfl rfl rfl rfl [0, 1] rfl (fun _ => rfl) (fun _ => rfl) rfl rfl rfl (fun _ => rfl) (fun _ => ?_)
    refine J_if_eq (tg := 31) hK dX7_lineOf_17 rfl rfl (fun hc17 => ?_) (fun hc17 => ?_)
    · have hf := ip hc17 hf
      refine J_aload_n hK dX7_lineOf_31 rfl 0 rfl rfl ?_
      refine J_bipush (v := (-2)) hK dX7_lineOf_32 rfl (by decide) ?_
      obtain ⟨⟨v8, g9⟩, e10, hf⟩ := bs hf
      have hf := un2 hf
      refine J_callV (m' := 2) (ce' := 0) (sl' := 0) (gr := [gridI d r0_line 20 7 x0_line]) (gs' := fun _ => [gMd d h0 a0_kept a0_tried a0_chosen r0_rows r0_line r0_good r0_work x0_shelf x0_rowSort x0_rowSize x0_moved x0_shown x0_tape x0_tapeSize g9 x0_lines x0_changes x0_coins x0_goods x0_works x0_years x0_gone x0_spent x0_at x0_token x0_from x0_figures x0_fault x0_numbers x0_statements x0_left x0_far x0_tons x0_way x0_steps x0_met x0_queue x0_totals, gridI d r0_line 20 7 x0_line]) (st' := fun _ => [.int v8]) (st := []) hK dX7_lineOf_34 cv_RX7_94 iv_yX7_refuse (As := [.int (-2)]) (kX7_refuse _ d h0 r0_rows r0_line r0_good r0_work a0_kept a0_tried a0_chosen x0_shelf x0_rowSort x0_rowSize x0_rows x0_moved x0_shown x0_tape x0_tapeSize x0_refused x0_lines x0_line x0_changes x0_coins x0_goods x0_good x0_works x0_work x0_years x0_gone x0_spent x0_at x0_token x0_from x0_figures x0_fault x0_numbers x0_statements x0_left x0_far x0_tons x0_way x0_steps x0_met x0_queue x0_totals (-2) e10) rfl rfl (Nat.le_of_ble_eq_true rfl) (by decide) 0 0 rfl rfl rfl [0] [1] rfl rfl rfl rfl [1, 0] rfl (fun _ => rfl) (fun _ => rfl) rfl rfl rfl (fun _ => rfl) (fun _ => ?_)
      obtain rfl := Option.some.inj hf
      exact J_iret hK hR dX7_lineOf_37 () rfl (by decide) (by decide)
    · have hf := iq hc17 hf
      refine J_aload_n hK dX7_lineOf_20 rfl 0 rfl rfl ?_
      refine J_get hK fo_RX7_39 dX7_lineOf_21 rfl 0 0 rfl rfl rfl ?_
      refine J_iload_n hK dX7_lineOf_24 rfl 1 rfl rfl ?_
      obtain ⟨q11, eq11, hf⟩ := bs hf
      refine J_aald hK dX7_lineOf_25 rfl 0 9 rfl rfl rfl eq11 ?_
      refine J_iload_n hK dX7_lineOf_26 rfl 2 rfl rfl ?_
      obtain ⟨v12, ev12, hf⟩ := bs hf
      refine J_iald hK dX7_lineOf_27 rfl 1 q11 rfl (gridI_at (ck_ok eq11).2.2) ev12 ?_
      refine J_goto hK dX7_lineOf_28 (n := 37) rfl ?_
      obtain rfl := Option.some.inj hf
      exact J_iret hK hR dX7_lineOf_37 () rfl (by decide) (by decide)

def fX7_goodsOf (X0 : MdT) (p1 : Int32) (p2 : Int32) : Option (Int32 × (Nat → Int32)) :=
  u35 (fun (x0_shelf : (Nat → Int32)) (x0_rowSort : (Nat → Int32)) (x0_rowSize : (Nat → Int32)) (x0_rows : (Nat → Nat → Int64)) (x0_moved : (Nat → Int64)) (x0_shown : (Nat → Int32)) (x0_tape : (Nat → Int32)) (x0_tapeSize : Int32) (x0_refused : (Nat → Int32)) (x0_lines : Int32) (x0_line : (Nat → Nat → Int32)) (x0_changes : (Nat → Int32)) (x0_coins : (Nat → Int32)) (x0_goods : Int32) (x0_good : (Nat → Nat → Int32)) (x0_works : Int32) (x0_work : (Nat → Nat → Int32)) (x0_years : Int32) (x0_gone : Int32) (x0_spent : Int32) (x0_at : Int32) (x0_token : Int32) (x0_from : Int32) (x0_figures : Int64) (x0_fault : Int32) (x0_numbers : (Nat → Int32)) (x0_statements : Int32) (x0_left : (Nat → Int32)) (x0_far : (Nat → Int32)) (x0_tons : Int32) (x0_way : (Nat → Int32)) (x0_steps : Int32) (x0_met : Int64) (x0_queue : (Nat → Int32)) (x0_totals : (Nat → Int32)) => (fX7_in ((p1).toInt64) (0 : Int64) (((x0_goods - 1)).toInt64)).bind (fun v1 => if v1 = 0 then ((fX7_refuse (x0_shelf, x0_rowSort, x0_rowSize, x0_rows, x0_moved, x0_shown, x0_tape, x0_tapeSize, x0_refused, x0_lines, x0_line, x0_changes, x0_coins, x0_goods, x0_good, x0_works, x0_work, x0_years, x0_gone, x0_spent, x0_at, x0_token, x0_from, x0_figures, x0_fault, x0_numbers, x0_statements, x0_left, x0_far, x0_tons, x0_way, x0_steps, x0_met, x0_queue, x0_totals) (-2)).bind (u2 fun v3 g4 => some (v3, g4))) else ((fX7_in ((p2).toInt64) (0 : Int64) (2 : Int64)).bind (fun v6 => if v6 = 0 then ((fX7_refuse (x0_shelf, x0_rowSort, x0_rowSize, x0_rows, x0_moved, x0_shown, x0_tape, x0_tapeSize, x0_refused, x0_lines, x0_line, x0_changes, x0_coins, x0_goods, x0_good, x0_works, x0_work, x0_years, x0_gone, x0_spent, x0_at, x0_token, x0_from, x0_figures, x0_fault, x0_numbers, x0_statements, x0_left, x0_far, x0_tons, x0_way, x0_steps, x0_met, x0_queue, x0_totals) (-2)).bind (u2 fun v8 g9 => some (v8, g9))) else ((ck p1 8).bind fun q11 => (rd 3 (x0_good q11) p2).bind fun v12 => some (v12, x0_refused)))))) X0
set_option maxHeartbeats 4000000 in
set_option maxRecDepth 100000 in
theorem kX7_goodsOf (l : Launch) (d : DT) (h0 : Nat → Nat) (r0_rows : Nat → Nat) (r0_line : Nat → Nat) (r0_good : Nat → Nat) (r0_work : Nat → Nat) (a0_kept : Option Nat) (a0_tried : Option Nat) (a0_chosen : Option Nat) (x0_shelf : (Nat → Int32)) (x0_rowSort : (Nat → Int32)) (x0_rowSize : (Nat → Int32)) (x0_rows : (Nat → Nat → Int64)) (x0_moved : (Nat → Int64)) (x0_shown : (Nat → Int32)) (x0_tape : (Nat → Int32)) (x0_tapeSize : Int32) (x0_refused : (Nat → Int32)) (x0_lines : Int32) (x0_line : (Nat → Nat → Int32)) (x0_changes : (Nat → Int32)) (x0_coins : (Nat → Int32)) (x0_goods : Int32) (x0_good : (Nat → Nat → Int32)) (x0_works : Int32) (x0_work : (Nat → Nat → Int32)) (x0_years : Int32) (x0_gone : Int32) (x0_spent : Int32) (x0_at : Int32) (x0_token : Int32) (x0_from : Int32) (x0_figures : Int64) (x0_fault : Int32) (x0_numbers : (Nat → Int32)) (x0_statements : Int32) (x0_left : (Nat → Int32)) (x0_far : (Nat → Int32)) (x0_tons : Int32) (x0_way : (Nat → Int32)) (x0_steps : Int32) (x0_met : Int64) (x0_queue : (Nat → Int32)) (x0_totals : (Nat → Int32)) (p1 : Int32) (p2 : Int32)  {out : Int32 × (Nat → Int32)} (hf : fX7_goodsOf (x0_shelf, x0_rowSort, x0_rowSize, x0_rows, x0_moved, x0_shown, x0_tape, x0_tapeSize, x0_refused, x0_lines, x0_line, x0_changes, x0_coins, x0_goods, x0_good, x0_works, x0_work, x0_years, x0_gone, x0_spent, x0_at, x0_token, x0_from, x0_figures, x0_fault, x0_numbers, x0_statements, x0_left, x0_far, x0_tons, x0_way, x0_steps, x0_met, x0_queue, x0_totals) p1 p2 = some out) : Ct l d yX7_goodsOf cX7_goodsOf 3 (some .int) { frames := 1, cells := 0, slots := 0, locals := 25 } [.ref (h0 0), .int p1, .int p2] [gMd d h0 a0_kept a0_tried a0_chosen r0_rows r0_line r0_good r0_work x0_shelf x0_rowSort x0_rowSize x0_moved x0_shown x0_tape x0_tapeSize x0_refused x0_lines x0_changes x0_coins x0_goods x0_works x0_years x0_gone x0_spent x0_at x0_token x0_from x0_figures x0_fault x0_numbers x0_statements x0_left x0_far x0_tons x0_way x0_steps x0_met x0_queue x0_totals, gridI d r0_good 8 3 x0_good] (fun _ : Unit => (some (.int out.1), [gMd d h0 a0_kept a0_tried a0_chosen r0_rows r0_line r0_good r0_work x0_shelf x0_rowSort x0_rowSize x0_moved x0_shown x0_tape x0_tapeSize (out.2) x0_lines x0_changes x0_coins x0_goods x0_works x0_years x0_gone x0_spent x0_at x0_token x0_from x0_figures x0_fault x0_numbers x0_statements x0_left x0_far x0_tons x0_way x0_steps x0_met x0_queue x0_totals, gridI d r0_good 8 3 x0_good])) := by
  refine Ct.of (by decide) (Nat.le_of_ble_eq_true rfl) ?_
  intro Φ hl hK hR
  subst hl
  have hK : Ok d Φ RX7 "goodsOf" cX7_goodsOf 3 (some .int) { frames := 1, cells := 0, slots := 0, locals := 25 } := hK
  unfold fX7_goodsOf at hf
  have hf := un35 hf
  show J d Φ 3 [gMd d h0 a0_kept a0_tried a0_chosen r0_rows r0_line r0_good r0_work x0_shelf x0_rowSort x0_rowSize x0_moved x0_shown x0_tape x0_tapeSize x0_refused x0_lines x0_changes x0_coins x0_goods x0_works x0_years x0_gone x0_spent x0_at x0_token x0_from x0_figures x0_fault x0_numbers x0_statements x0_left x0_far x0_tons x0_way x0_steps x0_met x0_queue x0_totals, gridI d r0_good 8 3 x0_good] 0 0 0 [(0, .ref (h0 0)), (1, .int p1), (2, .int p2)] []
  refine J_iload_n hK dX7_goodsOf_0 rfl 1 rfl rfl ?_
  refine J_i2l hK dX7_goodsOf_1 rfl ?_
  refine J_lconst (v := 0) hK dX7_goodsOf_2 rfl (by decide) ?_
  refine J_aload_n hK dX7_goodsOf_3 rfl 0 rfl rfl ?_
  refine J_get hK fo_RX7_125 dX7_goodsOf_4 rfl 0 0 rfl rfl rfl ?_
  refine J_iconst (v := 1) hK dX7_goodsOf_7 rfl (by decide) ?_
  refine J_isub hK dX7_goodsOf_8 rfl ?_
  refine J_i2l hK dX7_goodsOf_9 rfl ?_
  obtain ⟨v1, e2, hf⟩ := bs hf
  refine J_callS (m' := 2) (ce' := 0) (sl' := 0) (gr := [gMd d h0 a0_kept a0_tried a0_chosen r0_rows r0_line r0_good r0_work x0_shelf x0_rowSort x0_rowSize x0_moved x0_shown x0_tape x0_tapeSize x0_refused x0_lines x0_changes x0_coins x0_goods x0_works x0_years x0_gone x0_spent x0_at x0_token x0_from x0_figures x0_fault x0_numbers x0_statements x0_left x0_far x0_tons x0_way x0_steps x0_met x0_queue x0_totals, gridI d r0_good 8 3 x0_good]) (gs' := fun _ => [gMd d h0 a0_kept a0_tried a0_chosen r0_rows r0_line r0_good r0_work x0_shelf x0_rowSort x0_rowSize x0_moved x0_shown x0_tape x0_tapeSize x0_refused x0_lines x0_changes x0_coins x0_goods x0_works x0_years x0_gone x0_spent x0_at x0_token x0_from x0_figures x0_fault x0_numbers x0_statements x0_left x0_far x0_tons x0_way x0_steps x0_met x0_queue x0_totals, gridI d r0_good 8 3 x0_good]) (st' := fun _ => [.int v1]) (st := []) hK dX7_goodsOf_10 cv_RX7_78 ws_yX7_in (As := [.long ((p1).toInt64), .long (0 : Int64), .long (((x0_goods - 1)).toInt64)]) (kX7_in _ d ((p1).toInt64) (0 : Int64) (((x0_goods - 1)).toInt64) e2) rfl rfl (Nat.le_of_ble_eq_true rfl) (by decide) [] [0, 1] rfl rfl rfl rfl [0, 1] rfl (fun _ => rfl) (fun _ => rfl) rfl rfl rfl (fun _ => rfl) (fun _ => ?_)
  refine J_if_eq (tg := 39) hK dX7_goodsOf_13 rfl rfl (fun hc13 => ?_) (fun hc13 => ?_)
  · have hf := ip hc13 hf
    refine J_aload_n hK dX7_goodsOf_39 rfl 0 rfl rfl ?_
    refine J_bipush (v := (-2)) hK dX7_goodsOf_40 rfl (by decide) ?_
    obtain ⟨⟨v3, g4⟩, e5, hf⟩ := bs hf
    have hf := un2 hf
    refine J_callV (m' := 2) (ce' := 0) (sl' := 0) (gr := [gridI d r0_good 8 3 x0_good]) (gs' := fun _ => [gMd d h0 a0_kept a0_tried a0_chosen r0_rows r0_line r0_good r0_work x0_shelf x0_rowSort x0_rowSize x0_moved x0_shown x0_tape x0_tapeSize g4 x0_lines x0_changes x0_coins x0_goods x0_works x0_years x0_gone x0_spent x0_at x0_token x0_from x0_figures x0_fault x0_numbers x0_statements x0_left x0_far x0_tons x0_way x0_steps x0_met x0_queue x0_totals, gridI d r0_good 8 3 x0_good]) (st' := fun _ => [.int v3]) (st := []) hK dX7_goodsOf_42 cv_RX7_94 iv_yX7_refuse (As := [.int (-2)]) (kX7_refuse _ d h0 r0_rows r0_line r0_good r0_work a0_kept a0_tried a0_chosen x0_shelf x0_rowSort x0_rowSize x0_rows x0_moved x0_shown x0_tape x0_tapeSize x0_refused x0_lines x0_line x0_changes x0_coins x0_goods x0_good x0_works x0_work x0_years x0_gone x0_spent x0_at x0_token x0_from x0_figures x0_fault x0_numbers x0_statements x0_left x0_far x0_tons x0_way x0_steps x0_met x0_queue x0_totals (-2) e5) rfl rfl (Nat.le_of_ble_eq_true rfl) (by decide) 0 0 rfl rfl rfl [0] [1] rfl rfl rfl rfl [1, 0] rfl (fun _ => rfl) (fun _ => rfl) rfl rfl rfl (fun _ => rfl) (fun _ => ?_)
    obtain rfl := Option.some.inj hf
    exact J_iret hK hR dX7_goodsOf_45 () rfl (by decide) (by decide)
  · have hf := iq hc13 hf
    refine J_iload_n hK dX7_goodsOf_16 rfl 2 rfl rfl ?_
    refine J_i2l hK dX7_goodsOf_17 rfl ?_
    refine J_lconst (v := 0) hK dX7_goodsOf_18 rfl (by decide) ?_
    refine J_ldc2 (v := (2 : Int64)) hK dX7_goodsOf_19 rfl wk_RX7_131 ?_
    obtain ⟨v6, e7, hf⟩ := bs hf
    refine J_callS (m' := 2) (ce' := 0) (sl' := 0) (gr := [gMd d h0 a0_kept a0_tried a0_chosen r0_rows r0_line r0_good r0_work x0_shelf x0_rowSort x0_rowSize x0_moved x0_shown x0_tape x0_tapeSize x0_refused x0_lines x0_changes x0_coins x0_goods x0_works x0_years x0_gone x0_spent x0_at x0_token x0_from x0_figures x0_fault x0_numbers x0_statements x0_left x0_far x0_tons x0_way x0_steps x0_met x0_queue x0_totals, gridI d r0_good 8 3 x0_good]) (gs' := fun _ => [gMd d h0 a0_kept a0_tried a0_chosen r0_rows r0_line r0_good r0_work x0_shelf x0_rowSort x0_rowSize x0_moved x0_shown x0_tape x0_tapeSize x0_refused x0_lines x0_changes x0_coins x0_goods x0_works x0_years x0_gone x0_spent x0_at x0_token x0_from x0_figures x0_fault x0_numbers x0_statements x0_left x0_far x0_tons x0_way x0_steps x0_met x0_queue x0_totals, gridI d r0_good 8 3 x0_good]) (st' := fun _ => [.int v6]) (st := []) hK dX7_goodsOf_22 cv_RX7_78 ws_yX7_in (As := [.long ((p2).toInt64), .long (0 : Int64), .long (2 : Int64)]) (kX7_in _ d ((p2).toInt64) (0 : Int64) (2 : Int64) e7) rfl rfl (Nat.le_of_ble_eq_true rfl) (by decide) [] [0, 1] rfl rfl rfl rfl [0, 1] rfl (fun _ => rfl) (fun _ => rfl) rfl rfl rfl (fun _ => rfl) (fun _ => ?_)
    refine J_if_eq (tg := 39) hK dX7_goodsOf_25 rfl rfl (fun hc25 => ?_) (fun hc25 => ?_)
    · have hf := ip hc25 hf
      refine J_aload_n hK dX7_goodsOf_39 rfl 0 rfl rfl ?_
      refine J_bipush (v := (-2)) hK dX7_goodsOf_40 rfl (by decide) ?_
      obtain ⟨⟨v8, g9⟩, e10, hf⟩ := bs hf
      have hf := un2 hf
      refine J_callV (m' := 2) (ce' := 0) (sl' := 0) (gr := [gridI d r0_good 8 3 x0_good]) (gs' := fun _ => [gMd d h0 a0_kept a0_tried a0_chosen r0_rows r0_line r0_good r0_work x0_shelf x0_rowSort x0_rowSize x0_moved x0_shown x0_tape x0_tapeSize g9 x0_lines x0_changes x0_coins x0_goods x0_works x0_years x0_gone x0_spent x0_at x0_token x0_from x0_figures x0_fault x0_numbers x0_statements x0_left x0_far x0_tons x0_way x0_steps x0_met x0_queue x0_totals, gridI d r0_good 8 3 x0_good]) (st' := fun _ => [.int v8]) (st := []) hK dX7_goodsOf_42 cv_RX7_94 iv_yX7_refuse (As := [.int (-2)]) (kX7_refuse _ d h0 r0_rows r0_line r0_good r0_work a0_kept a0_tried a0_chosen x0_shelf x0_rowSort x0_rowSize x0_rows x0_moved x0_shown x0_tape x0_tapeSize x0_refused x0_lines x0_line x0_changes x0_coins x0_goods x0_good x0_works x0_work x0_years x0_gone x0_spent x0_at x0_token x0_from x0_figures x0_fault x0_numbers x0_statements x0_left x0_far x0_tons x0_way x0_steps x0_met x0_queue x0_totals (-2) e10) rfl rfl (Nat.le_of_ble_eq_true rfl) (by decide) 0 0 rfl rfl rfl [0] [1] rfl rfl rfl rfl [1, 0] rfl (fun _ => rfl) (fun _ => rfl) rfl rfl rfl (fun _ => rfl) (fun _ => ?_)
      obtain rfl := Option.some.inj hf
      exact J_iret hK hR dX7_goodsOf_45 () rfl (by decide) (by decide)
    · have hf := iq hc25 hf
      refine J_aload_n hK dX7_goodsOf_28 rfl 0 rfl rfl ?_
      refine J_get hK fo_RX7_48 dX7_goodsOf_29 rfl 0 0 rfl rfl rfl ?_
      refine J_iload_n hK dX7_goodsOf_32 rfl 1 rfl rfl ?_
      obtain ⟨q11, eq11, hf⟩ := bs hf
      refine J_aald hK dX7_goodsOf_33 rfl 0 12 rfl rfl rfl eq11 ?_
      refine J_iload_n hK dX7_goodsOf_34 rfl 2 rfl rfl ?_
      obtain ⟨v12, ev12, hf⟩ := bs hf
      refine J_iald hK dX7_goodsOf_35 rfl 1 q11 rfl (gridI_at (ck_ok eq11).2.2) ev12 ?_
      refine J_goto hK dX7_goodsOf_36 (n := 45) rfl ?_
      obtain rfl := Option.some.inj hf
      exact J_iret hK hR dX7_goodsOf_45 () rfl (by decide) (by decide)

def fX7_workOf (X0 : MdT) (p1 : Int32) (p2 : Int32) : Option (Int32 × (Nat → Int32)) :=
  u35 (fun (x0_shelf : (Nat → Int32)) (x0_rowSort : (Nat → Int32)) (x0_rowSize : (Nat → Int32)) (x0_rows : (Nat → Nat → Int64)) (x0_moved : (Nat → Int64)) (x0_shown : (Nat → Int32)) (x0_tape : (Nat → Int32)) (x0_tapeSize : Int32) (x0_refused : (Nat → Int32)) (x0_lines : Int32) (x0_line : (Nat → Nat → Int32)) (x0_changes : (Nat → Int32)) (x0_coins : (Nat → Int32)) (x0_goods : Int32) (x0_good : (Nat → Nat → Int32)) (x0_works : Int32) (x0_work : (Nat → Nat → Int32)) (x0_years : Int32) (x0_gone : Int32) (x0_spent : Int32) (x0_at : Int32) (x0_token : Int32) (x0_from : Int32) (x0_figures : Int64) (x0_fault : Int32) (x0_numbers : (Nat → Int32)) (x0_statements : Int32) (x0_left : (Nat → Int32)) (x0_far : (Nat → Int32)) (x0_tons : Int32) (x0_way : (Nat → Int32)) (x0_steps : Int32) (x0_met : Int64) (x0_queue : (Nat → Int32)) (x0_totals : (Nat → Int32)) => (fX7_isWork (x0_shelf, x0_rowSort, x0_rowSize, x0_rows, x0_moved, x0_shown, x0_tape, x0_tapeSize, x0_refused, x0_lines, x0_line, x0_changes, x0_coins, x0_goods, x0_good, x0_works, x0_work, x0_years, x0_gone, x0_spent, x0_at, x0_token, x0_from, x0_figures, x0_fault, x0_numbers, x0_statements, x0_left, x0_far, x0_tons, x0_way, x0_steps, x0_met, x0_queue, x0_totals) p1).bind (fun v1 => if v1 = 0 then ((fX7_refuse (x0_shelf, x0_rowSort, x0_rowSize, x0_rows, x0_moved, x0_shown, x0_tape, x0_tapeSize, x0_refused, x0_lines, x0_line, x0_changes, x0_coins, x0_goods, x0_good, x0_works, x0_work, x0_years, x0_gone, x0_spent, x0_at, x0_token, x0_from, x0_figures, x0_fault, x0_numbers, x0_statements, x0_left, x0_far, x0_tons, x0_way, x0_steps, x0_met, x0_queue, x0_totals) (-2)).bind (u2 fun v3 g4 => some (v3, g4))) else ((fX7_in ((p2).toInt64) (0 : Int64) (4 : Int64)).bind (fun v6 => if v6 = 0 then ((fX7_refuse (x0_shelf, x0_rowSort, x0_rowSize, x0_rows, x0_moved, x0_shown, x0_tape, x0_tapeSize, x0_refused, x0_lines, x0_line, x0_changes, x0_coins, x0_goods, x0_good, x0_works, x0_work, x0_years, x0_gone, x0_spent, x0_at, x0_token, x0_from, x0_figures, x0_fault, x0_numbers, x0_statements, x0_left, x0_far, x0_tons, x0_way, x0_steps, x0_met, x0_queue, x0_totals) (-2)).bind (u2 fun v8 g9 => some (v8, g9))) else ((ck p1 7).bind fun q11 => (rd 5 (x0_work q11) p2).bind fun v12 => some (v12, x0_refused)))))) X0
set_option maxHeartbeats 4000000 in
set_option maxRecDepth 100000 in
theorem kX7_workOf (l : Launch) (d : DT) (h0 : Nat → Nat) (r0_rows : Nat → Nat) (r0_line : Nat → Nat) (r0_good : Nat → Nat) (r0_work : Nat → Nat) (a0_kept : Option Nat) (a0_tried : Option Nat) (a0_chosen : Option Nat) (x0_shelf : (Nat → Int32)) (x0_rowSort : (Nat → Int32)) (x0_rowSize : (Nat → Int32)) (x0_rows : (Nat → Nat → Int64)) (x0_moved : (Nat → Int64)) (x0_shown : (Nat → Int32)) (x0_tape : (Nat → Int32)) (x0_tapeSize : Int32) (x0_refused : (Nat → Int32)) (x0_lines : Int32) (x0_line : (Nat → Nat → Int32)) (x0_changes : (Nat → Int32)) (x0_coins : (Nat → Int32)) (x0_goods : Int32) (x0_good : (Nat → Nat → Int32)) (x0_works : Int32) (x0_work : (Nat → Nat → Int32)) (x0_years : Int32) (x0_gone : Int32) (x0_spent : Int32) (x0_at : Int32) (x0_token : Int32) (x0_from : Int32) (x0_figures : Int64) (x0_fault : Int32) (x0_numbers : (Nat → Int32)) (x0_statements : Int32) (x0_left : (Nat → Int32)) (x0_far : (Nat → Int32)) (x0_tons : Int32) (x0_way : (Nat → Int32)) (x0_steps : Int32) (x0_met : Int64) (x0_queue : (Nat → Int32)) (x0_totals : (Nat → Int32)) (p1 : Int32) (p2 : Int32)  {out : Int32 × (Nat → Int32)} (hf : fX7_workOf (x0_shelf, x0_rowSort, x0_rowSize, x0_rows, x0_moved, x0_shown, x0_tape, x0_tapeSize, x0_refused, x0_lines, x0_line, x0_changes, x0_coins, x0_goods, x0_good, x0_works, x0_work, x0_years, x0_gone, x0_spent, x0_at, x0_token, x0_from, x0_figures, x0_fault, x0_numbers, x0_statements, x0_left, x0_far, x0_tons, x0_way, x0_steps, x0_met, x0_queue, x0_totals) p1 p2 = some out) : Ct l d yX7_workOf cX7_workOf 3 (some .int) { frames := 2, cells := 0, slots := 0, locals := 46 } [.ref (h0 0), .int p1, .int p2] [gMd d h0 a0_kept a0_tried a0_chosen r0_rows r0_line r0_good r0_work x0_shelf x0_rowSort x0_rowSize x0_moved x0_shown x0_tape x0_tapeSize x0_refused x0_lines x0_changes x0_coins x0_goods x0_works x0_years x0_gone x0_spent x0_at x0_token x0_from x0_figures x0_fault x0_numbers x0_statements x0_left x0_far x0_tons x0_way x0_steps x0_met x0_queue x0_totals, gridI d r0_work 7 5 x0_work] (fun _ : Unit => (some (.int out.1), [gMd d h0 a0_kept a0_tried a0_chosen r0_rows r0_line r0_good r0_work x0_shelf x0_rowSort x0_rowSize x0_moved x0_shown x0_tape x0_tapeSize (out.2) x0_lines x0_changes x0_coins x0_goods x0_works x0_years x0_gone x0_spent x0_at x0_token x0_from x0_figures x0_fault x0_numbers x0_statements x0_left x0_far x0_tons x0_way x0_steps x0_met x0_queue x0_totals, gridI d r0_work 7 5 x0_work])) := by
  refine Ct.of (by decide) (Nat.le_of_ble_eq_true rfl) ?_
  intro Φ hl hK hR
  subst hl
  have hK : Ok d Φ RX7 "workOf" cX7_workOf 3 (some .int) { frames := 2, cells := 0, slots := 0, locals := 46 } := hK
  unfold fX7_workOf at hf
  have hf := un35 hf
  show J d Φ 3 [gMd d h0 a0_kept a0_tried a0_chosen r0_rows r0_line r0_good r0_work x0_shelf x0_rowSort x0_rowSize x0_moved x0_shown x0_tape x0_tapeSize x0_refused x0_lines x0_changes x0_coins x0_goods x0_works x0_years x0_gone x0_spent x0_at x0_token x0_from x0_figures x0_fault x0_numbers x0_statements x0_left x0_far x0_tons x0_way x0_steps x0_met x0_queue x0_totals, gridI d r0_work 7 5 x0_work] 0 0 0 [(0, .ref (h0 0)), (1, .int p1), (2, .int p2)] []
  refine J_aload_n hK dX7_workOf_0 rfl 0 rfl rfl ?_
  refine J_iload_n hK dX7_workOf_1 rfl 1 rfl rfl ?_
  obtain ⟨v1, e2, hf⟩ := bs hf
  refine J_callV (m' := 2) (ce' := 0) (sl' := 0) (gr := [gridI d r0_work 7 5 x0_work]) (gs' := fun _ => [gMd d h0 a0_kept a0_tried a0_chosen r0_rows r0_line r0_good r0_work x0_shelf x0_rowSort x0_rowSize x0_moved x0_shown x0_tape x0_tapeSize x0_refused x0_lines x0_changes x0_coins x0_goods x0_works x0_years x0_gone x0_spent x0_at x0_token x0_from x0_figures x0_fault x0_numbers x0_statements x0_left x0_far x0_tons x0_way x0_steps x0_met x0_queue x0_totals, gridI d r0_work 7 5 x0_work]) (st' := fun _ => [.int v1]) (st := []) hK dX7_workOf_2 cv_RX7_102 iv_yX7_isWork (As := [.int p1]) (kX7_isWork _ d h0 r0_rows r0_line r0_good r0_work a0_kept a0_tried a0_chosen x0_shelf x0_rowSort x0_rowSize x0_rows x0_moved x0_shown x0_tape x0_tapeSize x0_refused x0_lines x0_line x0_changes x0_coins x0_goods x0_good x0_works x0_work x0_years x0_gone x0_spent x0_at x0_token x0_from x0_figures x0_fault x0_numbers x0_statements x0_left x0_far x0_tons x0_way x0_steps x0_met x0_queue x0_totals p1 e2) rfl rfl (Nat.le_of_ble_eq_true rfl) (by decide) 0 0 rfl rfl rfl [0] [1] rfl rfl rfl rfl [1, 0] rfl (fun _ => rfl) (fun _ => rfl) rfl rfl rfl (fun _ => rfl) (fun _ => ?_)
  refine J_if_eq (tg := 31) hK dX7_workOf_5 rfl rfl (fun hc5 => ?_) (fun hc5 => ?_)
  · have hf := ip hc5 hf
    refine J_aload_n hK dX7_workOf_31 rfl 0 rfl rfl ?_
    refine J_bipush (v := (-2)) hK dX7_workOf_32 rfl (by decide) ?_
    obtain ⟨⟨v3, g4⟩, e5, hf⟩ := bs hf
    have hf := un2 hf
    refine J_callV (m' := 2) (ce' := 0) (sl' := 0) (gr := [gridI d r0_work 7 5 x0_work]) (gs' := fun _ => [gMd d h0 a0_kept a0_tried a0_chosen r0_rows r0_line r0_good r0_work x0_shelf x0_rowSort x0_rowSize x0_moved x0_shown x0_tape x0_tapeSize g4 x0_lines x0_changes x0_coins x0_goods x0_works x0_years x0_gone x0_spent x0_at x0_token x0_from x0_figures x0_fault x0_numbers x0_statements x0_left x0_far x0_tons x0_way x0_steps x0_met x0_queue x0_totals, gridI d r0_work 7 5 x0_work]) (st' := fun _ => [.int v3]) (st := []) hK dX7_workOf_34 cv_RX7_94 iv_yX7_refuse (As := [.int (-2)]) (kX7_refuse _ d h0 r0_rows r0_line r0_good r0_work a0_kept a0_tried a0_chosen x0_shelf x0_rowSort x0_rowSize x0_rows x0_moved x0_shown x0_tape x0_tapeSize x0_refused x0_lines x0_line x0_changes x0_coins x0_goods x0_good x0_works x0_work x0_years x0_gone x0_spent x0_at x0_token x0_from x0_figures x0_fault x0_numbers x0_statements x0_left x0_far x0_tons x0_way x0_steps x0_met x0_queue x0_totals (-2) e5) rfl rfl (Nat.le_of_ble_eq_true rfl) (by decide) 0 0 rfl rfl rfl [0] [1] rfl rfl rfl rfl [1, 0] rfl (fun _ => rfl) (fun _ => rfl) rfl rfl rfl (fun _ => rfl) (fun _ => ?_)
    obtain rfl := Option.some.inj hf
    exact J_iret hK hR dX7_workOf_37 () rfl (by decide) (by decide)
  · have hf := iq hc5 hf
    refine J_iload_n hK dX7_workOf_8 rfl 2 rfl rfl ?_
    refine J_i2l hK dX7_workOf_9 rfl ?_
    refine J_lconst (v := 0) hK dX7_workOf_10 rfl (by decide) ?_
    refine J_ldc2 (v := (4 : Int64)) hK dX7_workOf_11 rfl wk_RX7_90 ?_
    obtain ⟨v6, e7, hf⟩ := bs hf
    refine J_callS (m' := 2) (ce' := 0) (sl' := 0) (gr := [gMd d h0 a0_kept a0_tried a0_chosen r0_rows r0_line r0_good r0_work x0_shelf x0_rowSort x0_rowSize x0_moved x0_shown x0_tape x0_tapeSize x0_refused x0_lines x0_changes x0_coins x0_goods x0_works x0_years x0_gone x0_spent x0_at x0_token x0_from x0_figures x0_fault x0_numbers x0_statements x0_left x0_far x0_tons x0_way x0_steps x0_met x0_queue x0_totals, gridI d r0_work 7 5 x0_work]) (gs' := fun _ => [gMd d h0 a0_kept a0_tried a0_chosen r0_rows r0_line r0_good r0_work x0_shelf x0_rowSort x0_rowSize x0_moved x0_shown x0_tape x0_tapeSize x0_refused x0_lines x0_changes x0_coins x0_goods x0_works x0_years x0_gone x0_spent x0_at x0_token x0_from x0_figures x0_fault x0_numbers x0_statements x0_left x0_far x0_tons x0_way x0_steps x0_met x0_queue x0_totals, gridI d r0_work 7 5 x0_work]) (st' := fun _ => [.int v6]) (st := []) hK dX7_workOf_14 cv_RX7_78 ws_yX7_in (As := [.long ((p2).toInt64), .long (0 : Int64), .long (4 : Int64)]) (kX7_in _ d ((p2).toInt64) (0 : Int64) (4 : Int64) e7) rfl rfl (Nat.le_of_ble_eq_true rfl) (by decide) [] [0, 1] rfl rfl rfl rfl [0, 1] rfl (fun _ => rfl) (fun _ => rfl) rfl rfl rfl (fun _ => rfl) (fun _ => ?_)
    refine J_if_eq (tg := 31) hK dX7_workOf_17 rfl rfl (fun hc17 => ?_) (fun hc17 => ?_)
    · have hf := ip hc17 hf
      refine J_aload_n hK dX7_workOf_31 rfl 0 rfl rfl ?_
      refine J_bipush (v := (-2)) hK dX7_workOf_32 rfl (by decide) ?_
      obtain ⟨⟨v8, g9⟩, e10, hf⟩ := bs hf
      have hf := un2 hf
      refine J_callV (m' := 2) (ce' := 0) (sl' := 0) (gr := [gridI d r0_work 7 5 x0_work]) (gs' := fun _ => [gMd d h0 a0_kept a0_tried a0_chosen r0_rows r0_line r0_good r0_work x0_shelf x0_rowSort x0_rowSize x0_moved x0_shown x0_tape x0_tapeSize g9 x0_lines x0_changes x0_coins x0_goods x0_works x0_years x0_gone x0_spent x0_at x0_token x0_from x0_figures x0_fault x0_numbers x0_statements x0_left x0_far x0_tons x0_way x0_steps x0_met x0_queue x0_totals, gridI d r0_work 7 5 x0_work]) (st' := fun _ => [.int v8]) (st := []) hK dX7_workOf_34 cv_RX7_94 iv_yX7_refuse (As := [.int (-2)]) (kX7_refuse _ d h0 r0_rows r0_line r0_good r0_work a0_kept a0_tried a0_chosen x0_shelf x0_rowSort x0_rowSize x0_rows x0_moved x0_shown x0_tape x0_tapeSize x0_refused x0_lines x0_line x0_changes x0_coins x0_goods x0_good x0_works x0_work x0_years x0_gone x0_spent x0_at x0_token x0_from x0_figures x0_fault x0_numbers x0_statements x0_left x0_far x0_tons x0_way x0_steps x0_met x0_queue x0_totals (-2) e10) rfl rfl (Nat.le_of_ble_eq_true rfl) (by decide) 0 0 rfl rfl rfl [0] [1] rfl rfl rfl rfl [1, 0] rfl (fun _ => rfl) (fun _ => rfl) rfl rfl rfl (fun _ => rfl) (fun _ => ?_)
      obtain rfl := Option.some.inj hf
      exact J_iret hK hR dX7_workOf_37 () rfl (by decide) (by decide)
    · have hf := iq hc17 hf
      refine J_aload_n hK dX7_workOf_20 rfl 0 rfl rfl ?_
      refine J_get hK fo_RX7_51 dX7_workOf_21 rfl 0 0 rfl rfl rfl ?_
      refine J_iload_n hK dX7_workOf_24 rfl 1 rfl rfl ?_
      obtain ⟨q11, eq11, hf⟩ := bs hf
      refine J_aald hK dX7_workOf_25 rfl 0 13 rfl rfl rfl eq11 ?_
      refine J_iload_n hK dX7_workOf_26 rfl 2 rfl rfl ?_
      obtain ⟨v12, ev12, hf⟩ := bs hf
      refine J_iald hK dX7_workOf_27 rfl 1 q11 rfl (gridI_at (ck_ok eq11).2.2) ev12 ?_
      refine J_goto hK dX7_workOf_28 (n := 37) rfl ?_
      obtain rfl := Option.some.inj hf
      exact J_iret hK hR dX7_workOf_37 () rfl (by decide) (by decide)

def fX7_bears (X0 : MdT) (p1 : Int32) (p2 : Int32) : Option (Int32) :=
  u35 (fun (x0_shelf : (Nat → Int32)) (x0_rowSort : (Nat → Int32)) (x0_rowSize : (Nat → Int32)) (x0_rows : (Nat → Nat → Int64)) (x0_moved : (Nat → Int64)) (x0_shown : (Nat → Int32)) (x0_tape : (Nat → Int32)) (x0_tapeSize : Int32) (x0_refused : (Nat → Int32)) (x0_lines : Int32) (x0_line : (Nat → Nat → Int32)) (x0_changes : (Nat → Int32)) (x0_coins : (Nat → Int32)) (x0_goods : Int32) (x0_good : (Nat → Nat → Int32)) (x0_works : Int32) (x0_work : (Nat → Nat → Int32)) (x0_years : Int32) (x0_gone : Int32) (x0_spent : Int32) (x0_at : Int32) (x0_token : Int32) (x0_from : Int32) (x0_figures : Int64) (x0_fault : Int32) (x0_numbers : (Nat → Int32)) (x0_statements : Int32) (x0_left : (Nat → Int32)) (x0_far : (Nat → Int32)) (x0_tons : Int32) (x0_way : (Nat → Int32)) (x0_steps : Int32) (x0_met : Int64) (x0_queue : (Nat → Int32)) (x0_totals : (Nat → Int32)) => (ck p1 20).bind fun q1 => (rd 7 (x0_line q1) (6)).bind fun v2 => if v2 = 0 then ((ck p1 20).bind fun q3 => (rd 7 (x0_line q3) (2)).bind fun v4 => if ((v4 >>> (p2 &&& 31)) &&& 1) = 0 then (some (0)) else ((rd 20 x0_left p1).bind fun v5 => if v5 < x0_tons then (some (0)) else (some (1)))) else (some (0))) X0
set_option maxHeartbeats 4000000 in
set_option maxRecDepth 100000 in
theorem kX7_bears (l : Launch) (d : DT) (h0 : Nat → Nat) (r0_rows : Nat → Nat) (r0_line : Nat → Nat) (r0_good : Nat → Nat) (r0_work : Nat → Nat) (a0_kept : Option Nat) (a0_tried : Option Nat) (a0_chosen : Option Nat) (x0_shelf : (Nat → Int32)) (x0_rowSort : (Nat → Int32)) (x0_rowSize : (Nat → Int32)) (x0_rows : (Nat → Nat → Int64)) (x0_moved : (Nat → Int64)) (x0_shown : (Nat → Int32)) (x0_tape : (Nat → Int32)) (x0_tapeSize : Int32) (x0_refused : (Nat → Int32)) (x0_lines : Int32) (x0_line : (Nat → Nat → Int32)) (x0_changes : (Nat → Int32)) (x0_coins : (Nat → Int32)) (x0_goods : Int32) (x0_good : (Nat → Nat → Int32)) (x0_works : Int32) (x0_work : (Nat → Nat → Int32)) (x0_years : Int32) (x0_gone : Int32) (x0_spent : Int32) (x0_at : Int32) (x0_token : Int32) (x0_from : Int32) (x0_figures : Int64) (x0_fault : Int32) (x0_numbers : (Nat → Int32)) (x0_statements : Int32) (x0_left : (Nat → Int32)) (x0_far : (Nat → Int32)) (x0_tons : Int32) (x0_way : (Nat → Int32)) (x0_steps : Int32) (x0_met : Int64) (x0_queue : (Nat → Int32)) (x0_totals : (Nat → Int32)) (p1 : Int32) (p2 : Int32)  {out : Int32} (hf : fX7_bears (x0_shelf, x0_rowSort, x0_rowSize, x0_rows, x0_moved, x0_shown, x0_tape, x0_tapeSize, x0_refused, x0_lines, x0_line, x0_changes, x0_coins, x0_goods, x0_good, x0_works, x0_work, x0_years, x0_gone, x0_spent, x0_at, x0_token, x0_from, x0_figures, x0_fault, x0_numbers, x0_statements, x0_left, x0_far, x0_tons, x0_way, x0_steps, x0_met, x0_queue, x0_totals) p1 p2 = some out) : Ct l d yX7_bears cX7_bears 3 (some .boolean) { frames := 0, cells := 0, slots := 0, locals := 0 } [.ref (h0 0), .int p1, .int p2] [gMd d h0 a0_kept a0_tried a0_chosen r0_rows r0_line r0_good r0_work x0_shelf x0_rowSort x0_rowSize x0_moved x0_shown x0_tape x0_tapeSize x0_refused x0_lines x0_changes x0_coins x0_goods x0_works x0_years x0_gone x0_spent x0_at x0_token x0_from x0_figures x0_fault x0_numbers x0_statements x0_left x0_far x0_tons x0_way x0_steps x0_met x0_queue x0_totals, gridI d r0_line 20 7 x0_line] (fun _ : Unit => (some (.int out), [gMd d h0 a0_kept a0_tried a0_chosen r0_rows r0_line r0_good r0_work x0_shelf x0_rowSort x0_rowSize x0_moved x0_shown x0_tape x0_tapeSize x0_refused x0_lines x0_changes x0_coins x0_goods x0_works x0_years x0_gone x0_spent x0_at x0_token x0_from x0_figures x0_fault x0_numbers x0_statements x0_left x0_far x0_tons x0_way x0_steps x0_met x0_queue x0_totals, gridI d r0_line 20 7 x0_line])) := by
  refine Ct.of (by decide) (Nat.le_of_ble_eq_true rfl) ?_
  intro Φ hl hK hR
  subst hl
  have hK : Ok d Φ RX7 "bears" cX7_bears 3 (some .boolean) { frames := 0, cells := 0, slots := 0, locals := 0 } := hK
  unfold fX7_bears at hf
  have hf := un35 hf
  show J d Φ 3 [gMd d h0 a0_kept a0_tried a0_chosen r0_rows r0_line r0_good r0_work x0_shelf x0_rowSort x0_rowSize x0_moved x0_shown x0_tape x0_tapeSize x0_refused x0_lines x0_changes x0_coins x0_goods x0_works x0_years x0_gone x0_spent x0_at x0_token x0_from x0_figures x0_fault x0_numbers x0_statements x0_left x0_far x0_tons x0_way x0_steps x0_met x0_queue x0_totals, gridI d r0_line 20 7 x0_line] 0 0 0 [(0, .ref (h0 0)), (1, .int p1), (2, .int p2)] []
  refine J_aload_n hK dX7_bears_0 rfl 0 rfl rfl ?_
  refine J_get hK fo_RX7_39 dX7_bears_1 rfl 0 0 rfl rfl rfl ?_
  refine J_iload_n hK dX7_bears_4 rfl 1 rfl rfl ?_
  obtain ⟨q1, eq1, hf⟩ := bs hf
  refine J_aald hK dX7_bears_5 rfl 0 9 rfl rfl rfl eq1 ?_
  refine J_bipush (v := 6) hK dX7_bears_6 rfl (by decide) ?_
  obtain ⟨v2, ev2, hf⟩ := bs hf
  refine J_iald hK dX7_bears_8 rfl 1 q1 rfl (gridI_at (ck_ok eq1).2.2) ev2 ?_
  refine J_if_ne (tg := 44) hK dX7_bears_9 rfl rfl (fun hc9 => ?_) (fun hc9 => ?_)
  · have hf := iq hc9 hf
    refine J_iconst (v := 0) hK dX7_bears_44 rfl (by decide) ?_
    obtain rfl := Option.some.inj hf
    exact J_zret hK hR dX7_bears_45 () rfl rfl (by decide) (by decide)
  · have hf := ip hc9 hf
    refine J_aload_n hK dX7_bears_12 rfl 0 rfl rfl ?_
    refine J_get hK fo_RX7_39 dX7_bears_13 rfl 0 0 rfl rfl rfl ?_
    refine J_iload_n hK dX7_bears_16 rfl 1 rfl rfl ?_
    obtain ⟨q3, eq3, hf⟩ := bs hf
    refine J_aald hK dX7_bears_17 rfl 0 9 rfl rfl rfl eq3 ?_
    refine J_iconst (v := 2) hK dX7_bears_18 rfl (by decide) ?_
    obtain ⟨v4, ev4, hf⟩ := bs hf
    refine J_iald hK dX7_bears_19 rfl 1 q3 rfl (gridI_at (ck_ok eq3).2.2) ev4 ?_
    refine J_iload_n hK dX7_bears_20 rfl 2 rfl rfl ?_
    refine J_ishr hK dX7_bears_21 rfl ?_
    refine J_iconst (v := 1) hK dX7_bears_22 rfl (by decide) ?_
    refine J_iand hK dX7_bears_23 rfl ?_
    refine J_if_eq (tg := 44) hK dX7_bears_24 rfl rfl (fun hc24 => ?_) (fun hc24 => ?_)
    · have hf := ip hc24 hf
      refine J_iconst (v := 0) hK dX7_bears_44 rfl (by decide) ?_
      obtain rfl := Option.some.inj hf
      exact J_zret hK hR dX7_bears_45 () rfl rfl (by decide) (by decide)
    · have hf := iq hc24 hf
      refine J_aload_n hK dX7_bears_27 rfl 0 rfl rfl ?_
      refine J_get hK fo_RX7_61 dX7_bears_28 rfl 0 0 rfl rfl rfl ?_
      refine J_iload_n hK dX7_bears_31 rfl 1 rfl rfl ?_
      obtain ⟨v5, ev5, hf⟩ := bs hf
      refine J_iald hK dX7_bears_32 rfl 0 15 rfl rfl ev5 ?_
      refine J_aload_n hK dX7_bears_33 rfl 0 rfl rfl ?_
      refine J_get hK fo_RX7_251 dX7_bears_34 rfl 0 0 rfl rfl rfl ?_
      refine J_icmp_lt (tg := 44) hK dX7_bears_37 rfl rfl (fun hc37 => ?_) (fun hc37 => ?_)
      · have hf := ip hc37 hf
        refine J_iconst (v := 0) hK dX7_bears_44 rfl (by decide) ?_
        obtain rfl := Option.some.inj hf
        exact J_zret hK hR dX7_bears_45 () rfl rfl (by decide) (by decide)
      · have hf := iq hc37 hf
        refine J_iconst (v := 1) hK dX7_bears_40 rfl (by decide) ?_
        refine J_goto hK dX7_bears_41 (n := 45) rfl ?_
        obtain rfl := Option.some.inj hf
        exact J_zret hK hR dX7_bears_45 () rfl rfl (by decide) (by decide)

def fX7_refill_s2 (x0_lines : Int32) (x0_line : (Nat → Nat → Int32)) (z2 : Int32) (z3 : (Nat → Int32)) : Option ((Int32 × (Nat → Int32)) ⊕ ((Nat → Int32))) :=
  if x0_lines ≤ z2 then (some (.inr z3)) else ((ck z2 20).bind fun q6 => (rd 7 (x0_line q6) (4)).bind fun v7 => (wr 20 z3 z2 v7).bind fun f8 => some (.inl ((z2 + 1), f8)))
def fX7_refill (n : Nat) (X0 : MdT) : Option ((Nat → Int32)) :=
  u35 (fun (x0_shelf : (Nat → Int32)) (x0_rowSort : (Nat → Int32)) (x0_rowSize : (Nat → Int32)) (x0_rows : (Nat → Nat → Int64)) (x0_moved : (Nat → Int64)) (x0_shown : (Nat → Int32)) (x0_tape : (Nat → Int32)) (x0_tapeSize : Int32) (x0_refused : (Nat → Int32)) (x0_lines : Int32) (x0_line : (Nat → Nat → Int32)) (x0_changes : (Nat → Int32)) (x0_coins : (Nat → Int32)) (x0_goods : Int32) (x0_good : (Nat → Nat → Int32)) (x0_works : Int32) (x0_work : (Nat → Nat → Int32)) (x0_years : Int32) (x0_gone : Int32) (x0_spent : Int32) (x0_at : Int32) (x0_token : Int32) (x0_from : Int32) (x0_figures : Int64) (x0_fault : Int32) (x0_numbers : (Nat → Int32)) (x0_statements : Int32) (x0_left : (Nat → Int32)) (x0_far : (Nat → Int32)) (x0_tons : Int32) (x0_way : (Nat → Int32)) (x0_steps : Int32) (x0_met : Int64) (x0_queue : (Nat → Int32)) (x0_totals : (Nat → Int32)) => (lp (u2 (fX7_refill_s2 x0_lines x0_line)) n (0, x0_left)).bind (fun w5 => some w5)) X0
set_option maxHeartbeats 4000000 in
set_option maxRecDepth 100000 in
theorem kX7_refill (l : Launch) (d : DT) (h0 : Nat → Nat) (r0_rows : Nat → Nat) (r0_line : Nat → Nat) (r0_good : Nat → Nat) (r0_work : Nat → Nat) (a0_kept : Option Nat) (a0_tried : Option Nat) (a0_chosen : Option Nat) (n : Nat) (x0_shelf : (Nat → Int32)) (x0_rowSort : (Nat → Int32)) (x0_rowSize : (Nat → Int32)) (x0_rows : (Nat → Nat → Int64)) (x0_moved : (Nat → Int64)) (x0_shown : (Nat → Int32)) (x0_tape : (Nat → Int32)) (x0_tapeSize : Int32) (x0_refused : (Nat → Int32)) (x0_lines : Int32) (x0_line : (Nat → Nat → Int32)) (x0_changes : (Nat → Int32)) (x0_coins : (Nat → Int32)) (x0_goods : Int32) (x0_good : (Nat → Nat → Int32)) (x0_works : Int32) (x0_work : (Nat → Nat → Int32)) (x0_years : Int32) (x0_gone : Int32) (x0_spent : Int32) (x0_at : Int32) (x0_token : Int32) (x0_from : Int32) (x0_figures : Int64) (x0_fault : Int32) (x0_numbers : (Nat → Int32)) (x0_statements : Int32) (x0_left : (Nat → Int32)) (x0_far : (Nat → Int32)) (x0_tons : Int32) (x0_way : (Nat → Int32)) (x0_steps : Int32) (x0_met : Int64) (x0_queue : (Nat → Int32)) (x0_totals : (Nat → Int32))  {out : (Nat → Int32)} (hf : fX7_refill n (x0_shelf, x0_rowSort, x0_rowSize, x0_rows, x0_moved, x0_shown, x0_tape, x0_tapeSize, x0_refused, x0_lines, x0_line, x0_changes, x0_coins, x0_goods, x0_good, x0_works, x0_work, x0_years, x0_gone, x0_spent, x0_at, x0_token, x0_from, x0_figures, x0_fault, x0_numbers, x0_statements, x0_left, x0_far, x0_tons, x0_way, x0_steps, x0_met, x0_queue, x0_totals) = some out) : Ct l d yX7_refill cX7_refill 2 none { frames := 0, cells := 0, slots := 0, locals := 0 } [.ref (h0 0)] [gMd d h0 a0_kept a0_tried a0_chosen r0_rows r0_line r0_good r0_work x0_shelf x0_rowSort x0_rowSize x0_moved x0_shown x0_tape x0_tapeSize x0_refused x0_lines x0_changes x0_coins x0_goods x0_works x0_years x0_gone x0_spent x0_at x0_token x0_from x0_figures x0_fault x0_numbers x0_statements x0_left x0_far x0_tons x0_way x0_steps x0_met x0_queue x0_totals, gridI d r0_line 20 7 x0_line] (fun _ : Unit => (none, [gMd d h0 a0_kept a0_tried a0_chosen r0_rows r0_line r0_good r0_work x0_shelf x0_rowSort x0_rowSize x0_moved x0_shown x0_tape x0_tapeSize x0_refused x0_lines x0_changes x0_coins x0_goods x0_works x0_years x0_gone x0_spent x0_at x0_token x0_from x0_figures x0_fault x0_numbers x0_statements out x0_far x0_tons x0_way x0_steps x0_met x0_queue x0_totals, gridI d r0_line 20 7 x0_line])) := by
  refine Ct.of (by decide) (Nat.le_of_ble_eq_true rfl) ?_
  intro Φ hl hK hR
  subst hl
  have hK : Ok d Φ RX7 "refill" cX7_refill 2 none { frames := 0, cells := 0, slots := 0, locals := 0 } := hK
  unfold fX7_refill at hf
  have hf := un35 hf
  show J d Φ 2 [gMd d h0 a0_kept a0_tried a0_chosen r0_rows r0_line r0_good r0_work x0_shelf x0_rowSort x0_rowSize x0_moved x0_shown x0_tape x0_tapeSize x0_refused x0_lines x0_changes x0_coins x0_goods x0_works x0_years x0_gone x0_spent x0_at x0_token x0_from x0_figures x0_fault x0_numbers x0_statements x0_left x0_far x0_tons x0_way x0_steps x0_met x0_queue x0_totals, gridI d r0_line 20 7 x0_line] 0 0 0 [(0, .ref (h0 0))] []
  refine J_iconst (v := 0) hK dX7_refill_0 rfl (by decide) ?_
  refine J_istore_n (L' := [(1, .int (0)), (0, .ref (h0 0))]) hK dX7_refill_1 rfl rfl (by decide) rfl ?_
  obtain ⟨e4, hl1, hf⟩ := bs hf
  have hx1_30 : ∀ (w5 : (Nat → Int32)), w5 = e4 → J d Φ 2 [gMd d h0 a0_kept a0_tried a0_chosen r0_rows r0_line r0_good r0_work x0_shelf x0_rowSort x0_rowSize x0_moved x0_shown x0_tape x0_tapeSize x0_refused x0_lines x0_changes x0_coins x0_goods x0_works x0_years x0_gone x0_spent x0_at x0_token x0_from x0_figures x0_fault x0_numbers x0_statements w5 x0_far x0_tons x0_way x0_steps x0_met x0_queue x0_totals, gridI d r0_line 20 7 x0_line] 0 0 30 [] [] := by
    intro w5 he
    rw [← he] at hf
    obtain rfl := Option.some.inj hf
    exact J_vret hK hR dX7_refill_30 () rfl (by decide) (by decide)
  have lo1 : ∀ (k : Nat) (z2 : Int32) (z3 : (Nat → Int32)), lp (u2 (fX7_refill_s2 x0_lines x0_line)) k (z2, z3) = some e4 → J d Φ 2 [gMd d h0 a0_kept a0_tried a0_chosen r0_rows r0_line r0_good r0_work x0_shelf x0_rowSort x0_rowSize x0_moved x0_shown x0_tape x0_tapeSize x0_refused x0_lines x0_changes x0_coins x0_goods x0_works x0_years x0_gone x0_spent x0_at x0_token x0_from x0_figures x0_fault x0_numbers x0_statements z3 x0_far x0_tons x0_way x0_steps x0_met x0_queue x0_totals, gridI d r0_line 20 7 x0_line] 0 0 2 [(0, .ref (h0 0)), (1, .int z2)] [] := by
    intro k
    induction k with
    | zero => intro z2 z3 h; cases h
    | succ k ih1 =>
      intro z2 z3 h
      obtain ⟨k2, rr1, hk2, hs1, hr1⟩ := lp_ok h
      cases hk2
      have hs1 : fX7_refill_s2 x0_lines x0_line z2 z3 = some rr1 := hs1
      unfold fX7_refill_s2 at hs1
      refine J_iload_n hK dX7_refill_2 rfl 1 rfl rfl ?_
      refine J_aload_n hK dX7_refill_3 rfl 0 rfl rfl ?_
      refine J_get hK fo_RX7_82 dX7_refill_4 rfl 0 0 rfl rfl rfl ?_
      refine J_icmp_ge (tg := 30) hK dX7_refill_7 rfl rfl (fun hc7 => ?_) (fun hc7 => ?_)
      · have hs1 := ip hc7 hs1
        exact J_loc [] rfl (hx1_30 z3 (lpx hs1 hr1))
      · have hs1 := iq hc7 hs1
        refine J_aload_n hK dX7_refill_10 rfl 0 rfl rfl ?_
        refine J_get hK fo_RX7_61 dX7_refill_11 rfl 0 0 rfl rfl rfl ?_
        refine J_iload_n hK dX7_refill_14 rfl 1 rfl rfl ?_
        refine J_aload_n hK dX7_refill_15 rfl 0 rfl rfl ?_
        refine J_get hK fo_RX7_39 dX7_refill_16 rfl 0 0 rfl rfl rfl ?_
        refine J_iload_n hK dX7_refill_19 rfl 1 rfl rfl ?_
        obtain ⟨q6, eq6, hs1⟩ := bs hs1
        refine J_aald hK dX7_refill_20 rfl 0 9 rfl rfl rfl eq6 ?_
        refine J_iconst (v := 4) hK dX7_refill_21 rfl (by decide) ?_
        obtain ⟨v7, ev7, hs1⟩ := bs hs1
        refine J_iald hK dX7_refill_22 rfl 1 q6 rfl (gridI_at (ck_ok eq6).2.2) ev7 ?_
        obtain ⟨f8, ef8, hs1⟩ := bs hs1
        refine J_iast (g' := gMd d h0 a0_kept a0_tried a0_chosen r0_rows r0_line r0_good r0_work x0_shelf x0_rowSort x0_rowSize x0_moved x0_shown x0_tape x0_tapeSize x0_refused x0_lines x0_changes x0_coins x0_goods x0_works x0_years x0_gone x0_spent x0_at x0_token x0_from x0_figures x0_fault x0_numbers x0_statements f8 x0_far x0_tons x0_way x0_steps x0_met x0_queue x0_totals) (gs' := [gMd d h0 a0_kept a0_tried a0_chosen r0_rows r0_line r0_good r0_work x0_shelf x0_rowSort x0_rowSize x0_moved x0_shown x0_tape x0_tapeSize x0_refused x0_lines x0_changes x0_coins x0_goods x0_works x0_years x0_gone x0_spent x0_at x0_token x0_from x0_figures x0_fault x0_numbers x0_statements f8 x0_far x0_tons x0_way x0_steps x0_met x0_queue x0_totals, gridI d r0_line 20 7 x0_line]) hK dX7_refill_23 rfl 0 15 rfl rfl ef8 rfl rfl ?_
        refine J_iinc (L' := [(1, .int (z2 + 1)), (0, .ref (h0 0))]) (v := (z2 + 1)) hK dX7_refill_24 rfl 1 rfl rfl (by decide) rfl ?_
        refine J_goto hK dX7_refill_27 (n := 2) rfl ?_
        exact J_loc [1, 0] rfl (ih1 (z2 + 1) f8 (lpc hs1 hr1))
  exact J_loc [1, 0] rfl (lo1 n (0) x0_left hl1)

def fX7_findFar_s232 (x0_changes : (Nat → Int32)) (z20 : Int32) (z26 : Int32) (z27 : Int32) (z28 : (Nat → Int32)) : Option ((Int32 × Int32 × (Nat → Int32)) ⊕ (Int32 × (Nat → Int32))) :=
  if 3 ≤ z27 then (some (.inr (z26, z28))) else ((rd 36 z28 (((z20 / 3) * 3) + z27)).bind fun v32 => (rd 12 x0_changes (z20 / 3)).bind fun v33 => (rd 36 z28 z20).bind fun v34 => if v34 ≤ (v32 + v33) then (some (.inl (z26, (z27 + 1), z28))) else ((rd 36 z28 (((z20 / 3) * 3) + z27)).bind fun v35 => (rd 12 x0_changes (z20 / 3)).bind fun v36 => (wr 36 z28 z20 (v35 + v36)).bind fun f37 => some (.inl (1, (z27 + 1), f37))))
def fX7_findFar_s222 (n : Nat) (x0_changes : (Nat → Int32)) (z19 : Int32) (z20 : Int32) (z21 : (Nat → Int32)) : Option ((Int32 × Int32 × (Nat → Int32)) ⊕ (Int32 × (Nat → Int32))) :=
  if 36 ≤ z20 then (some (.inr (z19, z21))) else ((lp (u3 (fX7_findFar_s232 x0_changes z20)) n (z19, 0, z21)).bind (u2 fun w30 w31 => some (.inl (w30, (z20 + 1), w31))))
def fX7_findFar_j168 (z40 : Int32) (v48 : Int32) (v50 : Int32) (v52 : Int32) (v53 : Int32) (x56 : (Nat → Int32)) (y57 : Int32) : Option ((Int32 × Int32 × (Nat → Int32)) ⊕ (Int32 × (Nat → Int32))) :=
  (rd 36 x56 ((3 * v48) + z40)).bind fun v58 => (rd 36 x56 ((3 * v50) + z40)).bind fun v59 => if v59 ≤ (v58 + (v52 * v53)) then (some (.inl (y57, (z40 + 1), x56))) else ((rd 36 x56 ((3 * v48) + z40)).bind fun v60 => (wr 36 x56 ((3 * v50) + z40) (v60 + (v52 * v53))).bind fun f61 => some (.inl (1, (z40 + 1), f61)))
def fX7_findFar_s61 (p2 : Int32) (x0_shelf : (Nat → Int32)) (x0_rowSort : (Nat → Int32)) (x0_rowSize : (Nat → Int32)) (x0_rows : (Nat → Nat → Int64)) (x0_moved : (Nat → Int64)) (x0_shown : (Nat → Int32)) (x0_tape : (Nat → Int32)) (x0_tapeSize : Int32) (x0_refused : (Nat → Int32)) (x0_lines : Int32) (x0_line : (Nat → Nat → Int32)) (x0_changes : (Nat → Int32)) (x0_coins : (Nat → Int32)) (x0_goods : Int32) (x0_good : (Nat → Nat → Int32)) (x0_works : Int32) (x0_work : (Nat → Nat → Int32)) (x0_years : Int32) (x0_gone : Int32) (x0_spent : Int32) (x0_at : Int32) (x0_token : Int32) (x0_from : Int32) (x0_figures : Int64) (x0_fault : Int32) (x0_numbers : (Nat → Int32)) (x0_statements : Int32) (x0_left : (Nat → Int32)) (x0_way : (Nat → Int32)) (x0_steps : Int32) (x0_met : Int64) (x0_queue : (Nat → Int32)) (x0_totals : (Nat → Int32)) (z13 : Int32) (z39 : Int32) (z40 : Int32) (z41 : (Nat → Int32)) : Option ((Int32 × Int32 × (Nat → Int32)) ⊕ (Int32 × (Nat → Int32))) :=
  if 3 ≤ z40 then (some (.inr (z39, z41))) else ((fX7_bears (x0_shelf, x0_rowSort, x0_rowSize, x0_rows, x0_moved, x0_shown, x0_tape, x0_tapeSize, x0_refused, x0_lines, x0_line, x0_changes, x0_coins, x0_goods, x0_good, x0_works, x0_work, x0_years, x0_gone, x0_spent, x0_at, x0_token, x0_from, x0_figures, x0_fault, x0_numbers, x0_statements, x0_left, z41, p2, x0_way, x0_steps, x0_met, x0_queue, x0_totals) z13 z40).bind (fun v45 => if v45 = 0 then (some (.inl (z39, (z40 + 1), z41))) else ((ck z13 20).bind fun q47 => (rd 7 (x0_line q47) (0)).bind fun v48 => (ck z13 20).bind fun q49 => (rd 7 (x0_line q49) (1)).bind fun v50 => (ck z13 20).bind fun q51 => (rd 7 (x0_line q51) (3)).bind fun v52 => (rd 3 x0_coins z40).bind fun v53 => (rd 36 z41 ((3 * v50) + z40)).bind fun v54 => (rd 36 z41 ((3 * v48) + z40)).bind fun v55 => if v55 ≤ (v54 + (v52 * v53)) then (fX7_findFar_j168 z40 v48 v50 v52 v53 z41 z39) else ((rd 36 z41 ((3 * v50) + z40)).bind fun v62 => (wr 36 z41 ((3 * v48) + z40) (v62 + (v52 * v53))).bind fun f63 => fX7_findFar_j168 z40 v48 v50 v52 v53 f63 (1)))))
def fX7_findFar_s49 (n : Nat) (p2 : Int32) (x0_shelf : (Nat → Int32)) (x0_rowSort : (Nat → Int32)) (x0_rowSize : (Nat → Int32)) (x0_rows : (Nat → Nat → Int64)) (x0_moved : (Nat → Int64)) (x0_shown : (Nat → Int32)) (x0_tape : (Nat → Int32)) (x0_tapeSize : Int32) (x0_refused : (Nat → Int32)) (x0_lines : Int32) (x0_line : (Nat → Nat → Int32)) (x0_changes : (Nat → Int32)) (x0_coins : (Nat → Int32)) (x0_goods : Int32) (x0_good : (Nat → Nat → Int32)) (x0_works : Int32) (x0_work : (Nat → Nat → Int32)) (x0_years : Int32) (x0_gone : Int32) (x0_spent : Int32) (x0_at : Int32) (x0_token : Int32) (x0_from : Int32) (x0_figures : Int64) (x0_fault : Int32) (x0_numbers : (Nat → Int32)) (x0_statements : Int32) (x0_left : (Nat → Int32)) (x0_way : (Nat → Int32)) (x0_steps : Int32) (x0_met : Int64) (x0_queue : (Nat → Int32)) (x0_totals : (Nat → Int32)) (z12 : Int32) (z13 : Int32) (z14 : (Nat → Int32)) : Option ((Int32 × Int32 × (Nat → Int32)) ⊕ (Int32 × (Nat → Int32))) :=
  if x0_lines ≤ z13 then (some (.inr (z12, z14))) else ((lp (u3 (fX7_findFar_s61 p2 x0_shelf x0_rowSort x0_rowSize x0_rows x0_moved x0_shown x0_tape x0_tapeSize x0_refused x0_lines x0_line x0_changes x0_coins x0_goods x0_good x0_works x0_work x0_years x0_gone x0_spent x0_at x0_token x0_from x0_figures x0_fault x0_numbers x0_statements x0_left x0_way x0_steps x0_met x0_queue x0_totals z13)) n (z12, 0, z14)).bind (u2 fun w43 w44 => some (.inl (w43, (z13 + 1), w44))))
def fX7_findFar_s40 (n : Nat) (p2 : Int32) (x0_shelf : (Nat → Int32)) (x0_rowSort : (Nat → Int32)) (x0_rowSize : (Nat → Int32)) (x0_rows : (Nat → Nat → Int64)) (x0_moved : (Nat → Int64)) (x0_shown : (Nat → Int32)) (x0_tape : (Nat → Int32)) (x0_tapeSize : Int32) (x0_refused : (Nat → Int32)) (x0_lines : Int32) (x0_line : (Nat → Nat → Int32)) (x0_changes : (Nat → Int32)) (x0_coins : (Nat → Int32)) (x0_goods : Int32) (x0_good : (Nat → Nat → Int32)) (x0_works : Int32) (x0_work : (Nat → Nat → Int32)) (x0_years : Int32) (x0_gone : Int32) (x0_spent : Int32) (x0_at : Int32) (x0_token : Int32) (x0_from : Int32) (x0_figures : Int64) (x0_fault : Int32) (x0_numbers : (Nat → Int32)) (x0_statements : Int32) (x0_left : (Nat → Int32)) (x0_way : (Nat → Int32)) (x0_steps : Int32) (x0_met : Int64) (x0_queue : (Nat → Int32)) (x0_totals : (Nat → Int32)) (z7 : Int32) (z8 : (Nat → Int32)) : Option ((Int32 × (Nat → Int32)) ⊕ ((Nat → Int32))) :=
  if z7 = 0 then (some (.inr z8)) else ((lp (u3 (fX7_findFar_s49 n p2 x0_shelf x0_rowSort x0_rowSize x0_rows x0_moved x0_shown x0_tape x0_tapeSize x0_refused x0_lines x0_line x0_changes x0_coins x0_goods x0_good x0_works x0_work x0_years x0_gone x0_spent x0_at x0_token x0_from x0_figures x0_fault x0_numbers x0_statements x0_left x0_way x0_steps x0_met x0_queue x0_totals)) n (0, 0, z8)).bind (u2 fun w16 w17 => (lp (u3 (fX7_findFar_s222 n x0_changes)) n (w16, 0, w17)).bind (u2 fun w23 w24 => some (.inl (w23, w24)))))
def fX7_findFar_s7 (p1 : Int32) (z2 : Int32) (z3 : (Nat → Int32)) : Option ((Int32 × (Nat → Int32)) ⊕ ((Nat → Int32))) :=
  if 36 ≤ z2 then (some (.inr z3)) else (if (z2 / 3) = p1 then ((wr 36 z3 z2 (0)).bind fun f65 => some (.inl ((z2 + 1), f65))) else ((wr 36 z3 z2 (1000000000)).bind fun f64 => some (.inl ((z2 + 1), f64))))
def fX7_findFar (n : Nat) (X0 : MdT) (p1 : Int32) (p2 : Int32) : Option ((Nat → Int32) × Int32) :=
  u35 (fun (x0_shelf : (Nat → Int32)) (x0_rowSort : (Nat → Int32)) (x0_rowSize : (Nat → Int32)) (x0_rows : (Nat → Nat → Int64)) (x0_moved : (Nat → Int64)) (x0_shown : (Nat → Int32)) (x0_tape : (Nat → Int32)) (x0_tapeSize : Int32) (x0_refused : (Nat → Int32)) (x0_lines : Int32) (x0_line : (Nat → Nat → Int32)) (x0_changes : (Nat → Int32)) (x0_coins : (Nat → Int32)) (x0_goods : Int32) (x0_good : (Nat → Nat → Int32)) (x0_works : Int32) (x0_work : (Nat → Nat → Int32)) (x0_years : Int32) (x0_gone : Int32) (x0_spent : Int32) (x0_at : Int32) (x0_token : Int32) (x0_from : Int32) (x0_figures : Int64) (x0_fault : Int32) (x0_numbers : (Nat → Int32)) (x0_statements : Int32) (x0_left : (Nat → Int32)) (x0_far : (Nat → Int32)) (x0_tons : Int32) (x0_way : (Nat → Int32)) (x0_steps : Int32) (x0_met : Int64) (x0_queue : (Nat → Int32)) (x0_totals : (Nat → Int32)) => (lp (u2 (fX7_findFar_s7 p1)) n (0, x0_far)).bind (fun w5 => (lp (u2 (fX7_findFar_s40 n p2 x0_shelf x0_rowSort x0_rowSize x0_rows x0_moved x0_shown x0_tape x0_tapeSize x0_refused x0_lines x0_line x0_changes x0_coins x0_goods x0_good x0_works x0_work x0_years x0_gone x0_spent x0_at x0_token x0_from x0_figures x0_fault x0_numbers x0_statements x0_left x0_way x0_steps x0_met x0_queue x0_totals)) n (1, w5)).bind (fun w10 => some (w10, p2)))) X0
set_option maxHeartbeats 4000000 in
set_option maxRecDepth 100000 in
theorem kX7_findFar (l : Launch) (d : DT) (h0 : Nat → Nat) (r0_rows : Nat → Nat) (r0_line : Nat → Nat) (r0_good : Nat → Nat) (r0_work : Nat → Nat) (a0_kept : Option Nat) (a0_tried : Option Nat) (a0_chosen : Option Nat) (n : Nat) (x0_shelf : (Nat → Int32)) (x0_rowSort : (Nat → Int32)) (x0_rowSize : (Nat → Int32)) (x0_rows : (Nat → Nat → Int64)) (x0_moved : (Nat → Int64)) (x0_shown : (Nat → Int32)) (x0_tape : (Nat → Int32)) (x0_tapeSize : Int32) (x0_refused : (Nat → Int32)) (x0_lines : Int32) (x0_line : (Nat → Nat → Int32)) (x0_changes : (Nat → Int32)) (x0_coins : (Nat → Int32)) (x0_goods : Int32) (x0_good : (Nat → Nat → Int32)) (x0_works : Int32) (x0_work : (Nat → Nat → Int32)) (x0_years : Int32) (x0_gone : Int32) (x0_spent : Int32) (x0_at : Int32) (x0_token : Int32) (x0_from : Int32) (x0_figures : Int64) (x0_fault : Int32) (x0_numbers : (Nat → Int32)) (x0_statements : Int32) (x0_left : (Nat → Int32)) (x0_far : (Nat → Int32)) (x0_tons : Int32) (x0_way : (Nat → Int32)) (x0_steps : Int32) (x0_met : Int64) (x0_queue : (Nat → Int32)) (x0_totals : (Nat → Int32)) (p1 : Int32) (p2 : Int32)  {out : (Nat → Int32) × Int32} (hf : fX7_findFar n (x0_shelf, x0_rowSort, x0_rowSize, x0_rows, x0_moved, x0_shown, x0_tape, x0_tapeSize, x0_refused, x0_lines, x0_line, x0_changes, x0_coins, x0_goods, x0_good, x0_works, x0_work, x0_years, x0_gone, x0_spent, x0_at, x0_token, x0_from, x0_figures, x0_fault, x0_numbers, x0_statements, x0_left, x0_far, x0_tons, x0_way, x0_steps, x0_met, x0_queue, x0_totals) p1 p2 = some out) : Ct l d yX7_findFar cX7_findFar 9 none { frames := 1, cells := 0, slots := 0, locals := 22 } [.ref (h0 0), .int p1, .int p2] [gMd d h0 a0_kept a0_tried a0_chosen r0_rows r0_line r0_good r0_work x0_shelf x0_rowSort x0_rowSize x0_moved x0_shown x0_tape x0_tapeSize x0_refused x0_lines x0_changes x0_coins x0_goods x0_works x0_years x0_gone x0_spent x0_at x0_token x0_from x0_figures x0_fault x0_numbers x0_statements x0_left x0_far x0_tons x0_way x0_steps x0_met x0_queue x0_totals, gridI d r0_line 20 7 x0_line] (fun _ : Unit => (none, [gMd d h0 a0_kept a0_tried a0_chosen r0_rows r0_line r0_good r0_work x0_shelf x0_rowSort x0_rowSize x0_moved x0_shown x0_tape x0_tapeSize x0_refused x0_lines x0_changes x0_coins x0_goods x0_works x0_years x0_gone x0_spent x0_at x0_token x0_from x0_figures x0_fault x0_numbers x0_statements x0_left (out.1) (out.2) x0_way x0_steps x0_met x0_queue x0_totals, gridI d r0_line 20 7 x0_line])) := by
  refine Ct.of (by decide) (Nat.le_of_ble_eq_true rfl) ?_
  intro Φ hl hK hR
  subst hl
  have hK : Ok d Φ RX7 "findFar" cX7_findFar 9 none { frames := 1, cells := 0, slots := 0, locals := 22 } := hK
  unfold fX7_findFar at hf
  have hf := un35 hf
  show J d Φ 9 [gMd d h0 a0_kept a0_tried a0_chosen r0_rows r0_line r0_good r0_work x0_shelf x0_rowSort x0_rowSize x0_moved x0_shown x0_tape x0_tapeSize x0_refused x0_lines x0_changes x0_coins x0_goods x0_works x0_years x0_gone x0_spent x0_at x0_token x0_from x0_figures x0_fault x0_numbers x0_statements x0_left x0_far x0_tons x0_way x0_steps x0_met x0_queue x0_totals, gridI d r0_line 20 7 x0_line] 0 0 0 [(0, .ref (h0 0)), (1, .int p1), (2, .int p2)] []
  refine J_aload_n hK dX7_findFar_0 rfl 0 rfl rfl ?_
  refine J_iload_n hK dX7_findFar_1 rfl 2 rfl rfl ?_
  refine J_put (g' := gMd d h0 a0_kept a0_tried a0_chosen r0_rows r0_line r0_good r0_work x0_shelf x0_rowSort x0_rowSize x0_moved x0_shown x0_tape x0_tapeSize x0_refused x0_lines x0_changes x0_coins x0_goods x0_works x0_years x0_gone x0_spent x0_at x0_token x0_from x0_figures x0_fault x0_numbers x0_statements x0_left x0_far p2 x0_way x0_steps x0_met x0_queue x0_totals) (gs' := [gMd d h0 a0_kept a0_tried a0_chosen r0_rows r0_line r0_good r0_work x0_shelf x0_rowSort x0_rowSize x0_moved x0_shown x0_tape x0_tapeSize x0_refused x0_lines x0_changes x0_coins x0_goods x0_works x0_years x0_gone x0_spent x0_at x0_token x0_from x0_figures x0_fault x0_numbers x0_statements x0_left x0_far p2 x0_way x0_steps x0_met x0_queue x0_totals, gridI d r0_line 20 7 x0_line]) hK fp_RX7_251 dX7_findFar_2 rfl 0 0 rfl rfl rfl rfl (Nat.le_of_ble_eq_true rfl) rfl rfl ?_
  refine J_iconst (v := 0) hK dX7_findFar_5 rfl (by decide) ?_
  refine J_istore_n (L' := [(3, .int (0)), (0, .ref (h0 0)), (1, .int p1), (2, .int p2)]) hK dX7_findFar_6 rfl rfl (by decide) rfl ?_
  obtain ⟨e4, hl1, hf⟩ := bs hf
  have hx1_38 : ∀ (w5 : (Nat → Int32)), w5 = e4 → J d Φ 9 [gMd d h0 a0_kept a0_tried a0_chosen r0_rows r0_line r0_good r0_work x0_shelf x0_rowSort x0_rowSize x0_moved x0_shown x0_tape x0_tapeSize x0_refused x0_lines x0_changes x0_coins x0_goods x0_works x0_years x0_gone x0_spent x0_at x0_token x0_from x0_figures x0_fault x0_numbers x0_statements x0_left w5 p2 x0_way x0_steps x0_met x0_queue x0_totals, gridI d r0_line 20 7 x0_line] 0 0 38 [(0, .ref (h0 0))] [] := by
    intro w5 he
    rw [← he] at hf
    refine J_iconst (v := 1) hK dX7_findFar_38 rfl (by decide) ?_
    refine J_istore_n (L' := [(3, .int (1)), (0, .ref (h0 0))]) hK dX7_findFar_39 rfl rfl (by decide) rfl ?_
    obtain ⟨e9, hl6, hf⟩ := bs hf
    have hx6_317 : ∀ (w10 : (Nat → Int32)), w10 = e9 → J d Φ 9 [gMd d h0 a0_kept a0_tried a0_chosen r0_rows r0_line r0_good r0_work x0_shelf x0_rowSort x0_rowSize x0_moved x0_shown x0_tape x0_tapeSize x0_refused x0_lines x0_changes x0_coins x0_goods x0_works x0_years x0_gone x0_spent x0_at x0_token x0_from x0_figures x0_fault x0_numbers x0_statements x0_left w10 p2 x0_way x0_steps x0_met x0_queue x0_totals, gridI d r0_line 20 7 x0_line] 0 0 317 [] [] := by
      intro w10 he
      rw [← he] at hf
      obtain rfl := Option.some.inj hf
      exact J_vret hK hR dX7_findFar_317 () rfl (by decide) (by decide)
    have lo6 : ∀ (k : Nat) (z7 : Int32) (z8 : (Nat → Int32)), lp (u2 (fX7_findFar_s40 n p2 x0_shelf x0_rowSort x0_rowSize x0_rows x0_moved x0_shown x0_tape x0_tapeSize x0_refused x0_lines x0_line x0_changes x0_coins x0_goods x0_good x0_works x0_work x0_years x0_gone x0_spent x0_at x0_token x0_from x0_figures x0_fault x0_numbers x0_statements x0_left x0_way x0_steps x0_met x0_queue x0_totals)) k (z7, z8) = some e9 → J d Φ 9 [gMd d h0 a0_kept a0_tried a0_chosen r0_rows r0_line r0_good r0_work x0_shelf x0_rowSort x0_rowSize x0_moved x0_shown x0_tape x0_tapeSize x0_refused x0_lines x0_changes x0_coins x0_goods x0_works x0_years x0_gone x0_spent x0_at x0_token x0_from x0_figures x0_fault x0_numbers x0_statements x0_left z8 p2 x0_way x0_steps x0_met x0_queue x0_totals, gridI d r0_line 20 7 x0_line] 0 0 40 [(0, .ref (h0 0)), (3, .int z7)] [] := by
      intro k
      induction k with
      | zero => intro z7 z8 h; cases h
      | succ k ih6 =>
        intro z7 z8 h
        obtain ⟨k2, rr6, hk2, hs6, hr6⟩ := lp_ok h
        cases hk2
        have hs6 : fX7_findFar_s40 n p2 x0_shelf x0_rowSort x0_rowSize x0_rows x0_moved x0_shown x0_tape x0_tapeSize x0_refused x0_lines x0_line x0_changes x0_coins x0_goods x0_good x0_works x0_work x0_years x0_gone x0_spent x0_at x0_token x0_from x0_figures x0_fault x0_numbers x0_statements x0_left x0_way x0_steps x0_met x0_queue x0_totals z7 z8 = some rr6 := hs6
        unfold fX7_findFar_s40 at hs6
        refine J_iload_n hK dX7_findFar_40 rfl 1 rfl rfl ?_
        refine J_if_eq (tg := 317) hK dX7_findFar_41 rfl rfl (fun hc41 => ?_) (fun hc41 => ?_)
        · have hs6 := ip hc41 hs6
          exact J_loc [] rfl (hx6_317 z8 (lpx hs6 hr6))
        · have hs6 := iq hc41 hs6
          refine J_iconst (v := 0) hK dX7_findFar_44 rfl (by decide) ?_
          refine J_istore_n (L' := [(3, .int (0)), (0, .ref (h0 0))]) hK dX7_findFar_45 rfl rfl (by decide) rfl ?_
          refine J_iconst (v := 0) hK dX7_findFar_46 rfl (by decide) ?_
          refine J_istore (L' := [(4, .int (0)), (3, .int (0)), (0, .ref (h0 0))]) hK dX7_findFar_47 rfl (by decide) rfl ?_
          obtain ⟨e15, hl11, hs6⟩ := bs hs6
          have hx11_219 : ∀ (w16 : Int32) (w17 : (Nat → Int32)), (w16, w17) = e15 → J d Φ 9 [gMd d h0 a0_kept a0_tried a0_chosen r0_rows r0_line r0_good r0_work x0_shelf x0_rowSort x0_rowSize x0_moved x0_shown x0_tape x0_tapeSize x0_refused x0_lines x0_changes x0_coins x0_goods x0_works x0_years x0_gone x0_spent x0_at x0_token x0_from x0_figures x0_fault x0_numbers x0_statements x0_left w17 p2 x0_way x0_steps x0_met x0_queue x0_totals, gridI d r0_line 20 7 x0_line] 0 0 219 [(0, .ref (h0 0)), (3, .int w16)] [] := by
            intro w16 w17 he
            rw [← he] at hs6
            have hs6 := un2 hs6
            refine J_iconst (v := 0) hK dX7_findFar_219 rfl (by decide) ?_
            refine J_istore (L' := [(4, .int (0)), (0, .ref (h0 0)), (3, .int w16)]) hK dX7_findFar_220 rfl (by decide) rfl ?_
            obtain ⟨e22, hl18, hs6⟩ := bs hs6
            have hx18_314 : ∀ (w23 : Int32) (w24 : (Nat → Int32)), (w23, w24) = e22 → J d Φ 9 [gMd d h0 a0_kept a0_tried a0_chosen r0_rows r0_line r0_good r0_work x0_shelf x0_rowSort x0_rowSize x0_moved x0_shown x0_tape x0_tapeSize x0_refused x0_lines x0_changes x0_coins x0_goods x0_works x0_years x0_gone x0_spent x0_at x0_token x0_from x0_figures x0_fault x0_numbers x0_statements x0_left w24 p2 x0_way x0_steps x0_met x0_queue x0_totals, gridI d r0_line 20 7 x0_line] 0 0 314 [(0, .ref (h0 0)), (3, .int w23)] [] := by
              intro w23 w24 he
              rw [← he] at hs6
              have hs6 := un2 hs6
              refine J_goto hK dX7_findFar_314 (n := 40) rfl ?_
              exact (ih6 w23 w24 (lpc hs6 hr6))
            have lo18 : ∀ (k : Nat) (z19 : Int32) (z20 : Int32) (z21 : (Nat → Int32)), lp (u3 (fX7_findFar_s222 n x0_changes)) k (z19, z20, z21) = some e22 → J d Φ 9 [gMd d h0 a0_kept a0_tried a0_chosen r0_rows r0_line r0_good r0_work x0_shelf x0_rowSort x0_rowSize x0_moved x0_shown x0_tape x0_tapeSize x0_refused x0_lines x0_changes x0_coins x0_goods x0_works x0_years x0_gone x0_spent x0_at x0_token x0_from x0_figures x0_fault x0_numbers x0_statements x0_left z21 p2 x0_way x0_steps x0_met x0_queue x0_totals, gridI d r0_line 20 7 x0_line] 0 0 222 [(0, .ref (h0 0)), (3, .int z19), (4, .int z20)] [] := by
              intro k
              induction k with
              | zero => intro z19 z20 z21 h; cases h
              | succ k ih18 =>
                intro z19 z20 z21 h
                obtain ⟨k2, rr18, hk2, hs18, hr18⟩ := lp_ok h
                cases hk2
                have hs18 : fX7_findFar_s222 n x0_changes z19 z20 z21 = some rr18 := hs18
                unfold fX7_findFar_s222 at hs18
                refine J_iload hK dX7_findFar_222 rfl 2 rfl ?_
                refine J_bipush (v := 36) hK dX7_findFar_224 rfl (by decide) ?_
                refine J_icmp_ge (tg := 314) hK dX7_findFar_226 rfl rfl (fun hc226 => ?_) (fun hc226 => ?_)
                · have hs18 := ip hc226 hs18
                  exact J_loc [0, 1] rfl (hx18_314 z19 z21 (lpx hs18 hr18))
                · have hs18 := iq hc226 hs18
                  refine J_iconst (v := 0) hK dX7_findFar_229 rfl (by decide) ?_
                  refine J_istore (L' := [(5, .int (0)), (0, .ref (h0 0)), (3, .int z19), (4, .int z20)]) hK dX7_findFar_230 rfl (by decide) rfl ?_
                  obtain ⟨e29, hl25, hs18⟩ := bs hs18
                  have hx25_308 : ∀ (w30 : Int32) (w31 : (Nat → Int32)), (w30, w31) = e29 → J d Φ 9 [gMd d h0 a0_kept a0_tried a0_chosen r0_rows r0_line r0_good r0_work x0_shelf x0_rowSort x0_rowSize x0_moved x0_shown x0_tape x0_tapeSize x0_refused x0_lines x0_changes x0_coins x0_goods x0_works x0_years x0_gone x0_spent x0_at x0_token x0_from x0_figures x0_fault x0_numbers x0_statements x0_left w31 p2 x0_way x0_steps x0_met x0_queue x0_totals, gridI d r0_line 20 7 x0_line] 0 0 308 [(0, .ref (h0 0)), (3, .int w30), (4, .int z20)] [] := by
                    intro w30 w31 he
                    rw [← he] at hs18
                    have hs18 := un2 hs18
                    refine J_iinc (L' := [(4, .int (z20 + 1)), (0, .ref (h0 0)), (3, .int w30)]) (v := (z20 + 1)) hK dX7_findFar_308 rfl 2 rfl rfl (by decide) rfl ?_
                    refine J_goto hK dX7_findFar_311 (n := 222) rfl ?_
                    exact J_loc [1, 2, 0] rfl (ih18 w30 (z20 + 1) w31 (lpc hs18 hr18))
                  have lo25 : ∀ (k : Nat) (z26 : Int32) (z27 : Int32) (z28 : (Nat → Int32)), lp (u3 (fX7_findFar_s232 x0_changes z20)) k (z26, z27, z28) = some e29 → J d Φ 9 [gMd d h0 a0_kept a0_tried a0_chosen r0_rows r0_line r0_good r0_work x0_shelf x0_rowSort x0_rowSize x0_moved x0_shown x0_tape x0_tapeSize x0_refused x0_lines x0_changes x0_coins x0_goods x0_works x0_years x0_gone x0_spent x0_at x0_token x0_from x0_figures x0_fault x0_numbers x0_statements x0_left z28 p2 x0_way x0_steps x0_met x0_queue x0_totals, gridI d r0_line 20 7 x0_line] 0 0 232 [(0, .ref (h0 0)), (3, .int z26), (4, .int z20), (5, .int z27)] [] := by
                    intro k
                    induction k with
                    | zero => intro z26 z27 z28 h; cases h
                    | succ k ih25 =>
                      intro z26 z27 z28 h
                      obtain ⟨k2, rr25, hk2, hs25, hr25⟩ := lp_ok h
                      cases hk2
                      have hs25 : fX7_findFar_s232 x0_changes z20 z26 z27 z28 = some rr25 := hs25
                      unfold fX7_findFar_s232 at hs25
                      refine J_iload hK dX7_findFar_232 rfl 3 rfl ?_
                      refine J_iconst (v := 3) hK dX7_findFar_234 rfl (by decide) ?_
                      refine J_icmp_ge (tg := 308) hK dX7_findFar_235 rfl rfl (fun hc235 => ?_) (fun hc235 => ?_)
                      · have hs25 := ip hc235 hs25
                        exact J_loc [0, 1, 2] rfl (hx25_308 z26 z28 (lpx hs25 hr25))
                      · have hs25 := iq hc235 hs25
                        refine J_iload hK dX7_findFar_238 rfl 2 rfl ?_
                        refine J_iconst (v := 3) hK dX7_findFar_240 rfl (by decide) ?_
                        refine J_idiv hK dX7_findFar_241 rfl (by decide) ?_
                        refine J_iconst (v := 3) hK dX7_findFar_242 rfl (by decide) ?_
                        refine J_imul hK dX7_findFar_243 rfl ?_
                        refine J_iload hK dX7_findFar_244 rfl 3 rfl ?_
                        refine J_iadd hK dX7_findFar_246 rfl ?_
                        refine J_istore (L' := [(6, .int (((z20 / 3) * 3) + z27)), (0, .ref (h0 0)), (3, .int z26), (4, .int z20), (5, .int z27)]) hK dX7_findFar_247 rfl (by decide) rfl ?_
                        refine J_aload_n hK dX7_findFar_249 rfl 1 rfl rfl ?_
                        refine J_get hK fo_RX7_64 dX7_findFar_250 rfl 0 0 rfl rfl rfl ?_
                        refine J_iload hK dX7_findFar_253 rfl 0 rfl ?_
                        obtain ⟨v32, ev32, hs25⟩ := bs hs25
                        refine J_iald hK dX7_findFar_255 rfl 0 16 rfl rfl ev32 ?_
                        refine J_aload_n hK dX7_findFar_256 rfl 1 rfl rfl ?_
                        refine J_get hK fo_RX7_42 dX7_findFar_257 rfl 0 0 rfl rfl rfl ?_
                        refine J_iload hK dX7_findFar_260 rfl 3 rfl ?_
                        refine J_iconst (v := 3) hK dX7_findFar_262 rfl (by decide) ?_
                        refine J_idiv hK dX7_findFar_263 rfl (by decide) ?_
                        obtain ⟨v33, ev33, hs25⟩ := bs hs25
                        refine J_iald hK dX7_findFar_264 rfl 0 10 rfl rfl ev33 ?_
                        refine J_iadd hK dX7_findFar_265 rfl ?_
                        refine J_aload_n hK dX7_findFar_266 rfl 1 rfl rfl ?_
                        refine J_get hK fo_RX7_64 dX7_findFar_267 rfl 0 0 rfl rfl rfl ?_
                        refine J_iload hK dX7_findFar_270 rfl 3 rfl ?_
                        obtain ⟨v34, ev34, hs25⟩ := bs hs25
                        refine J_iald hK dX7_findFar_272 rfl 0 16 rfl rfl ev34 ?_
                        refine J_icmp_ge (tg := 302) hK dX7_findFar_273 rfl rfl (fun hc273 => ?_) (fun hc273 => ?_)
                        · have hs25 := ip hc273 hs25
                          refine J_iinc (L' := [(5, .int (z27 + 1)), (6, .int (((z20 / 3) * 3) + z27)), (0, .ref (h0 0)), (3, .int z26), (4, .int z20)]) (v := (z27 + 1)) hK dX7_findFar_302 rfl 4 rfl rfl (by decide) rfl ?_
                          refine J_goto hK dX7_findFar_305 (n := 232) rfl ?_
                          exact J_loc [2, 3, 4, 0] rfl (ih25 z26 (z27 + 1) z28 (lpc hs25 hr25))
                        · have hs25 := iq hc273 hs25
                          refine J_aload_n hK dX7_findFar_276 rfl 1 rfl rfl ?_
                          refine J_get hK fo_RX7_64 dX7_findFar_277 rfl 0 0 rfl rfl rfl ?_
                          refine J_iload hK dX7_findFar_280 rfl 3 rfl ?_
                          refine J_aload_n hK dX7_findFar_282 rfl 1 rfl rfl ?_
                          refine J_get hK fo_RX7_64 dX7_findFar_283 rfl 0 0 rfl rfl rfl ?_
                          refine J_iload hK dX7_findFar_286 rfl 0 rfl ?_
                          obtain ⟨v35, ev35, hs25⟩ := bs hs25
                          refine J_iald hK dX7_findFar_288 rfl 0 16 rfl rfl ev35 ?_
                          refine J_aload_n hK dX7_findFar_289 rfl 1 rfl rfl ?_
                          refine J_get hK fo_RX7_42 dX7_findFar_290 rfl 0 0 rfl rfl rfl ?_
                          refine J_iload hK dX7_findFar_293 rfl 3 rfl ?_
                          refine J_iconst (v := 3) hK dX7_findFar_295 rfl (by decide) ?_
                          refine J_idiv hK dX7_findFar_296 rfl (by decide) ?_
                          obtain ⟨v36, ev36, hs25⟩ := bs hs25
                          refine J_iald hK dX7_findFar_297 rfl 0 10 rfl rfl ev36 ?_
                          refine J_iadd hK dX7_findFar_298 rfl ?_
                          obtain ⟨f37, ef37, hs25⟩ := bs hs25
                          refine J_iast (g' := gMd d h0 a0_kept a0_tried a0_chosen r0_rows r0_line r0_good r0_work x0_shelf x0_rowSort x0_rowSize x0_moved x0_shown x0_tape x0_tapeSize x0_refused x0_lines x0_changes x0_coins x0_goods x0_works x0_years x0_gone x0_spent x0_at x0_token x0_from x0_figures x0_fault x0_numbers x0_statements x0_left f37 p2 x0_way x0_steps x0_met x0_queue x0_totals) (gs' := [gMd d h0 a0_kept a0_tried a0_chosen r0_rows r0_line r0_good r0_work x0_shelf x0_rowSort x0_rowSize x0_moved x0_shown x0_tape x0_tapeSize x0_refused x0_lines x0_changes x0_coins x0_goods x0_works x0_years x0_gone x0_spent x0_at x0_token x0_from x0_figures x0_fault x0_numbers x0_statements x0_left f37 p2 x0_way x0_steps x0_met x0_queue x0_totals, gridI d r0_line 20 7 x0_line]) hK dX7_findFar_299 rfl 0 16 rfl rfl ef37 rfl rfl ?_
                          refine J_iconst (v := 1) hK dX7_findFar_300 rfl (by decide) ?_
                          refine J_istore_n (L' := [(3, .int (1)), (6, .int (((z20 / 3) * 3) + z27)), (0, .ref (h0 0)), (4, .int z20), (5, .int z27)]) hK dX7_findFar_301 rfl rfl (by decide) rfl ?_
                          refine J_iinc (L' := [(5, .int (z27 + 1)), (3, .int (1)), (6, .int (((z20 / 3) * 3) + z27)), (0, .ref (h0 0)), (4, .int z20)]) (v := (z27 + 1)) hK dX7_findFar_302 rfl 4 rfl rfl (by decide) rfl ?_
                          refine J_goto hK dX7_findFar_305 (n := 232) rfl ?_
                          exact J_loc [3, 1, 4, 0] rfl (ih25 (1) (z27 + 1) f37 (lpc hs25 hr25))
                  exact J_loc [1, 2, 3, 0] rfl (lo25 n z19 (0) z21 hl25)
            exact J_loc [1, 2, 0] rfl (lo18 n w16 (0) w17 hl18)
          have lo11 : ∀ (k : Nat) (z12 : Int32) (z13 : Int32) (z14 : (Nat → Int32)), lp (u3 (fX7_findFar_s49 n p2 x0_shelf x0_rowSort x0_rowSize x0_rows x0_moved x0_shown x0_tape x0_tapeSize x0_refused x0_lines x0_line x0_changes x0_coins x0_goods x0_good x0_works x0_work x0_years x0_gone x0_spent x0_at x0_token x0_from x0_figures x0_fault x0_numbers x0_statements x0_left x0_way x0_steps x0_met x0_queue x0_totals)) k (z12, z13, z14) = some e15 → J d Φ 9 [gMd d h0 a0_kept a0_tried a0_chosen r0_rows r0_line r0_good r0_work x0_shelf x0_rowSort x0_rowSize x0_moved x0_shown x0_tape x0_tapeSize x0_refused x0_lines x0_changes x0_coins x0_goods x0_works x0_years x0_gone x0_spent x0_at x0_token x0_from x0_figures x0_fault x0_numbers x0_statements x0_left z14 p2 x0_way x0_steps x0_met x0_queue x0_totals, gridI d r0_line 20 7 x0_line] 0 0 49 [(0, .ref (h0 0)), (3, .int z12), (4, .int z13)] [] := by
            intro k
            induction k with
            | zero => intro z12 z13 z14 h; cases h
            | succ k ih11 =>
              intro z12 z13 z14 h
              obtain ⟨k2, rr11, hk2, hs11, hr11⟩ := lp_ok h
              cases hk2
              have hs11 : fX7_findFar_s49 n p2 x0_shelf x0_rowSort x0_rowSize x0_rows x0_moved x0_shown x0_tape x0_tapeSize x0_refused x0_lines x0_line x0_changes x0_coins x0_goods x0_good x0_works x0_work x0_years x0_gone x0_spent x0_at x0_token x0_from x0_figures x0_fault x0_numbers x0_statements x0_left x0_way x0_steps x0_met x0_queue x0_totals z12 z13 z14 = some rr11 := hs11
              unfold fX7_findFar_s49 at hs11
              refine J_iload hK dX7_findFar_49 rfl 2 rfl ?_
              refine J_aload_n hK dX7_findFar_51 rfl 0 rfl rfl ?_
              refine J_get hK fo_RX7_82 dX7_findFar_52 rfl 0 0 rfl rfl rfl ?_
              refine J_icmp_ge (tg := 219) hK dX7_findFar_55 rfl rfl (fun hc55 => ?_) (fun hc55 => ?_)
              · have hs11 := ip hc55 hs11
                exact J_loc [0, 1] rfl (hx11_219 z12 z14 (lpx hs11 hr11))
              · have hs11 := iq hc55 hs11
                refine J_iconst (v := 0) hK dX7_findFar_58 rfl (by decide) ?_
                refine J_istore (L' := [(5, .int (0)), (0, .ref (h0 0)), (3, .int z12), (4, .int z13)]) hK dX7_findFar_59 rfl (by decide) rfl ?_
                obtain ⟨e42, hl38, hs11⟩ := bs hs11
                have hx38_213 : ∀ (w43 : Int32) (w44 : (Nat → Int32)), (w43, w44) = e42 → J d Φ 9 [gMd d h0 a0_kept a0_tried a0_chosen r0_rows r0_line r0_good r0_work x0_shelf x0_rowSort x0_rowSize x0_moved x0_shown x0_tape x0_tapeSize x0_refused x0_lines x0_changes x0_coins x0_goods x0_works x0_years x0_gone x0_spent x0_at x0_token x0_from x0_figures x0_fault x0_numbers x0_statements x0_left w44 p2 x0_way x0_steps x0_met x0_queue x0_totals, gridI d r0_line 20 7 x0_line] 0 0 213 [(0, .ref (h0 0)), (3, .int w43), (4, .int z13)] [] := by
                  intro w43 w44 he
                  rw [← he] at hs11
                  have hs11 := un2 hs11
                  refine J_iinc (L' := [(4, .int (z13 + 1)), (0, .ref (h0 0)), (3, .int w43)]) (v := (z13 + 1)) hK dX7_findFar_213 rfl 2 rfl rfl (by decide) rfl ?_
                  refine J_goto hK dX7_findFar_216 (n := 49) rfl ?_
                  exact J_loc [1, 2, 0] rfl (ih11 w43 (z13 + 1) w44 (lpc hs11 hr11))
                have lo38 : ∀ (k : Nat) (z39 : Int32) (z40 : Int32) (z41 : (Nat → Int32)), lp (u3 (fX7_findFar_s61 p2 x0_shelf x0_rowSort x0_rowSize x0_rows x0_moved x0_shown x0_tape x0_tapeSize x0_refused x0_lines x0_line x0_changes x0_coins x0_goods x0_good x0_works x0_work x0_years x0_gone x0_spent x0_at x0_token x0_from x0_figures x0_fault x0_numbers x0_statements x0_left x0_way x0_steps x0_met x0_queue x0_totals z13)) k (z39, z40, z41) = some e42 → J d Φ 9 [gMd d h0 a0_kept a0_tried a0_chosen r0_rows r0_line r0_good r0_work x0_shelf x0_rowSort x0_rowSize x0_moved x0_shown x0_tape x0_tapeSize x0_refused x0_lines x0_changes x0_coins x0_goods x0_works x0_years x0_gone x0_spent x0_at x0_token x0_from x0_figures x0_fault x0_numbers x0_statements x0_left z41 p2 x0_way x0_steps x0_met x0_queue x0_totals, gridI d r0_line 20 7 x0_line] 0 0 61 [(0, .ref (h0 0)), (3, .int z39), (4, .int z13), (5, .int z40)] [] := by
                  intro k
                  induction k with
                  | zero => intro z39 z40 z41 h; cases h
                  | succ k ih38 =>
                    intro z39 z40 z41 h
                    obtain ⟨k2, rr38, hk2, hs38, hr38⟩ := lp_ok h
                    cases hk2
                    have hs38 : fX7_findFar_s61 p2 x0_shelf x0_rowSort x0_rowSize x0_rows x0_moved x0_shown x0_tape x0_tapeSize x0_refused x0_lines x0_line x0_changes x0_coins x0_goods x0_good x0_works x0_work x0_years x0_gone x0_spent x0_at x0_token x0_from x0_figures x0_fault x0_numbers x0_statements x0_left x0_way x0_steps x0_met x0_queue x0_totals z13 z39 z40 z41 = some rr38 := hs38
                    unfold fX7_findFar_s61 at hs38
                    refine J_iload hK dX7_findFar_61 rfl 3 rfl ?_
                    refine J_iconst (v := 3) hK dX7_findFar_63 rfl (by decide) ?_
                    refine J_icmp_ge (tg := 213) hK dX7_findFar_64 rfl rfl (fun hc64 => ?_) (fun hc64 => ?_)
                    · have hs38 := ip hc64 hs38
                      exact J_loc [0, 1, 2] rfl (hx38_213 z39 z41 (lpx hs38 hr38))
                    · have hs38 := iq hc64 hs38
                      refine J_aload_n hK dX7_findFar_67 rfl 0 rfl rfl ?_
                      refine J_iload hK dX7_findFar_68 rfl 2 rfl ?_
                      refine J_iload hK dX7_findFar_70 rfl 3 rfl ?_
                      obtain ⟨v45, e46, hs38⟩ := bs hs38
                      refine J_callV (m' := 2) (ce' := 0) (sl' := 0) (gr := []) (gs' := fun _ => [gMd d h0 a0_kept a0_tried a0_chosen r0_rows r0_line r0_good r0_work x0_shelf x0_rowSort x0_rowSize x0_moved x0_shown x0_tape x0_tapeSize x0_refused x0_lines x0_changes x0_coins x0_goods x0_works x0_years x0_gone x0_spent x0_at x0_token x0_from x0_figures x0_fault x0_numbers x0_statements x0_left z41 p2 x0_way x0_steps x0_met x0_queue x0_totals, gridI d r0_line 20 7 x0_line]) (st' := fun _ => [.int v45]) (st := []) hK dX7_findFar_72 cv_RX7_255 iv_yX7_bears (As := [.int z13, .int z40]) (kX7_bears _ d h0 r0_rows r0_line r0_good r0_work a0_kept a0_tried a0_chosen x0_shelf x0_rowSort x0_rowSize x0_rows x0_moved x0_shown x0_tape x0_tapeSize x0_refused x0_lines x0_line x0_changes x0_coins x0_goods x0_good x0_works x0_work x0_years x0_gone x0_spent x0_at x0_token x0_from x0_figures x0_fault x0_numbers x0_statements x0_left z41 p2 x0_way x0_steps x0_met x0_queue x0_totals z13 z40 e46) rfl rfl (Nat.le_of_ble_eq_true rfl) (by decide) 0 0 rfl rfl rfl [0, 1] [] rfl rfl rfl rfl [0, 1] rfl (fun _ => rfl) (fun _ => rfl) rfl rfl rfl (fun _ => rfl) (fun _ => ?_)
                      refine J_if_eq (tg := 207) hK dX7_findFar_75 rfl rfl (fun hc75 => ?_) (fun hc75 => ?_)
                      · have hs38 := ip hc75 hs38
                        refine J_iinc (L' := [(5, .int (z40 + 1)), (0, .ref (h0 0)), (3, .int z39), (4, .int z13)]) (v := (z40 + 1)) hK dX7_findFar_207 rfl 3 rfl rfl (by decide) rfl ?_
                        refine J_goto hK dX7_findFar_210 (n := 61) rfl ?_
                        exact J_loc [1, 2, 3, 0] rfl (ih38 z39 (z40 + 1) z41 (lpc hs38 hr38))
                      · have hs38 := iq hc75 hs38
                        refine J_iconst (v := 3) hK dX7_findFar_78 rfl (by decide) ?_
                        refine J_aload_n hK dX7_findFar_79 rfl 0 rfl rfl ?_
                        refine J_get hK fo_RX7_39 dX7_findFar_80 rfl 0 0 rfl rfl rfl ?_
                        refine J_iload hK dX7_findFar_83 rfl 2 rfl ?_
                        obtain ⟨q47, eq47, hs38⟩ := bs hs38
                        refine J_aald hK dX7_findFar_85 rfl 0 9 rfl rfl rfl eq47 ?_
                        refine J_iconst (v := 0) hK dX7_findFar_86 rfl (by decide) ?_
                        obtain ⟨v48, ev48, hs38⟩ := bs hs38
                        refine J_iald hK dX7_findFar_87 rfl 1 q47 rfl (gridI_at (ck_ok eq47).2.2) ev48 ?_
                        refine J_imul hK dX7_findFar_88 rfl ?_
                        refine J_iload hK dX7_findFar_89 rfl 3 rfl ?_
                        refine J_iadd hK dX7_findFar_91 rfl ?_
                        refine J_istore (L' := [(6, .int ((3 * v48) + z40)), (0, .ref (h0 0)), (3, .int z39), (4, .int z13), (5, .int z40)]) hK dX7_findFar_92 rfl (by decide) rfl ?_
                        refine J_iconst (v := 3) hK dX7_findFar_94 rfl (by decide) ?_
                        refine J_aload_n hK dX7_findFar_95 rfl 1 rfl rfl ?_
                        refine J_get hK fo_RX7_39 dX7_findFar_96 rfl 0 0 rfl rfl rfl ?_
                        refine J_iload hK dX7_findFar_99 rfl 3 rfl ?_
                        obtain ⟨q49, eq49, hs38⟩ := bs hs38
                        refine J_aald hK dX7_findFar_101 rfl 0 9 rfl rfl rfl eq49 ?_
                        refine J_iconst (v := 1) hK dX7_findFar_102 rfl (by decide) ?_
                        obtain ⟨v50, ev50, hs38⟩ := bs hs38
                        refine J_iald hK dX7_findFar_103 rfl 1 q49 rfl (gridI_at (ck_ok eq49).2.2) ev50 ?_
                        refine J_imul hK dX7_findFar_104 rfl ?_
                        refine J_iload hK dX7_findFar_105 rfl 4 rfl ?_
                        refine J_iadd hK dX7_findFar_107 rfl ?_
                        refine J_istore (L' := [(7, .int ((3 * v50) + z40)), (6, .int ((3 * v48) + z40)), (0, .ref (h0 0)), (3, .int z39), (4, .int z13), (5, .int z40)]) hK dX7_findFar_108 rfl (by decide) rfl ?_
                        refine J_aload_n hK dX7_findFar_110 rfl 2 rfl rfl ?_
                        refine J_get hK fo_RX7_39 dX7_findFar_111 rfl 0 0 rfl rfl rfl ?_
                        refine J_iload hK dX7_findFar_114 rfl 4 rfl ?_
                        obtain ⟨q51, eq51, hs38⟩ := bs hs38
                        refine J_aald hK dX7_findFar_116 rfl 0 9 rfl rfl rfl eq51 ?_
                        refine J_iconst (v := 3) hK dX7_findFar_117 rfl (by decide) ?_
                        obtain ⟨v52, ev52, hs38⟩ := bs hs38
                        refine J_iald hK dX7_findFar_118 rfl 1 q51 rfl (gridI_at (ck_ok eq51).2.2) ev52 ?_
                        refine J_aload_n hK dX7_findFar_119 rfl 2 rfl rfl ?_
                        refine J_get hK fo_RX7_45 dX7_findFar_120 rfl 0 0 rfl rfl rfl ?_
                        refine J_iload hK dX7_findFar_123 rfl 5 rfl ?_
                        obtain ⟨v53, ev53, hs38⟩ := bs hs38
                        refine J_iald hK dX7_findFar_125 rfl 0 11 rfl rfl ev53 ?_
                        refine J_imul hK dX7_findFar_126 rfl ?_
                        refine J_istore (L' := [(8, .int (v52 * v53)), (7, .int ((3 * v50) + z40)), (6, .int ((3 * v48) + z40)), (0, .ref (h0 0)), (3, .int z39), (4, .int z13), (5, .int z40)]) hK dX7_findFar_127 rfl (by decide) rfl ?_
                        refine J_aload_n hK dX7_findFar_129 rfl 3 rfl rfl ?_
                        refine J_get hK fo_RX7_64 dX7_findFar_130 rfl 0 0 rfl rfl rfl ?_
                        refine J_iload hK dX7_findFar_133 rfl 1 rfl ?_
                        obtain ⟨v54, ev54, hs38⟩ := bs hs38
                        refine J_iald hK dX7_findFar_135 rfl 0 16 rfl rfl ev54 ?_
                        refine J_iload hK dX7_findFar_136 rfl 0 rfl ?_
                        refine J_iadd hK dX7_findFar_138 rfl ?_
                        refine J_aload_n hK dX7_findFar_139 rfl 3 rfl rfl ?_
                        refine J_get hK fo_RX7_64 dX7_findFar_140 rfl 0 0 rfl rfl rfl ?_
                        refine J_iload hK dX7_findFar_143 rfl 2 rfl ?_
                        obtain ⟨v55, ev55, hs38⟩ := bs hs38
                        refine J_iald hK dX7_findFar_145 rfl 0 16 rfl rfl ev55 ?_
                        have j168 : ∀ (x56 : (Nat → Int32)) (y57 : Int32), fX7_findFar_j168 z40 v48 v50 v52 v53 x56 y57 = some rr38 → J d Φ 9 [gMd d h0 a0_kept a0_tried a0_chosen r0_rows r0_line r0_good r0_work x0_shelf x0_rowSort x0_rowSize x0_moved x0_shown x0_tape x0_tapeSize x0_refused x0_lines x0_changes x0_coins x0_goods x0_works x0_years x0_gone x0_spent x0_at x0_token x0_from x0_figures x0_fault x0_numbers x0_statements x0_left x56 p2 x0_way x0_steps x0_met x0_queue x0_totals, gridI d r0_line 20 7 x0_line] 0 0 168 [(0, .ref (h0 0)), (3, .int y57), (4, .int z13), (5, .int z40), (6, .int ((3 * v48) + z40)), (7, .int ((3 * v50) + z40)), (8, .int (v52 * v53))] [] := by
                          intro x56 y57 hs38
                          unfold fX7_findFar_j168 at hs38
                          refine J_aload_n hK dX7_findFar_168 rfl 0 rfl rfl ?_
                          refine J_get hK fo_RX7_64 dX7_findFar_169 rfl 0 0 rfl rfl rfl ?_
                          refine J_iload hK dX7_findFar_172 rfl 4 rfl ?_
                          obtain ⟨v58, ev58, hs38⟩ := bs hs38
                          refine J_iald hK dX7_findFar_174 rfl 0 16 rfl rfl ev58 ?_
                          refine J_iload hK dX7_findFar_175 rfl 6 rfl ?_
                          refine J_iadd hK dX7_findFar_177 rfl ?_
                          refine J_aload_n hK dX7_findFar_178 rfl 0 rfl rfl ?_
                          refine J_get hK fo_RX7_64 dX7_findFar_179 rfl 0 0 rfl rfl rfl ?_
                          refine J_iload hK dX7_findFar_182 rfl 5 rfl ?_
                          obtain ⟨v59, ev59, hs38⟩ := bs hs38
                          refine J_iald hK dX7_findFar_184 rfl 0 16 rfl rfl ev59 ?_
                          refine J_icmp_ge (tg := 207) hK dX7_findFar_185 rfl rfl (fun hc185 => ?_) (fun hc185 => ?_)
                          · have hs38 := ip hc185 hs38
                            refine J_iinc (L' := [(5, .int (z40 + 1)), (0, .ref (h0 0)), (3, .int y57), (4, .int z13), (6, .int ((3 * v48) + z40)), (7, .int ((3 * v50) + z40)), (8, .int (v52 * v53))]) (v := (z40 + 1)) hK dX7_findFar_207 rfl 3 rfl rfl (by decide) rfl ?_
                            refine J_goto hK dX7_findFar_210 (n := 61) rfl ?_
                            exact J_loc [1, 2, 3, 0] rfl (ih38 y57 (z40 + 1) x56 (lpc hs38 hr38))
                          · have hs38 := iq hc185 hs38
                            refine J_aload_n hK dX7_findFar_188 rfl 0 rfl rfl ?_
                            refine J_get hK fo_RX7_64 dX7_findFar_189 rfl 0 0 rfl rfl rfl ?_
                            refine J_iload hK dX7_findFar_192 rfl 5 rfl ?_
                            refine J_aload_n hK dX7_findFar_194 rfl 0 rfl rfl ?_
                            refine J_get hK fo_RX7_64 dX7_findFar_195 rfl 0 0 rfl rfl rfl ?_
                            refine J_iload hK dX7_findFar_198 rfl 4 rfl ?_
                            obtain ⟨v60, ev60, hs38⟩ := bs hs38
                            refine J_iald hK dX7_findFar_200 rfl 0 16 rfl rfl ev60 ?_
                            refine J_iload hK dX7_findFar_201 rfl 6 rfl ?_
                            refine J_iadd hK dX7_findFar_203 rfl ?_
                            obtain ⟨f61, ef61, hs38⟩ := bs hs38
                            refine J_iast (g' := gMd d h0 a0_kept a0_tried a0_chosen r0_rows r0_line r0_good r0_work x0_shelf x0_rowSort x0_rowSize x0_moved x0_shown x0_tape x0_tapeSize x0_refused x0_lines x0_changes x0_coins x0_goods x0_works x0_years x0_gone x0_spent x0_at x0_token x0_from x0_figures x0_fault x0_numbers x0_statements x0_left f61 p2 x0_way x0_steps x0_met x0_queue x0_totals) (gs' := [gMd d h0 a0_kept a0_tried a0_chosen r0_rows r0_line r0_good r0_work x0_shelf x0_rowSort x0_rowSize x0_moved x0_shown x0_tape x0_tapeSize x0_refused x0_lines x0_changes x0_coins x0_goods x0_works x0_years x0_gone x0_spent x0_at x0_token x0_from x0_figures x0_fault x0_numbers x0_statements x0_left f61 p2 x0_way x0_steps x0_met x0_queue x0_totals, gridI d r0_line 20 7 x0_line]) hK dX7_findFar_204 rfl 0 16 rfl rfl ef61 rfl rfl ?_
                            refine J_iconst (v := 1) hK dX7_findFar_205 rfl (by decide) ?_
                            refine J_istore_n (L' := [(3, .int (1)), (0, .ref (h0 0)), (4, .int z13), (5, .int z40), (6, .int ((3 * v48) + z40)), (7, .int ((3 * v50) + z40)), (8, .int (v52 * v53))]) hK dX7_findFar_206 rfl rfl (by decide) rfl ?_
                            refine J_iinc (L' := [(5, .int (z40 + 1)), (3, .int (1)), (0, .ref (h0 0)), (4, .int z13), (6, .int ((3 * v48) + z40)), (7, .int ((3 * v50) + z40)), (8, .int (v52 * v53))]) (v := (z40 + 1)) hK dX7_findFar_207 rfl 3 rfl rfl (by decide) rfl ?_
                            refine J_goto hK dX7_findFar_210 (n := 61) rfl ?_
                            exact J_loc [2, 1, 3, 0] rfl (ih38 (1) (z40 + 1) f61 (lpc hs38 hr38))
                        refine J_icmp_ge (tg := 168) hK dX7_findFar_146 rfl rfl (fun hc146 => ?_) (fun hc146 => ?_)
                        · have hs38 := ip hc146 hs38
                          exact J_loc [3, 4, 5, 6, 2, 1, 0] rfl (j168 z41 z39 hs38)
                        · have hs38 := iq hc146 hs38
                          refine J_aload_n hK dX7_findFar_149 rfl 3 rfl rfl ?_
                          refine J_get hK fo_RX7_64 dX7_findFar_150 rfl 0 0 rfl rfl rfl ?_
                          refine J_iload hK dX7_findFar_153 rfl 2 rfl ?_
                          refine J_aload_n hK dX7_findFar_155 rfl 3 rfl rfl ?_
                          refine J_get hK fo_RX7_64 dX7_findFar_156 rfl 0 0 rfl rfl rfl ?_
                          refine J_iload hK dX7_findFar_159 rfl 1 rfl ?_
                          obtain ⟨v62, ev62, hs38⟩ := bs hs38
                          refine J_iald hK dX7_findFar_161 rfl 0 16 rfl rfl ev62 ?_
                          refine J_iload hK dX7_findFar_162 rfl 0 rfl ?_
                          refine J_iadd hK dX7_findFar_164 rfl ?_
                          obtain ⟨f63, ef63, hs38⟩ := bs hs38
                          refine J_iast (g' := gMd d h0 a0_kept a0_tried a0_chosen r0_rows r0_line r0_good r0_work x0_shelf x0_rowSort x0_rowSize x0_moved x0_shown x0_tape x0_tapeSize x0_refused x0_lines x0_changes x0_coins x0_goods x0_works x0_years x0_gone x0_spent x0_at x0_token x0_from x0_figures x0_fault x0_numbers x0_statements x0_left f63 p2 x0_way x0_steps x0_met x0_queue x0_totals) (gs' := [gMd d h0 a0_kept a0_tried a0_chosen r0_rows r0_line r0_good r0_work x0_shelf x0_rowSort x0_rowSize x0_moved x0_shown x0_tape x0_tapeSize x0_refused x0_lines x0_changes x0_coins x0_goods x0_works x0_years x0_gone x0_spent x0_at x0_token x0_from x0_figures x0_fault x0_numbers x0_statements x0_left f63 p2 x0_way x0_steps x0_met x0_queue x0_totals, gridI d r0_line 20 7 x0_line]) hK dX7_findFar_165 rfl 0 16 rfl rfl ef63 rfl rfl ?_
                          refine J_iconst (v := 1) hK dX7_findFar_166 rfl (by decide) ?_
                          refine J_istore_n (L' := [(3, .int (1)), (8, .int (v52 * v53)), (7, .int ((3 * v50) + z40)), (6, .int ((3 * v48) + z40)), (0, .ref (h0 0)), (4, .int z13), (5, .int z40)]) hK dX7_findFar_167 rfl rfl (by decide) rfl ?_
                          exact J_loc [4, 0, 5, 6, 3, 2, 1] rfl (j168 f63 (1) hs38)
                exact J_loc [1, 2, 3, 0] rfl (lo38 n z12 (0) z14 hl38)
          exact J_loc [2, 1, 0] rfl (lo11 n (0) (0) z8 hl11)
    exact J_loc [1, 0] rfl (lo6 n (1) w5 hl6)
  have lo1 : ∀ (k : Nat) (z2 : Int32) (z3 : (Nat → Int32)), lp (u2 (fX7_findFar_s7 p1)) k (z2, z3) = some e4 → J d Φ 9 [gMd d h0 a0_kept a0_tried a0_chosen r0_rows r0_line r0_good r0_work x0_shelf x0_rowSort x0_rowSize x0_moved x0_shown x0_tape x0_tapeSize x0_refused x0_lines x0_changes x0_coins x0_goods x0_works x0_years x0_gone x0_spent x0_at x0_token x0_from x0_figures x0_fault x0_numbers x0_statements x0_left z3 p2 x0_way x0_steps x0_met x0_queue x0_totals, gridI d r0_line 20 7 x0_line] 0 0 7 [(0, .ref (h0 0)), (1, .int p1), (3, .int z2)] [] := by
    intro k
    induction k with
    | zero => intro z2 z3 h; cases h
    | succ k ih1 =>
      intro z2 z3 h
      obtain ⟨k2, rr1, hk2, hs1, hr1⟩ := lp_ok h
      cases hk2
      have hs1 : fX7_findFar_s7 p1 z2 z3 = some rr1 := hs1
      unfold fX7_findFar_s7 at hs1
      refine J_iload_n hK dX7_findFar_7 rfl 2 rfl rfl ?_
      refine J_bipush (v := 36) hK dX7_findFar_8 rfl (by decide) ?_
      refine J_icmp_ge (tg := 38) hK dX7_findFar_10 rfl rfl (fun hc10 => ?_) (fun hc10 => ?_)
      · have hs1 := ip hc10 hs1
        exact J_loc [0] rfl (hx1_38 z3 (lpx hs1 hr1))
      · have hs1 := iq hc10 hs1
        refine J_aload_n hK dX7_findFar_13 rfl 0 rfl rfl ?_
        refine J_get hK fo_RX7_64 dX7_findFar_14 rfl 0 0 rfl rfl rfl ?_
        refine J_iload_n hK dX7_findFar_17 rfl 2 rfl rfl ?_
        refine J_iload_n hK dX7_findFar_18 rfl 2 rfl rfl ?_
        refine J_iconst (v := 3) hK dX7_findFar_19 rfl (by decide) ?_
        refine J_idiv hK dX7_findFar_20 rfl (by decide) ?_
        refine J_iload_n hK dX7_findFar_21 rfl 1 rfl rfl ?_
        refine J_icmp_ne (tg := 29) hK dX7_findFar_22 rfl rfl (fun hc22 => ?_) (fun hc22 => ?_)
        · have hs1 := iq hc22 hs1
          refine J_ldc (v := 1000000000) hK dX7_findFar_29 rfl wk_RX7_254 ?_
          obtain ⟨f64, ef64, hs1⟩ := bs hs1
          refine J_iast (g' := gMd d h0 a0_kept a0_tried a0_chosen r0_rows r0_line r0_good r0_work x0_shelf x0_rowSort x0_rowSize x0_moved x0_shown x0_tape x0_tapeSize x0_refused x0_lines x0_changes x0_coins x0_goods x0_works x0_years x0_gone x0_spent x0_at x0_token x0_from x0_figures x0_fault x0_numbers x0_statements x0_left f64 p2 x0_way x0_steps x0_met x0_queue x0_totals) (gs' := [gMd d h0 a0_kept a0_tried a0_chosen r0_rows r0_line r0_good r0_work x0_shelf x0_rowSort x0_rowSize x0_moved x0_shown x0_tape x0_tapeSize x0_refused x0_lines x0_changes x0_coins x0_goods x0_works x0_years x0_gone x0_spent x0_at x0_token x0_from x0_figures x0_fault x0_numbers x0_statements x0_left f64 p2 x0_way x0_steps x0_met x0_queue x0_totals, gridI d r0_line 20 7 x0_line]) hK dX7_findFar_31 rfl 0 16 rfl rfl ef64 rfl rfl ?_
          refine J_iinc (L' := [(3, .int (z2 + 1)), (0, .ref (h0 0)), (1, .int p1)]) (v := (z2 + 1)) hK dX7_findFar_32 rfl 2 rfl rfl (by decide) rfl ?_
          refine J_goto hK dX7_findFar_35 (n := 7) rfl ?_
          exact J_loc [1, 2, 0] rfl (ih1 (z2 + 1) f64 (lpc hs1 hr1))
        · have hs1 := ip hc22 hs1
          refine J_iconst (v := 0) hK dX7_findFar_25 rfl (by decide) ?_
          refine J_goto hK dX7_findFar_26 (n := 31) rfl ?_
          obtain ⟨f65, ef65, hs1⟩ := bs hs1
          refine J_iast (g' := gMd d h0 a0_kept a0_tried a0_chosen r0_rows r0_line r0_good r0_work x0_shelf x0_rowSort x0_rowSize x0_moved x0_shown x0_tape x0_tapeSize x0_refused x0_lines x0_changes x0_coins x0_goods x0_works x0_years x0_gone x0_spent x0_at x0_token x0_from x0_figures x0_fault x0_numbers x0_statements x0_left f65 p2 x0_way x0_steps x0_met x0_queue x0_totals) (gs' := [gMd d h0 a0_kept a0_tried a0_chosen r0_rows r0_line r0_good r0_work x0_shelf x0_rowSort x0_rowSize x0_moved x0_shown x0_tape x0_tapeSize x0_refused x0_lines x0_changes x0_coins x0_goods x0_works x0_years x0_gone x0_spent x0_at x0_token x0_from x0_figures x0_fault x0_numbers x0_statements x0_left f65 p2 x0_way x0_steps x0_met x0_queue x0_totals, gridI d r0_line 20 7 x0_line]) hK dX7_findFar_31 rfl 0 16 rfl rfl ef65 rfl rfl ?_
          refine J_iinc (L' := [(3, .int (z2 + 1)), (0, .ref (h0 0)), (1, .int p1)]) (v := (z2 + 1)) hK dX7_findFar_32 rfl 2 rfl rfl (by decide) rfl ?_
          refine J_goto hK dX7_findFar_35 (n := 7) rfl ?_
          exact J_loc [1, 2, 0] rfl (ih1 (z2 + 1) f65 (lpc hs1 hr1))
  exact J_loc [1, 2, 0] rfl (lo1 n (0) x0_far hl1)

def fX7_least_s5 (p1 : Int32) (x0_far : (Nat → Int32)) (z2 : Int32) (z3 : Int32) : Option ((Int32 × Int32) ⊕ (Int32)) :=
  if 3 ≤ z3 then (some (.inr z2)) else ((rd 36 x0_far ((3 * p1) + z3)).bind fun v6 => if z2 ≤ v6 then (some (.inl (z2, (z3 + 1)))) else ((rd 36 x0_far ((3 * p1) + z3)).bind fun v7 => some (.inl (v7, (z3 + 1)))))
def fX7_least (n : Nat) (X0 : MdT) (p1 : Int32) : Option (Int32) :=
  u35 (fun (x0_shelf : (Nat → Int32)) (x0_rowSort : (Nat → Int32)) (x0_rowSize : (Nat → Int32)) (x0_rows : (Nat → Nat → Int64)) (x0_moved : (Nat → Int64)) (x0_shown : (Nat → Int32)) (x0_tape : (Nat → Int32)) (x0_tapeSize : Int32) (x0_refused : (Nat → Int32)) (x0_lines : Int32) (x0_line : (Nat → Nat → Int32)) (x0_changes : (Nat → Int32)) (x0_coins : (Nat → Int32)) (x0_goods : Int32) (x0_good : (Nat → Nat → Int32)) (x0_works : Int32) (x0_work : (Nat → Nat → Int32)) (x0_years : Int32) (x0_gone : Int32) (x0_spent : Int32) (x0_at : Int32) (x0_token : Int32) (x0_from : Int32) (x0_figures : Int64) (x0_fault : Int32) (x0_numbers : (Nat → Int32)) (x0_statements : Int32) (x0_left : (Nat → Int32)) (x0_far : (Nat → Int32)) (x0_tons : Int32) (x0_way : (Nat → Int32)) (x0_steps : Int32) (x0_met : Int64) (x0_queue : (Nat → Int32)) (x0_totals : (Nat → Int32)) => (lp (u2 (fX7_least_s5 p1 x0_far)) n (1000000000, 0)).bind (fun w5 => some w5)) X0
set_option maxHeartbeats 4000000 in
set_option maxRecDepth 100000 in
theorem kX7_least (l : Launch) (d : DT) (h0 : Nat → Nat) (r0_rows : Nat → Nat) (r0_line : Nat → Nat) (r0_good : Nat → Nat) (r0_work : Nat → Nat) (a0_kept : Option Nat) (a0_tried : Option Nat) (a0_chosen : Option Nat) (n : Nat) (x0_shelf : (Nat → Int32)) (x0_rowSort : (Nat → Int32)) (x0_rowSize : (Nat → Int32)) (x0_rows : (Nat → Nat → Int64)) (x0_moved : (Nat → Int64)) (x0_shown : (Nat → Int32)) (x0_tape : (Nat → Int32)) (x0_tapeSize : Int32) (x0_refused : (Nat → Int32)) (x0_lines : Int32) (x0_line : (Nat → Nat → Int32)) (x0_changes : (Nat → Int32)) (x0_coins : (Nat → Int32)) (x0_goods : Int32) (x0_good : (Nat → Nat → Int32)) (x0_works : Int32) (x0_work : (Nat → Nat → Int32)) (x0_years : Int32) (x0_gone : Int32) (x0_spent : Int32) (x0_at : Int32) (x0_token : Int32) (x0_from : Int32) (x0_figures : Int64) (x0_fault : Int32) (x0_numbers : (Nat → Int32)) (x0_statements : Int32) (x0_left : (Nat → Int32)) (x0_far : (Nat → Int32)) (x0_tons : Int32) (x0_way : (Nat → Int32)) (x0_steps : Int32) (x0_met : Int64) (x0_queue : (Nat → Int32)) (x0_totals : (Nat → Int32)) (p1 : Int32)  {out : Int32} (hf : fX7_least n (x0_shelf, x0_rowSort, x0_rowSize, x0_rows, x0_moved, x0_shown, x0_tape, x0_tapeSize, x0_refused, x0_lines, x0_line, x0_changes, x0_coins, x0_goods, x0_good, x0_works, x0_work, x0_years, x0_gone, x0_spent, x0_at, x0_token, x0_from, x0_figures, x0_fault, x0_numbers, x0_statements, x0_left, x0_far, x0_tons, x0_way, x0_steps, x0_met, x0_queue, x0_totals) p1 = some out) : Ct l d yX7_least cX7_least 4 (some .int) { frames := 0, cells := 0, slots := 0, locals := 0 } [.ref (h0 0), .int p1] [gMd d h0 a0_kept a0_tried a0_chosen r0_rows r0_line r0_good r0_work x0_shelf x0_rowSort x0_rowSize x0_moved x0_shown x0_tape x0_tapeSize x0_refused x0_lines x0_changes x0_coins x0_goods x0_works x0_years x0_gone x0_spent x0_at x0_token x0_from x0_figures x0_fault x0_numbers x0_statements x0_left x0_far x0_tons x0_way x0_steps x0_met x0_queue x0_totals] (fun _ : Unit => (some (.int out), [gMd d h0 a0_kept a0_tried a0_chosen r0_rows r0_line r0_good r0_work x0_shelf x0_rowSort x0_rowSize x0_moved x0_shown x0_tape x0_tapeSize x0_refused x0_lines x0_changes x0_coins x0_goods x0_works x0_years x0_gone x0_spent x0_at x0_token x0_from x0_figures x0_fault x0_numbers x0_statements x0_left x0_far x0_tons x0_way x0_steps x0_met x0_queue x0_totals])) := by
  refine Ct.of (by decide) (Nat.le_of_ble_eq_true rfl) ?_
  intro Φ hl hK hR
  subst hl
  have hK : Ok d Φ RX7 "least" cX7_least 4 (some .int) { frames := 0, cells := 0, slots := 0, locals := 0 } := hK
  unfold fX7_least at hf
  have hf := un35 hf
  show J d Φ 4 [gMd d h0 a0_kept a0_tried a0_chosen r0_rows r0_line r0_good r0_work x0_shelf x0_rowSort x0_rowSize x0_moved x0_shown x0_tape x0_tapeSize x0_refused x0_lines x0_changes x0_coins x0_goods x0_works x0_years x0_gone x0_spent x0_at x0_token x0_from x0_figures x0_fault x0_numbers x0_statements x0_left x0_far x0_tons x0_way x0_steps x0_met x0_queue x0_totals] 0 0 0 [(0, .ref (h0 0)), (1, .int p1)] []
  refine J_ldc (v := 1000000000) hK dX7_least_0 rfl wk_RX7_254 ?_
  refine J_istore_n (L' := [(2, .int (1000000000)), (0, .ref (h0 0)), (1, .int p1)]) hK dX7_least_2 rfl rfl (by decide) rfl ?_
  refine J_iconst (v := 0) hK dX7_least_3 rfl (by decide) ?_
  refine J_istore_n (L' := [(3, .int (0)), (2, .int (1000000000)), (0, .ref (h0 0)), (1, .int p1)]) hK dX7_least_4 rfl rfl (by decide) rfl ?_
  obtain ⟨e4, hl1, hf⟩ := bs hf
  have hx1_45 : ∀ (w5 : Int32), w5 = e4 → J d Φ 4 [gMd d h0 a0_kept a0_tried a0_chosen r0_rows r0_line r0_good r0_work x0_shelf x0_rowSort x0_rowSize x0_moved x0_shown x0_tape x0_tapeSize x0_refused x0_lines x0_changes x0_coins x0_goods x0_works x0_years x0_gone x0_spent x0_at x0_token x0_from x0_figures x0_fault x0_numbers x0_statements x0_left x0_far x0_tons x0_way x0_steps x0_met x0_queue x0_totals] 0 0 45 [(2, .int w5)] [] := by
    intro w5 he
    rw [← he] at hf
    refine J_iload_n hK dX7_least_45 rfl 0 rfl rfl ?_
    obtain rfl := Option.some.inj hf
    exact J_iret hK hR dX7_least_46 () rfl (by decide) (by decide)
  have lo1 : ∀ (k : Nat) (z2 : Int32) (z3 : Int32), lp (u2 (fX7_least_s5 p1 x0_far)) k (z2, z3) = some e4 → J d Φ 4 [gMd d h0 a0_kept a0_tried a0_chosen r0_rows r0_line r0_good r0_work x0_shelf x0_rowSort x0_rowSize x0_moved x0_shown x0_tape x0_tapeSize x0_refused x0_lines x0_changes x0_coins x0_goods x0_works x0_years x0_gone x0_spent x0_at x0_token x0_from x0_figures x0_fault x0_numbers x0_statements x0_left x0_far x0_tons x0_way x0_steps x0_met x0_queue x0_totals] 0 0 5 [(0, .ref (h0 0)), (1, .int p1), (2, .int z2), (3, .int z3)] [] := by
    intro k
    induction k with
    | zero => intro z2 z3 h; cases h
    | succ k ih1 =>
      intro z2 z3 h
      obtain ⟨k2, rr1, hk2, hs1, hr1⟩ := lp_ok h
      cases hk2
      have hs1 : fX7_least_s5 p1 x0_far z2 z3 = some rr1 := hs1
      unfold fX7_least_s5 at hs1
      refine J_iload_n hK dX7_least_5 rfl 3 rfl rfl ?_
      refine J_iconst (v := 3) hK dX7_least_6 rfl (by decide) ?_
      refine J_icmp_ge (tg := 45) hK dX7_least_7 rfl rfl (fun hc7 => ?_) (fun hc7 => ?_)
      · have hs1 := ip hc7 hs1
        exact J_loc [2] rfl (hx1_45 z2 (lpx hs1 hr1))
      · have hs1 := iq hc7 hs1
        refine J_aload_n hK dX7_least_10 rfl 0 rfl rfl ?_
        refine J_get hK fo_RX7_64 dX7_least_11 rfl 0 0 rfl rfl rfl ?_
        refine J_iconst (v := 3) hK dX7_least_14 rfl (by decide) ?_
        refine J_iload_n hK dX7_least_15 rfl 1 rfl rfl ?_
        refine J_imul hK dX7_least_16 rfl ?_
        refine J_iload_n hK dX7_least_17 rfl 3 rfl rfl ?_
        refine J_iadd hK dX7_least_18 rfl ?_
        obtain ⟨v6, ev6, hs1⟩ := bs hs1
        refine J_iald hK dX7_least_19 rfl 0 16 rfl rfl ev6 ?_
        refine J_iload_n hK dX7_least_20 rfl 2 rfl rfl ?_
        refine J_icmp_ge (tg := 37) hK dX7_least_21 rfl rfl (fun hc21 => ?_) (fun hc21 => ?_)
        · have hs1 := ip hc21 hs1
          refine J_iload_n hK dX7_least_37 rfl 2 rfl rfl ?_
          refine J_istore_n (L' := [(2, .int z2), (0, .ref (h0 0)), (1, .int p1), (3, .int z3)]) hK dX7_least_38 rfl rfl (by decide) rfl ?_
          refine J_iinc (L' := [(3, .int (z3 + 1)), (2, .int z2), (0, .ref (h0 0)), (1, .int p1)]) (v := (z3 + 1)) hK dX7_least_39 rfl 3 rfl rfl (by decide) rfl ?_
          refine J_goto hK dX7_least_42 (n := 5) rfl ?_
          exact J_loc [2, 3, 1, 0] rfl (ih1 z2 (z3 + 1) (lpc hs1 hr1))
        · have hs1 := iq hc21 hs1
          refine J_aload_n hK dX7_least_24 rfl 0 rfl rfl ?_
          refine J_get hK fo_RX7_64 dX7_least_25 rfl 0 0 rfl rfl rfl ?_
          refine J_iconst (v := 3) hK dX7_least_28 rfl (by decide) ?_
          refine J_iload_n hK dX7_least_29 rfl 1 rfl rfl ?_
          refine J_imul hK dX7_least_30 rfl ?_
          refine J_iload_n hK dX7_least_31 rfl 3 rfl rfl ?_
          refine J_iadd hK dX7_least_32 rfl ?_
          obtain ⟨v7, ev7, hs1⟩ := bs hs1
          refine J_iald hK dX7_least_33 rfl 0 16 rfl rfl ev7 ?_
          refine J_goto hK dX7_least_34 (n := 38) rfl ?_
          refine J_istore_n (L' := [(2, .int v7), (0, .ref (h0 0)), (1, .int p1), (3, .int z3)]) hK dX7_least_38 rfl rfl (by decide) rfl ?_
          refine J_iinc (L' := [(3, .int (z3 + 1)), (2, .int v7), (0, .ref (h0 0)), (1, .int p1)]) (v := (z3 + 1)) hK dX7_least_39 rfl 3 rfl rfl (by decide) rfl ?_
          refine J_goto hK dX7_least_42 (n := 5) rfl ?_
          exact J_loc [2, 3, 1, 0] rfl (ih1 v7 (z3 + 1) (lpc hs1 hr1))
  exact J_loc [2, 3, 1, 0] rfl (lo1 n (1000000000) (0) hl1)

def fX7_stepTo_j139 (p1 : Int32) (p2 : Int32) (x0_line : (Nat → Nat → Int32)) (x0_coins : (Nat → Int32)) (x0_far : (Nat → Int32)) (y7 : Int32) : Option (Int32) :=
  (some ((3 * y7) + (p1 - p1 / 3 * 3))).bind fun t8 => (rd 36 x0_far t8).bind fun v9 => (ck (p2 - 3) 20).bind fun q10 => (rd 7 (x0_line q10) (3)).bind fun v11 => (rd 3 x0_coins (p1 - p1 / 3 * 3)).bind fun v12 => (rd 36 x0_far p1).bind fun v13 => if (v9 + (v11 * v12)) = v13 then (some t8) else (some (-1))
def fX7_stepTo_j102 (p1 : Int32) (p2 : Int32) (x0_line : (Nat → Nat → Int32)) (x0_coins : (Nat → Int32)) (x0_far : (Nat → Int32)) : Option (Int32) :=
  (ck (p2 - 3) 20).bind fun q5 => (rd 7 (x0_line q5) (0)).bind fun v6 => if v6 = (p1 / 3) then ((ck (p2 - 3) 20).bind fun q16 => (rd 7 (x0_line q16) (1)).bind fun v17 => fX7_stepTo_j139 p1 p2 x0_line x0_coins x0_far v17) else ((ck (p2 - 3) 20).bind fun q14 => (rd 7 (x0_line q14) (0)).bind fun v15 => fX7_stepTo_j139 p1 p2 x0_line x0_coins x0_far v15)
def fX7_stepTo (X0 : MdT) (p1 : Int32) (p2 : Int32) : Option (Int32) :=
  u35 (fun (x0_shelf : (Nat → Int32)) (x0_rowSort : (Nat → Int32)) (x0_rowSize : (Nat → Int32)) (x0_rows : (Nat → Nat → Int64)) (x0_moved : (Nat → Int64)) (x0_shown : (Nat → Int32)) (x0_tape : (Nat → Int32)) (x0_tapeSize : Int32) (x0_refused : (Nat → Int32)) (x0_lines : Int32) (x0_line : (Nat → Nat → Int32)) (x0_changes : (Nat → Int32)) (x0_coins : (Nat → Int32)) (x0_goods : Int32) (x0_good : (Nat → Nat → Int32)) (x0_works : Int32) (x0_work : (Nat → Nat → Int32)) (x0_years : Int32) (x0_gone : Int32) (x0_spent : Int32) (x0_at : Int32) (x0_token : Int32) (x0_from : Int32) (x0_figures : Int64) (x0_fault : Int32) (x0_numbers : (Nat → Int32)) (x0_statements : Int32) (x0_left : (Nat → Int32)) (x0_far : (Nat → Int32)) (x0_tons : Int32) (x0_way : (Nat → Int32)) (x0_steps : Int32) (x0_met : Int64) (x0_queue : (Nat → Int32)) (x0_totals : (Nat → Int32)) => if 3 ≤ p2 then ((fX7_bears (x0_shelf, x0_rowSort, x0_rowSize, x0_rows, x0_moved, x0_shown, x0_tape, x0_tapeSize, x0_refused, x0_lines, x0_line, x0_changes, x0_coins, x0_goods, x0_good, x0_works, x0_work, x0_years, x0_gone, x0_spent, x0_at, x0_token, x0_from, x0_figures, x0_fault, x0_numbers, x0_statements, x0_left, x0_far, x0_tons, x0_way, x0_steps, x0_met, x0_queue, x0_totals) (p2 - 3) (p1 - p1 / 3 * 3)).bind (fun v1 => if v1 = 0 then (some (-1)) else ((ck (p2 - 3) 20).bind fun q3 => (rd 7 (x0_line q3) (0)).bind fun v4 => if v4 = (p1 / 3) then (fX7_stepTo_j102 p1 p2 x0_line x0_coins x0_far) else ((ck (p2 - 3) 20).bind fun q18 => (rd 7 (x0_line q18) (1)).bind fun v19 => if v19 = (p1 / 3) then (fX7_stepTo_j102 p1 p2 x0_line x0_coins x0_far) else (some (-1)))))) else (if p2 = (p1 - p1 / 3 * 3) then (some (-1)) else ((rd 36 x0_far (((p1 / 3) * 3) + p2)).bind fun v20 => (rd 12 x0_changes (p1 / 3)).bind fun v21 => (rd 36 x0_far p1).bind fun v22 => if (v20 + v21) = v22 then (some (((p1 / 3) * 3) + p2)) else (some (-1))))) X0
set_option maxHeartbeats 4000000 in
set_option maxRecDepth 100000 in
theorem kX7_stepTo (l : Launch) (d : DT) (h0 : Nat → Nat) (r0_rows : Nat → Nat) (r0_line : Nat → Nat) (r0_good : Nat → Nat) (r0_work : Nat → Nat) (a0_kept : Option Nat) (a0_tried : Option Nat) (a0_chosen : Option Nat) (x0_shelf : (Nat → Int32)) (x0_rowSort : (Nat → Int32)) (x0_rowSize : (Nat → Int32)) (x0_rows : (Nat → Nat → Int64)) (x0_moved : (Nat → Int64)) (x0_shown : (Nat → Int32)) (x0_tape : (Nat → Int32)) (x0_tapeSize : Int32) (x0_refused : (Nat → Int32)) (x0_lines : Int32) (x0_line : (Nat → Nat → Int32)) (x0_changes : (Nat → Int32)) (x0_coins : (Nat → Int32)) (x0_goods : Int32) (x0_good : (Nat → Nat → Int32)) (x0_works : Int32) (x0_work : (Nat → Nat → Int32)) (x0_years : Int32) (x0_gone : Int32) (x0_spent : Int32) (x0_at : Int32) (x0_token : Int32) (x0_from : Int32) (x0_figures : Int64) (x0_fault : Int32) (x0_numbers : (Nat → Int32)) (x0_statements : Int32) (x0_left : (Nat → Int32)) (x0_far : (Nat → Int32)) (x0_tons : Int32) (x0_way : (Nat → Int32)) (x0_steps : Int32) (x0_met : Int64) (x0_queue : (Nat → Int32)) (x0_totals : (Nat → Int32)) (p1 : Int32) (p2 : Int32)  {out : Int32} (hf : fX7_stepTo (x0_shelf, x0_rowSort, x0_rowSize, x0_rows, x0_moved, x0_shown, x0_tape, x0_tapeSize, x0_refused, x0_lines, x0_line, x0_changes, x0_coins, x0_goods, x0_good, x0_works, x0_work, x0_years, x0_gone, x0_spent, x0_at, x0_token, x0_from, x0_figures, x0_fault, x0_numbers, x0_statements, x0_left, x0_far, x0_tons, x0_way, x0_steps, x0_met, x0_queue, x0_totals) p1 p2 = some out) : Ct l d yX7_stepTo cX7_stepTo 6 (some .int) { frames := 1, cells := 0, slots := 0, locals := 22 } [.ref (h0 0), .int p1, .int p2] [gMd d h0 a0_kept a0_tried a0_chosen r0_rows r0_line r0_good r0_work x0_shelf x0_rowSort x0_rowSize x0_moved x0_shown x0_tape x0_tapeSize x0_refused x0_lines x0_changes x0_coins x0_goods x0_works x0_years x0_gone x0_spent x0_at x0_token x0_from x0_figures x0_fault x0_numbers x0_statements x0_left x0_far x0_tons x0_way x0_steps x0_met x0_queue x0_totals, gridI d r0_line 20 7 x0_line] (fun _ : Unit => (some (.int out), [gMd d h0 a0_kept a0_tried a0_chosen r0_rows r0_line r0_good r0_work x0_shelf x0_rowSort x0_rowSize x0_moved x0_shown x0_tape x0_tapeSize x0_refused x0_lines x0_changes x0_coins x0_goods x0_works x0_years x0_gone x0_spent x0_at x0_token x0_from x0_figures x0_fault x0_numbers x0_statements x0_left x0_far x0_tons x0_way x0_steps x0_met x0_queue x0_totals, gridI d r0_line 20 7 x0_line])) := by
  refine Ct.of (by decide) (Nat.le_of_ble_eq_true rfl) ?_
  intro Φ hl hK hR
  subst hl
  have hK : Ok d Φ RX7 "stepTo" cX7_stepTo 6 (some .int) { frames := 1, cells := 0, slots := 0, locals := 22 } := hK
  unfold fX7_stepTo at hf
  have hf := un35 hf
  show J d Φ 6 [gMd d h0 a0_kept a0_tried a0_chosen r0_rows r0_line r0_good r0_work x0_shelf x0_rowSort x0_rowSize x0_moved x0_shown x0_tape x0_tapeSize x0_refused x0_lines x0_changes x0_coins x0_goods x0_works x0_years x0_gone x0_spent x0_at x0_token x0_from x0_figures x0_fault x0_numbers x0_statements x0_left x0_far x0_tons x0_way x0_steps x0_met x0_queue x0_totals, gridI d r0_line 20 7 x0_line] 0 0 0 [(0, .ref (h0 0)), (1, .int p1), (2, .int p2)] []
  refine J_iload_n hK dX7_stepTo_0 rfl 1 rfl rfl ?_
  refine J_iconst (v := 3) hK dX7_stepTo_1 rfl (by decide) ?_
  refine J_irem hK dX7_stepTo_2 rfl (by decide) ?_
  refine J_istore_n (L' := [(3, .int (p1 - p1 / 3 * 3)), (0, .ref (h0 0)), (1, .int p1), (2, .int p2)]) hK dX7_stepTo_3 rfl rfl (by decide) rfl ?_
  refine J_iload_n hK dX7_stepTo_4 rfl 3 rfl rfl ?_
  refine J_iconst (v := 3) hK dX7_stepTo_5 rfl (by decide) ?_
  refine J_icmp_ge (tg := 55) hK dX7_stepTo_6 rfl rfl (fun hc6 => ?_) (fun hc6 => ?_)
  · have hf := ip hc6 hf
    refine J_iload_n hK dX7_stepTo_55 rfl 3 rfl rfl ?_
    refine J_iconst (v := 3) hK dX7_stepTo_56 rfl (by decide) ?_
    refine J_isub hK dX7_stepTo_57 rfl ?_
    refine J_istore (L' := [(4, .int (p2 - 3)), (3, .int (p1 - p1 / 3 * 3)), (0, .ref (h0 0)), (1, .int p1), (2, .int p2)]) hK dX7_stepTo_58 rfl (by decide) rfl ?_
    refine J_aload_n hK dX7_stepTo_60 rfl 2 rfl rfl ?_
    refine J_iload hK dX7_stepTo_61 rfl 0 rfl ?_
    refine J_iload_n hK dX7_stepTo_63 rfl 1 rfl rfl ?_
    obtain ⟨v1, e2, hf⟩ := bs hf
    refine J_callV (m' := 2) (ce' := 0) (sl' := 0) (gr := []) (gs' := fun _ => [gMd d h0 a0_kept a0_tried a0_chosen r0_rows r0_line r0_good r0_work x0_shelf x0_rowSort x0_rowSize x0_moved x0_shown x0_tape x0_tapeSize x0_refused x0_lines x0_changes x0_coins x0_goods x0_works x0_years x0_gone x0_spent x0_at x0_token x0_from x0_figures x0_fault x0_numbers x0_statements x0_left x0_far x0_tons x0_way x0_steps x0_met x0_queue x0_totals, gridI d r0_line 20 7 x0_line]) (st' := fun _ => [.int v1]) (st := []) hK dX7_stepTo_64 cv_RX7_255 iv_yX7_bears (As := [.int (p2 - 3), .int (p1 - p1 / 3 * 3)]) (kX7_bears _ d h0 r0_rows r0_line r0_good r0_work a0_kept a0_tried a0_chosen x0_shelf x0_rowSort x0_rowSize x0_rows x0_moved x0_shown x0_tape x0_tapeSize x0_refused x0_lines x0_line x0_changes x0_coins x0_goods x0_good x0_works x0_work x0_years x0_gone x0_spent x0_at x0_token x0_from x0_figures x0_fault x0_numbers x0_statements x0_left x0_far x0_tons x0_way x0_steps x0_met x0_queue x0_totals (p2 - 3) (p1 - p1 / 3 * 3) e2) rfl rfl (Nat.le_of_ble_eq_true rfl) (by decide) 0 0 rfl rfl rfl [0, 1] [] rfl rfl rfl rfl [0, 1] rfl (fun _ => rfl) (fun _ => rfl) rfl rfl rfl (fun _ => rfl) (fun _ => ?_)
    refine J_if_eq (tg := 100) hK dX7_stepTo_67 rfl rfl (fun hc67 => ?_) (fun hc67 => ?_)
    · have hf := ip hc67 hf
      refine J_iconst (v := (-1)) hK dX7_stepTo_100 rfl (by decide) ?_
      obtain rfl := Option.some.inj hf
      exact J_iret hK hR dX7_stepTo_101 () rfl (by decide) (by decide)
    · have hf := iq hc67 hf
      refine J_aload_n hK dX7_stepTo_70 rfl 2 rfl rfl ?_
      refine J_get hK fo_RX7_39 dX7_stepTo_71 rfl 0 0 rfl rfl rfl ?_
      refine J_iload hK dX7_stepTo_74 rfl 0 rfl ?_
      obtain ⟨q3, eq3, hf⟩ := bs hf
      refine J_aald hK dX7_stepTo_76 rfl 0 9 rfl rfl rfl eq3 ?_
      refine J_iconst (v := 0) hK dX7_stepTo_77 rfl (by decide) ?_
      obtain ⟨v4, ev4, hf⟩ := bs hf
      refine J_iald hK dX7_stepTo_78 rfl 1 q3 rfl (gridI_at (ck_ok eq3).2.2) ev4 ?_
      refine J_iload_n hK dX7_stepTo_79 rfl 3 rfl rfl ?_
      refine J_iconst (v := 3) hK dX7_stepTo_80 rfl (by decide) ?_
      refine J_idiv hK dX7_stepTo_81 rfl (by decide) ?_
      have j102 : fX7_stepTo_j102 p1 p2 x0_line x0_coins x0_far = some out → J d Φ 6 [gMd d h0 a0_kept a0_tried a0_chosen r0_rows r0_line r0_good r0_work x0_shelf x0_rowSort x0_rowSize x0_moved x0_shown x0_tape x0_tapeSize x0_refused x0_lines x0_changes x0_coins x0_goods x0_works x0_years x0_gone x0_spent x0_at x0_token x0_from x0_figures x0_fault x0_numbers x0_statements x0_left x0_far x0_tons x0_way x0_steps x0_met x0_queue x0_totals, gridI d r0_line 20 7 x0_line] 0 0 102 [(0, .ref (h0 0)), (1, .int p1), (3, .int (p1 - p1 / 3 * 3)), (4, .int (p2 - 3))] [] := by
        intro  hf
        unfold fX7_stepTo_j102 at hf
        refine J_iconst (v := 3) hK dX7_stepTo_102 rfl (by decide) ?_
        refine J_aload_n hK dX7_stepTo_103 rfl 0 rfl rfl ?_
        refine J_get hK fo_RX7_39 dX7_stepTo_104 rfl 0 0 rfl rfl rfl ?_
        refine J_iload hK dX7_stepTo_107 rfl 3 rfl ?_
        obtain ⟨q5, eq5, hf⟩ := bs hf
        refine J_aald hK dX7_stepTo_109 rfl 0 9 rfl rfl rfl eq5 ?_
        refine J_iconst (v := 0) hK dX7_stepTo_110 rfl (by decide) ?_
        obtain ⟨v6, ev6, hf⟩ := bs hf
        refine J_iald hK dX7_stepTo_111 rfl 1 q5 rfl (gridI_at (ck_ok eq5).2.2) ev6 ?_
        refine J_iload_n hK dX7_stepTo_112 rfl 1 rfl rfl ?_
        refine J_iconst (v := 3) hK dX7_stepTo_113 rfl (by decide) ?_
        refine J_idiv hK dX7_stepTo_114 rfl (by decide) ?_
        have j139 : ∀ (y7 : Int32), fX7_stepTo_j139 p1 p2 x0_line x0_coins x0_far y7 = some out → J d Φ 6 [gMd d h0 a0_kept a0_tried a0_chosen r0_rows r0_line r0_good r0_work x0_shelf x0_rowSort x0_rowSize x0_moved x0_shown x0_tape x0_tapeSize x0_refused x0_lines x0_changes x0_coins x0_goods x0_works x0_years x0_gone x0_spent x0_at x0_token x0_from x0_figures x0_fault x0_numbers x0_statements x0_left x0_far x0_tons x0_way x0_steps x0_met x0_queue x0_totals, gridI d r0_line 20 7 x0_line] 0 0 139 [(0, .ref (h0 0)), (1, .int p1), (3, .int (p1 - p1 / 3 * 3)), (4, .int (p2 - 3))] [.int y7, .int (3)] := by
          intro y7 hf
          unfold fX7_stepTo_j139 at hf
          refine J_imul hK dX7_stepTo_139 rfl ?_
          refine J_iload_n hK dX7_stepTo_140 rfl 2 rfl rfl ?_
          refine J_iadd hK dX7_stepTo_141 rfl ?_
          obtain ⟨t8, et8, hf⟩ := bs hf
          refine J_nmi et8 ?_
          refine J_istore (L' := [(5, .int t8), (0, .ref (h0 0)), (1, .int p1), (3, .int (p1 - p1 / 3 * 3)), (4, .int (p2 - 3))]) hK dX7_stepTo_142 rfl (by decide) rfl ?_
          refine J_aload_n hK dX7_stepTo_144 rfl 1 rfl rfl ?_
          refine J_get hK fo_RX7_64 dX7_stepTo_145 rfl 0 0 rfl rfl rfl ?_
          refine J_iload hK dX7_stepTo_148 rfl 0 rfl ?_
          obtain ⟨v9, ev9, hf⟩ := bs hf
          refine J_iald hK dX7_stepTo_150 rfl 0 16 rfl rfl ev9 ?_
          refine J_aload_n hK dX7_stepTo_151 rfl 1 rfl rfl ?_
          refine J_get hK fo_RX7_39 dX7_stepTo_152 rfl 0 0 rfl rfl rfl ?_
          refine J_iload hK dX7_stepTo_155 rfl 4 rfl ?_
          obtain ⟨q10, eq10, hf⟩ := bs hf
          refine J_aald hK dX7_stepTo_157 rfl 0 9 rfl rfl rfl eq10 ?_
          refine J_iconst (v := 3) hK dX7_stepTo_158 rfl (by decide) ?_
          obtain ⟨v11, ev11, hf⟩ := bs hf
          refine J_iald hK dX7_stepTo_159 rfl 1 q10 rfl (gridI_at (ck_ok eq10).2.2) ev11 ?_
          refine J_aload_n hK dX7_stepTo_160 rfl 1 rfl rfl ?_
          refine J_get hK fo_RX7_45 dX7_stepTo_161 rfl 0 0 rfl rfl rfl ?_
          refine J_iload_n hK dX7_stepTo_164 rfl 3 rfl rfl ?_
          obtain ⟨v12, ev12, hf⟩ := bs hf
          refine J_iald hK dX7_stepTo_165 rfl 0 11 rfl rfl ev12 ?_
          refine J_imul hK dX7_stepTo_166 rfl ?_
          refine J_iadd hK dX7_stepTo_167 rfl ?_
          refine J_aload_n hK dX7_stepTo_168 rfl 1 rfl rfl ?_
          refine J_get hK fo_RX7_64 dX7_stepTo_169 rfl 0 0 rfl rfl rfl ?_
          refine J_iload_n hK dX7_stepTo_172 rfl 2 rfl rfl ?_
          obtain ⟨v13, ev13, hf⟩ := bs hf
          refine J_iald hK dX7_stepTo_173 rfl 0 16 rfl rfl ev13 ?_
          refine J_icmp_ne (tg := 182) hK dX7_stepTo_174 rfl rfl (fun hc174 => ?_) (fun hc174 => ?_)
          · have hf := iq hc174 hf
            refine J_iconst (v := (-1)) hK dX7_stepTo_182 rfl (by decide) ?_
            obtain rfl := Option.some.inj hf
            exact J_iret hK hR dX7_stepTo_183 () rfl (by decide) (by decide)
          · have hf := ip hc174 hf
            refine J_iload hK dX7_stepTo_177 rfl 0 rfl ?_
            refine J_goto hK dX7_stepTo_179 (n := 183) rfl ?_
            obtain rfl := Option.some.inj hf
            exact J_iret hK hR dX7_stepTo_183 () rfl (by decide) (by decide)
        refine J_icmp_ne (tg := 130) hK dX7_stepTo_115 rfl rfl (fun hc115 => ?_) (fun hc115 => ?_)
        · have hf := iq hc115 hf
          refine J_aload_n hK dX7_stepTo_130 rfl 0 rfl rfl ?_
          refine J_get hK fo_RX7_39 dX7_stepTo_131 rfl 0 0 rfl rfl rfl ?_
          refine J_iload hK dX7_stepTo_134 rfl 3 rfl ?_
          obtain ⟨q14, eq14, hf⟩ := bs hf
          refine J_aald hK dX7_stepTo_136 rfl 0 9 rfl rfl rfl eq14 ?_
          refine J_iconst (v := 0) hK dX7_stepTo_137 rfl (by decide) ?_
          obtain ⟨v15, ev15, hf⟩ := bs hf
          refine J_iald hK dX7_stepTo_138 rfl 1 q14 rfl (gridI_at (ck_ok eq14).2.2) ev15 ?_
          exact (j139 v15 hf)
        · have hf := ip hc115 hf
          refine J_aload_n hK dX7_stepTo_118 rfl 0 rfl rfl ?_
          refine J_get hK fo_RX7_39 dX7_stepTo_119 rfl 0 0 rfl rfl rfl ?_
          refine J_iload hK dX7_stepTo_122 rfl 3 rfl ?_
          obtain ⟨q16, eq16, hf⟩ := bs hf
          refine J_aald hK dX7_stepTo_124 rfl 0 9 rfl rfl rfl eq16 ?_
          refine J_iconst (v := 1) hK dX7_stepTo_125 rfl (by decide) ?_
          obtain ⟨v17, ev17, hf⟩ := bs hf
          refine J_iald hK dX7_stepTo_126 rfl 1 q16 rfl (gridI_at (ck_ok eq16).2.2) ev17 ?_
          refine J_goto hK dX7_stepTo_127 (n := 139) rfl ?_
          exact (j139 v17 hf)
      refine J_icmp_eq (tg := 102) hK dX7_stepTo_82 rfl rfl (fun hc82 => ?_) (fun hc82 => ?_)
      · have hf := ip hc82 hf
        exact J_loc [2, 3, 1, 0] rfl (j102  hf)
      · have hf := iq hc82 hf
        refine J_aload_n hK dX7_stepTo_85 rfl 2 rfl rfl ?_
        refine J_get hK fo_RX7_39 dX7_stepTo_86 rfl 0 0 rfl rfl rfl ?_
        refine J_iload hK dX7_stepTo_89 rfl 0 rfl ?_
        obtain ⟨q18, eq18, hf⟩ := bs hf
        refine J_aald hK dX7_stepTo_91 rfl 0 9 rfl rfl rfl eq18 ?_
        refine J_iconst (v := 1) hK dX7_stepTo_92 rfl (by decide) ?_
        obtain ⟨v19, ev19, hf⟩ := bs hf
        refine J_iald hK dX7_stepTo_93 rfl 1 q18 rfl (gridI_at (ck_ok eq18).2.2) ev19 ?_
        refine J_iload_n hK dX7_stepTo_94 rfl 3 rfl rfl ?_
        refine J_iconst (v := 3) hK dX7_stepTo_95 rfl (by decide) ?_
        refine J_idiv hK dX7_stepTo_96 rfl (by decide) ?_
        refine J_icmp_eq (tg := 102) hK dX7_stepTo_97 rfl rfl (fun hc97 => ?_) (fun hc97 => ?_)
        · have hf := ip hc97 hf
          exact J_loc [2, 3, 1, 0] rfl (j102  hf)
        · have hf := iq hc97 hf
          refine J_iconst (v := (-1)) hK dX7_stepTo_100 rfl (by decide) ?_
          obtain rfl := Option.some.inj hf
          exact J_iret hK hR dX7_stepTo_101 () rfl (by decide) (by decide)
  · have hf := iq hc6 hf
    refine J_iload_n hK dX7_stepTo_9 rfl 2 rfl rfl ?_
    refine J_iconst (v := 3) hK dX7_stepTo_10 rfl (by decide) ?_
    refine J_idiv hK dX7_stepTo_11 rfl (by decide) ?_
    refine J_iconst (v := 3) hK dX7_stepTo_12 rfl (by decide) ?_
    refine J_imul hK dX7_stepTo_13 rfl ?_
    refine J_iload_n hK dX7_stepTo_14 rfl 3 rfl rfl ?_
    refine J_iadd hK dX7_stepTo_15 rfl ?_
    refine J_istore (L' := [(4, .int (((p1 / 3) * 3) + p2)), (3, .int (p1 - p1 / 3 * 3)), (0, .ref (h0 0)), (1, .int p1), (2, .int p2)]) hK dX7_stepTo_16 rfl (by decide) rfl ?_
    refine J_iload_n hK dX7_stepTo_18 rfl 4 rfl rfl ?_
    refine J_iload_n hK dX7_stepTo_19 rfl 1 rfl rfl ?_
    refine J_icmp_eq (tg := 53) hK dX7_stepTo_20 rfl rfl (fun hc20 => ?_) (fun hc20 => ?_)
    · have hf := ip hc20 hf
      refine J_iconst (v := (-1)) hK dX7_stepTo_53 rfl (by decide) ?_
      obtain rfl := Option.some.inj hf
      exact J_iret hK hR dX7_stepTo_54 () rfl (by decide) (by decide)
    · have hf := iq hc20 hf
      refine J_aload_n hK dX7_stepTo_23 rfl 2 rfl rfl ?_
      refine J_get hK fo_RX7_64 dX7_stepTo_24 rfl 0 0 rfl rfl rfl ?_
      refine J_iload hK dX7_stepTo_27 rfl 0 rfl ?_
      obtain ⟨v20, ev20, hf⟩ := bs hf
      refine J_iald hK dX7_stepTo_29 rfl 0 16 rfl rfl ev20 ?_
      refine J_aload_n hK dX7_stepTo_30 rfl 2 rfl rfl ?_
      refine J_get hK fo_RX7_42 dX7_stepTo_31 rfl 0 0 rfl rfl rfl ?_
      refine J_iload_n hK dX7_stepTo_34 rfl 3 rfl rfl ?_
      refine J_iconst (v := 3) hK dX7_stepTo_35 rfl (by decide) ?_
      refine J_idiv hK dX7_stepTo_36 rfl (by decide) ?_
      obtain ⟨v21, ev21, hf⟩ := bs hf
      refine J_iald hK dX7_stepTo_37 rfl 0 10 rfl rfl ev21 ?_
      refine J_iadd hK dX7_stepTo_38 rfl ?_
      refine J_aload_n hK dX7_stepTo_39 rfl 2 rfl rfl ?_
      refine J_get hK fo_RX7_64 dX7_stepTo_40 rfl 0 0 rfl rfl rfl ?_
      refine J_iload_n hK dX7_stepTo_43 rfl 3 rfl rfl ?_
      obtain ⟨v22, ev22, hf⟩ := bs hf
      refine J_iald hK dX7_stepTo_44 rfl 0 16 rfl rfl ev22 ?_
      refine J_icmp_ne (tg := 53) hK dX7_stepTo_45 rfl rfl (fun hc45 => ?_) (fun hc45 => ?_)
      · have hf := iq hc45 hf
        refine J_iconst (v := (-1)) hK dX7_stepTo_53 rfl (by decide) ?_
        obtain rfl := Option.some.inj hf
        exact J_iret hK hR dX7_stepTo_54 () rfl (by decide) (by decide)
      · have hf := ip hc45 hf
        refine J_iload hK dX7_stepTo_48 rfl 0 rfl ?_
        refine J_goto hK dX7_stepTo_50 (n := 54) rfl ?_
        obtain rfl := Option.some.inj hf
        exact J_iret hK hR dX7_stepTo_54 () rfl (by decide) (by decide)

def fX7_image (n : Nat) (X0 : MdT) (X1 : MdT) : Option (Int32 × (Int32 × (Nat → Nat → Int32) × (Nat → Int32) × (Nat → Int32) × Int32 × (Nat → Nat → Int32) × Int32 × (Nat → Nat → Int32) × Int32 × Int32 × Int32)) :=
  u35 (fun (x0_shelf : (Nat → Int32)) (x0_rowSort : (Nat → Int32)) (x0_rowSize : (Nat → Int32)) (x0_rows : (Nat → Nat → Int64)) (x0_moved : (Nat → Int64)) (x0_shown : (Nat → Int32)) (x0_tape : (Nat → Int32)) (x0_tapeSize : Int32) (x0_refused : (Nat → Int32)) (x0_lines : Int32) (x0_line : (Nat → Nat → Int32)) (x0_changes : (Nat → Int32)) (x0_coins : (Nat → Int32)) (x0_goods : Int32) (x0_good : (Nat → Nat → Int32)) (x0_works : Int32) (x0_work : (Nat → Nat → Int32)) (x0_years : Int32) (x0_gone : Int32) (x0_spent : Int32) (x0_at : Int32) (x0_token : Int32) (x0_from : Int32) (x0_figures : Int64) (x0_fault : Int32) (x0_numbers : (Nat → Int32)) (x0_statements : Int32) (x0_left : (Nat → Int32)) (x0_far : (Nat → Int32)) (x0_tons : Int32) (x0_way : (Nat → Int32)) (x0_steps : Int32) (x0_met : Int64) (x0_queue : (Nat → Int32)) (x0_totals : (Nat → Int32)) => u35 (fun (x1_shelf : (Nat → Int32)) (x1_rowSort : (Nat → Int32)) (x1_rowSize : (Nat → Int32)) (x1_rows : (Nat → Nat → Int64)) (x1_moved : (Nat → Int64)) (x1_shown : (Nat → Int32)) (x1_tape : (Nat → Int32)) (x1_tapeSize : Int32) (x1_refused : (Nat → Int32)) (x1_lines : Int32) (x1_line : (Nat → Nat → Int32)) (x1_changes : (Nat → Int32)) (x1_coins : (Nat → Int32)) (x1_goods : Int32) (x1_good : (Nat → Nat → Int32)) (x1_works : Int32) (x1_work : (Nat → Nat → Int32)) (x1_years : Int32) (x1_gone : Int32) (x1_spent : Int32) (x1_at : Int32) (x1_token : Int32) (x1_from : Int32) (x1_figures : Int64) (x1_fault : Int32) (x1_numbers : (Nat → Int32)) (x1_statements : Int32) (x1_left : (Nat → Int32)) (x1_far : (Nat → Int32)) (x1_tons : Int32) (x1_way : (Nat → Int32)) (x1_steps : Int32) (x1_met : Int64) (x1_queue : (Nat → Int32)) (x1_totals : (Nat → Int32)) => (fX7_takeFrom n (x1_shelf, x1_rowSort, x1_rowSize, x1_rows, x1_moved, x1_shown, x1_tape, x1_tapeSize, x1_refused, x1_lines, x1_line, x1_changes, x1_coins, x1_goods, x1_good, x1_works, x1_work, x1_years, x1_gone, x1_spent, x1_at, x1_token, x1_from, x1_figures, x1_fault, x1_numbers, x1_statements, x1_left, x1_far, x1_tons, x1_way, x1_steps, x1_met, x1_queue, x1_totals) (x0_shelf, x0_rowSort, x0_rowSize, x0_rows, x0_moved, x0_shown, x0_tape, x0_tapeSize, x0_refused, x0_lines, x0_line, x0_changes, x0_coins, x0_goods, x0_good, x0_works, x0_work, x0_years, x0_gone, x0_spent, x0_at, x0_token, x0_from, x0_figures, x0_fault, x0_numbers, x0_statements, x0_left, x0_far, x0_tons, x0_way, x0_steps, x0_met, x0_queue, x0_totals)).bind (fun G1 => u11 (fun g2 g3 g4 g5 g6 g7 g8 g9 g10 g11 g12 => some (1, (g2, g3, g4, g5, g6, g7, g8, g9, g10, g11, g12))) G1)) X1) X0
set_option maxHeartbeats 4000000 in
set_option maxRecDepth 100000 in
theorem kX7_image (l : Launch) (d : DT) (h0 : Nat → Nat) (r0_rows : Nat → Nat) (r0_line : Nat → Nat) (r0_good : Nat → Nat) (r0_work : Nat → Nat) (a0_tried : Option Nat) (a0_chosen : Option Nat) (h1 : Nat → Nat) (r1_rows : Nat → Nat) (r1_line : Nat → Nat) (r1_good : Nat → Nat) (r1_work : Nat → Nat) (a1_kept : Option Nat) (a1_tried : Option Nat) (a1_chosen : Option Nat) (n : Nat) (x0_shelf : (Nat → Int32)) (x0_rowSort : (Nat → Int32)) (x0_rowSize : (Nat → Int32)) (x0_rows : (Nat → Nat → Int64)) (x0_moved : (Nat → Int64)) (x0_shown : (Nat → Int32)) (x0_tape : (Nat → Int32)) (x0_tapeSize : Int32) (x0_refused : (Nat → Int32)) (x0_lines : Int32) (x0_line : (Nat → Nat → Int32)) (x0_changes : (Nat → Int32)) (x0_coins : (Nat → Int32)) (x0_goods : Int32) (x0_good : (Nat → Nat → Int32)) (x0_works : Int32) (x0_work : (Nat → Nat → Int32)) (x0_years : Int32) (x0_gone : Int32) (x0_spent : Int32) (x0_at : Int32) (x0_token : Int32) (x0_from : Int32) (x0_figures : Int64) (x0_fault : Int32) (x0_numbers : (Nat → Int32)) (x0_statements : Int32) (x0_left : (Nat → Int32)) (x0_far : (Nat → Int32)) (x0_tons : Int32) (x0_way : (Nat → Int32)) (x0_steps : Int32) (x0_met : Int64) (x0_queue : (Nat → Int32)) (x0_totals : (Nat → Int32)) (x1_shelf : (Nat → Int32)) (x1_rowSort : (Nat → Int32)) (x1_rowSize : (Nat → Int32)) (x1_rows : (Nat → Nat → Int64)) (x1_moved : (Nat → Int64)) (x1_shown : (Nat → Int32)) (x1_tape : (Nat → Int32)) (x1_tapeSize : Int32) (x1_refused : (Nat → Int32)) (x1_lines : Int32) (x1_line : (Nat → Nat → Int32)) (x1_changes : (Nat → Int32)) (x1_coins : (Nat → Int32)) (x1_goods : Int32) (x1_good : (Nat → Nat → Int32)) (x1_works : Int32) (x1_work : (Nat → Nat → Int32)) (x1_years : Int32) (x1_gone : Int32) (x1_spent : Int32) (x1_at : Int32) (x1_token : Int32) (x1_from : Int32) (x1_figures : Int64) (x1_fault : Int32) (x1_numbers : (Nat → Int32)) (x1_statements : Int32) (x1_left : (Nat → Int32)) (x1_far : (Nat → Int32)) (x1_tons : Int32) (x1_way : (Nat → Int32)) (x1_steps : Int32) (x1_met : Int64) (x1_queue : (Nat → Int32)) (x1_totals : (Nat → Int32))  {out : Int32 × (Int32 × (Nat → Nat → Int32) × (Nat → Int32) × (Nat → Int32) × Int32 × (Nat → Nat → Int32) × Int32 × (Nat → Nat → Int32) × Int32 × Int32 × Int32)} (hf : fX7_image n (x0_shelf, x0_rowSort, x0_rowSize, x0_rows, x0_moved, x0_shown, x0_tape, x0_tapeSize, x0_refused, x0_lines, x0_line, x0_changes, x0_coins, x0_goods, x0_good, x0_works, x0_work, x0_years, x0_gone, x0_spent, x0_at, x0_token, x0_from, x0_figures, x0_fault, x0_numbers, x0_statements, x0_left, x0_far, x0_tons, x0_way, x0_steps, x0_met, x0_queue, x0_totals) (x1_shelf, x1_rowSort, x1_rowSize, x1_rows, x1_moved, x1_shown, x1_tape, x1_tapeSize, x1_refused, x1_lines, x1_line, x1_changes, x1_coins, x1_goods, x1_good, x1_works, x1_work, x1_years, x1_gone, x1_spent, x1_at, x1_token, x1_from, x1_figures, x1_fault, x1_numbers, x1_statements, x1_left, x1_far, x1_tons, x1_way, x1_steps, x1_met, x1_queue, x1_totals) = some out) : Ct l d yX7_image cX7_image 1 (some .int) { frames := 3, cells := 0, slots := 0, locals := 65 } [.ref (h0 0)] [gMd d h0 (some (h1 0)) a0_tried a0_chosen r0_rows r0_line r0_good r0_work x0_shelf x0_rowSort x0_rowSize x0_moved x0_shown x0_tape x0_tapeSize x0_refused x0_lines x0_changes x0_coins x0_goods x0_works x0_years x0_gone x0_spent x0_at x0_token x0_from x0_figures x0_fault x0_numbers x0_statements x0_left x0_far x0_tons x0_way x0_steps x0_met x0_queue x0_totals, gridI d r0_line 20 7 x0_line, gridI d r0_good 8 3 x0_good, gridI d r0_work 7 5 x0_work, gMd d h1 a1_kept a1_tried a1_chosen r1_rows r1_line r1_good r1_work x1_shelf x1_rowSort x1_rowSize x1_moved x1_shown x1_tape x1_tapeSize x1_refused x1_lines x1_changes x1_coins x1_goods x1_works x1_years x1_gone x1_spent x1_at x1_token x1_from x1_figures x1_fault x1_numbers x1_statements x1_left x1_far x1_tons x1_way x1_steps x1_met x1_queue x1_totals, gridI d r1_line 20 7 x1_line, gridI d r1_good 8 3 x1_good, gridI d r1_work 7 5 x1_work] (fun _ : Unit => (some (.int out.1), [gMd d h0 (some (h1 0)) a0_tried a0_chosen r0_rows r0_line r0_good r0_work x0_shelf x0_rowSort x0_rowSize x0_moved x0_shown x0_tape x0_tapeSize x0_refused x0_lines x0_changes x0_coins x0_goods x0_works x0_years x0_gone x0_spent x0_at x0_token x0_from x0_figures x0_fault x0_numbers x0_statements x0_left x0_far x0_tons x0_way x0_steps x0_met x0_queue x0_totals, gridI d r0_line 20 7 x0_line, gridI d r0_good 8 3 x0_good, gridI d r0_work 7 5 x0_work, gMd d h1 a1_kept a1_tried a1_chosen r1_rows r1_line r1_good r1_work x1_shelf x1_rowSort x1_rowSize x1_moved x1_shown x1_tape x1_tapeSize x1_refused (out.2.1) (out.2.2.2.1) (out.2.2.2.2.1) (out.2.2.2.2.2.1) (out.2.2.2.2.2.2.2.1) (out.2.2.2.2.2.2.2.2.2.1) (out.2.2.2.2.2.2.2.2.2.2.1) (out.2.2.2.2.2.2.2.2.2.2.2) x1_at x1_token x1_from x1_figures x1_fault x1_numbers x1_statements x1_left x1_far x1_tons x1_way x1_steps x1_met x1_queue x1_totals, gridI d r1_line 20 7 (out.2.2.1), gridI d r1_good 8 3 (out.2.2.2.2.2.2.1), gridI d r1_work 7 5 (out.2.2.2.2.2.2.2.2.1)])) := by
  refine Ct.of (by decide) (Nat.le_of_ble_eq_true rfl) ?_
  intro Φ hl hK hR
  subst hl
  have hK : Ok d Φ RX7 "image" cX7_image 1 (some .int) { frames := 3, cells := 0, slots := 0, locals := 65 } := hK
  unfold fX7_image at hf
  have hf := un35 hf
  have hf := un35 hf
  show J d Φ 1 [gMd d h0 (some (h1 0)) a0_tried a0_chosen r0_rows r0_line r0_good r0_work x0_shelf x0_rowSort x0_rowSize x0_moved x0_shown x0_tape x0_tapeSize x0_refused x0_lines x0_changes x0_coins x0_goods x0_works x0_years x0_gone x0_spent x0_at x0_token x0_from x0_figures x0_fault x0_numbers x0_statements x0_left x0_far x0_tons x0_way x0_steps x0_met x0_queue x0_totals, gridI d r0_line 20 7 x0_line, gridI d r0_good 8 3 x0_good, gridI d r0_work 7 5 x0_work, gMd d h1 a1_kept a1_tried a1_chosen r1_rows r1_line r1_good r1_work x1_shelf x1_rowSort x1_rowSize x1_moved x1_shown x1_tape x1_tapeSize x1_refused x1_lines x1_changes x1_coins x1_goods x1_works x1_years x1_gone x1_spent x1_at x1_token x1_from x1_figures x1_fault x1_numbers x1_statements x1_left x1_far x1_tons x1_way x1_steps x1_met x1_queue x1_totals, gridI d r1_line 20 7 x1_line, gridI d r1_good 8 3 x1_good, gridI d r1_work 7 5 x1_work] 0 0 0 [(0, .ref (h0 0))] []
  refine J_aload_n hK dX7_image_0 rfl 0 rfl rfl ?_
  refine J_get (v := .ref (h1 0)) hK fo_RX7_353 dX7_image_1 rfl 0 0 rfl rfl rfl ?_
  refine J_ifnonnull (n := 18) hK dX7_image_4 rfl ?_
  refine J_aload_n hK dX7_image_18 rfl 0 rfl rfl ?_
  refine J_get (v := .ref (h1 0)) hK fo_RX7_353 dX7_image_19 rfl 0 0 rfl rfl rfl ?_
  refine J_aload_n hK dX7_image_22 rfl 0 rfl rfl ?_
  obtain ⟨⟨g2, g3, g4, g5, g6, g7, g8, g9, g10, g11, g12⟩, e13, hf⟩ := bs hf
  have hf := un11 hf
  refine J_callV (m' := 8) (ce' := 0) (sl' := 0) (gr := []) (gs' := fun _ => [gMd d h0 (some (h1 0)) a0_tried a0_chosen r0_rows r0_line r0_good r0_work x0_shelf x0_rowSort x0_rowSize x0_moved x0_shown x0_tape x0_tapeSize x0_refused x0_lines x0_changes x0_coins x0_goods x0_works x0_years x0_gone x0_spent x0_at x0_token x0_from x0_figures x0_fault x0_numbers x0_statements x0_left x0_far x0_tons x0_way x0_steps x0_met x0_queue x0_totals, gridI d r0_line 20 7 x0_line, gridI d r0_good 8 3 x0_good, gridI d r0_work 7 5 x0_work, gMd d h1 a1_kept a1_tried a1_chosen r1_rows r1_line r1_good r1_work x1_shelf x1_rowSort x1_rowSize x1_moved x1_shown x1_tape x1_tapeSize x1_refused g2 g4 g5 g6 g8 g10 g11 g12 x1_at x1_token x1_from x1_figures x1_fault x1_numbers x1_statements x1_left x1_far x1_tons x1_way x1_steps x1_met x1_queue x1_totals, gridI d r1_line 20 7 g3, gridI d r1_good 8 3 g7, gridI d r1_work 7 5 g9]) (st' := fun _ => []) (st := []) hK dX7_image_23 cv_RX7_245 iv_yX7_takeFrom (As := [.ref (h0 0)]) (kX7_takeFrom _ d h1 r1_rows r1_line r1_good r1_work a1_kept a1_tried a1_chosen h0 r0_rows r0_line r0_good r0_work (some (h1 0)) a0_tried a0_chosen n x1_shelf x1_rowSort x1_rowSize x1_rows x1_moved x1_shown x1_tape x1_tapeSize x1_refused x1_lines x1_line x1_changes x1_coins x1_goods x1_good x1_works x1_work x1_years x1_gone x1_spent x1_at x1_token x1_from x1_figures x1_fault x1_numbers x1_statements x1_left x1_far x1_tons x1_way x1_steps x1_met x1_queue x1_totals x0_shelf x0_rowSort x0_rowSize x0_rows x0_moved x0_shown x0_tape x0_tapeSize x0_refused x0_lines x0_line x0_changes x0_coins x0_goods x0_good x0_works x0_work x0_years x0_gone x0_spent x0_at x0_token x0_from x0_figures x0_fault x0_numbers x0_statements x0_left x0_far x0_tons x0_way x0_steps x0_met x0_queue x0_totals e13) rfl rfl (Nat.le_of_ble_eq_true rfl) (by decide) 4 0 rfl rfl rfl [4, 5, 6, 7, 0, 1, 2, 3] [] rfl rfl rfl rfl [4, 5, 6, 7, 0, 1, 2, 3] rfl (fun _ => rfl) (fun _ => rfl) rfl rfl rfl (fun _ => rfl) (fun _ => ?_)
  refine J_iconst (v := 1) hK dX7_image_26 rfl (by decide) ?_
  obtain rfl := Option.some.inj hf
  exact J_iret hK hR dX7_image_27 () rfl (by decide) (by decide)

def fX7_back_s24 (x0_shown : (Nat → Int32)) (g8 : Int32) (z15 : Int32) (z16 : (Nat → Int32)) : Option ((Int32 × (Nat → Int32)) ⊕ ((Nat → Int32))) :=
  if 8 ≤ z15 then (some (.inr z16)) else ((rd 8 z16 z15).bind fun v19 => if v19 = 2 then ((rd 8 x0_shown z15).bind fun v20 => if v20 < g8 then (some (.inl ((z15 + 1), z16))) else ((wr 8 z16 z15 (0)).bind fun f21 => some (.inl ((z15 + 1), f21)))) else (some (.inl ((z15 + 1), z16))))
def fX7_back (n : Nat) (X0 : MdT) (X1 : MdT) : Option (Int32 × ((Nat → Int32) × (Nat → Int32) × Int32 × (Nat → Nat → Int32) × (Nat → Int32) × (Nat → Int32) × Int32 × (Nat → Nat → Int32) × Int32 × (Nat → Nat → Int32) × Int32 × Int32 × Int32)) :=
  u35 (fun (x0_shelf : (Nat → Int32)) (x0_rowSort : (Nat → Int32)) (x0_rowSize : (Nat → Int32)) (x0_rows : (Nat → Nat → Int64)) (x0_moved : (Nat → Int64)) (x0_shown : (Nat → Int32)) (x0_tape : (Nat → Int32)) (x0_tapeSize : Int32) (x0_refused : (Nat → Int32)) (x0_lines : Int32) (x0_line : (Nat → Nat → Int32)) (x0_changes : (Nat → Int32)) (x0_coins : (Nat → Int32)) (x0_goods : Int32) (x0_good : (Nat → Nat → Int32)) (x0_works : Int32) (x0_work : (Nat → Nat → Int32)) (x0_years : Int32) (x0_gone : Int32) (x0_spent : Int32) (x0_at : Int32) (x0_token : Int32) (x0_from : Int32) (x0_figures : Int64) (x0_fault : Int32) (x0_numbers : (Nat → Int32)) (x0_statements : Int32) (x0_left : (Nat → Int32)) (x0_far : (Nat → Int32)) (x0_tons : Int32) (x0_way : (Nat → Int32)) (x0_steps : Int32) (x0_met : Int64) (x0_queue : (Nat → Int32)) (x0_totals : (Nat → Int32)) => u35 (fun (x1_shelf : (Nat → Int32)) (x1_rowSort : (Nat → Int32)) (x1_rowSize : (Nat → Int32)) (x1_rows : (Nat → Nat → Int64)) (x1_moved : (Nat → Int64)) (x1_shown : (Nat → Int32)) (x1_tape : (Nat → Int32)) (x1_tapeSize : Int32) (x1_refused : (Nat → Int32)) (x1_lines : Int32) (x1_line : (Nat → Nat → Int32)) (x1_changes : (Nat → Int32)) (x1_coins : (Nat → Int32)) (x1_goods : Int32) (x1_good : (Nat → Nat → Int32)) (x1_works : Int32) (x1_work : (Nat → Nat → Int32)) (x1_years : Int32) (x1_gone : Int32) (x1_spent : Int32) (x1_at : Int32) (x1_token : Int32) (x1_from : Int32) (x1_figures : Int64) (x1_fault : Int32) (x1_numbers : (Nat → Int32)) (x1_statements : Int32) (x1_left : (Nat → Int32)) (x1_far : (Nat → Int32)) (x1_tons : Int32) (x1_way : (Nat → Int32)) (x1_steps : Int32) (x1_met : Int64) (x1_queue : (Nat → Int32)) (x1_totals : (Nat → Int32)) => (fX7_takeFrom n (x0_shelf, x0_rowSort, x0_rowSize, x0_rows, x0_moved, x0_shown, x0_tape, x0_tapeSize, x0_refused, x0_lines, x0_line, x0_changes, x0_coins, x0_goods, x0_good, x0_works, x0_work, x0_years, x0_gone, x0_spent, x0_at, x0_token, x0_from, x0_figures, x0_fault, x0_numbers, x0_statements, x0_left, x0_far, x0_tons, x0_way, x0_steps, x0_met, x0_queue, x0_totals) (x1_shelf, x1_rowSort, x1_rowSize, x1_rows, x1_moved, x1_shown, x1_tape, x1_tapeSize, x1_refused, x1_lines, x1_line, x1_changes, x1_coins, x1_goods, x1_good, x1_works, x1_work, x1_years, x1_gone, x1_spent, x1_at, x1_token, x1_from, x1_figures, x1_fault, x1_numbers, x1_statements, x1_left, x1_far, x1_tons, x1_way, x1_steps, x1_met, x1_queue, x1_totals)).bind (fun G1 => u11 (fun g2 g3 g4 g5 g6 g7 g8 g9 g10 g11 g12 => (lp (u2 (fX7_back_s24 x0_shown g8)) n (0, x0_shelf)).bind (fun w18 => some (1, (w18, x0_refused, g2, g3, g4, g5, g6, g7, g8, g9, g10, g11, g12)))) G1)) X1) X0
set_option maxHeartbeats 4000000 in
set_option maxRecDepth 100000 in
theorem kX7_back (l : Launch) (d : DT) (h0 : Nat → Nat) (r0_rows : Nat → Nat) (r0_line : Nat → Nat) (r0_good : Nat → Nat) (r0_work : Nat → Nat) (a0_tried : Option Nat) (a0_chosen : Option Nat) (h1 : Nat → Nat) (r1_rows : Nat → Nat) (r1_line : Nat → Nat) (r1_good : Nat → Nat) (r1_work : Nat → Nat) (a1_kept : Option Nat) (a1_tried : Option Nat) (a1_chosen : Option Nat) (n : Nat) (x0_shelf : (Nat → Int32)) (x0_rowSort : (Nat → Int32)) (x0_rowSize : (Nat → Int32)) (x0_rows : (Nat → Nat → Int64)) (x0_moved : (Nat → Int64)) (x0_shown : (Nat → Int32)) (x0_tape : (Nat → Int32)) (x0_tapeSize : Int32) (x0_refused : (Nat → Int32)) (x0_lines : Int32) (x0_line : (Nat → Nat → Int32)) (x0_changes : (Nat → Int32)) (x0_coins : (Nat → Int32)) (x0_goods : Int32) (x0_good : (Nat → Nat → Int32)) (x0_works : Int32) (x0_work : (Nat → Nat → Int32)) (x0_years : Int32) (x0_gone : Int32) (x0_spent : Int32) (x0_at : Int32) (x0_token : Int32) (x0_from : Int32) (x0_figures : Int64) (x0_fault : Int32) (x0_numbers : (Nat → Int32)) (x0_statements : Int32) (x0_left : (Nat → Int32)) (x0_far : (Nat → Int32)) (x0_tons : Int32) (x0_way : (Nat → Int32)) (x0_steps : Int32) (x0_met : Int64) (x0_queue : (Nat → Int32)) (x0_totals : (Nat → Int32)) (x1_shelf : (Nat → Int32)) (x1_rowSort : (Nat → Int32)) (x1_rowSize : (Nat → Int32)) (x1_rows : (Nat → Nat → Int64)) (x1_moved : (Nat → Int64)) (x1_shown : (Nat → Int32)) (x1_tape : (Nat → Int32)) (x1_tapeSize : Int32) (x1_refused : (Nat → Int32)) (x1_lines : Int32) (x1_line : (Nat → Nat → Int32)) (x1_changes : (Nat → Int32)) (x1_coins : (Nat → Int32)) (x1_goods : Int32) (x1_good : (Nat → Nat → Int32)) (x1_works : Int32) (x1_work : (Nat → Nat → Int32)) (x1_years : Int32) (x1_gone : Int32) (x1_spent : Int32) (x1_at : Int32) (x1_token : Int32) (x1_from : Int32) (x1_figures : Int64) (x1_fault : Int32) (x1_numbers : (Nat → Int32)) (x1_statements : Int32) (x1_left : (Nat → Int32)) (x1_far : (Nat → Int32)) (x1_tons : Int32) (x1_way : (Nat → Int32)) (x1_steps : Int32) (x1_met : Int64) (x1_queue : (Nat → Int32)) (x1_totals : (Nat → Int32))  {out : Int32 × ((Nat → Int32) × (Nat → Int32) × Int32 × (Nat → Nat → Int32) × (Nat → Int32) × (Nat → Int32) × Int32 × (Nat → Nat → Int32) × Int32 × (Nat → Nat → Int32) × Int32 × Int32 × Int32)} (hf : fX7_back n (x0_shelf, x0_rowSort, x0_rowSize, x0_rows, x0_moved, x0_shown, x0_tape, x0_tapeSize, x0_refused, x0_lines, x0_line, x0_changes, x0_coins, x0_goods, x0_good, x0_works, x0_work, x0_years, x0_gone, x0_spent, x0_at, x0_token, x0_from, x0_figures, x0_fault, x0_numbers, x0_statements, x0_left, x0_far, x0_tons, x0_way, x0_steps, x0_met, x0_queue, x0_totals) (x1_shelf, x1_rowSort, x1_rowSize, x1_rows, x1_moved, x1_shown, x1_tape, x1_tapeSize, x1_refused, x1_lines, x1_line, x1_changes, x1_coins, x1_goods, x1_good, x1_works, x1_work, x1_years, x1_gone, x1_spent, x1_at, x1_token, x1_from, x1_figures, x1_fault, x1_numbers, x1_statements, x1_left, x1_far, x1_tons, x1_way, x1_steps, x1_met, x1_queue, x1_totals) = some out) : Ct l d yX7_back cX7_back 2 (some .int) { frames := 3, cells := 0, slots := 0, locals := 65 } [.ref (h0 0)] [gMd d h0 (some (h1 0)) a0_tried a0_chosen r0_rows r0_line r0_good r0_work x0_shelf x0_rowSort x0_rowSize x0_moved x0_shown x0_tape x0_tapeSize x0_refused x0_lines x0_changes x0_coins x0_goods x0_works x0_years x0_gone x0_spent x0_at x0_token x0_from x0_figures x0_fault x0_numbers x0_statements x0_left x0_far x0_tons x0_way x0_steps x0_met x0_queue x0_totals, gridI d r0_line 20 7 x0_line, gridI d r0_good 8 3 x0_good, gridI d r0_work 7 5 x0_work, gMd d h1 a1_kept a1_tried a1_chosen r1_rows r1_line r1_good r1_work x1_shelf x1_rowSort x1_rowSize x1_moved x1_shown x1_tape x1_tapeSize x1_refused x1_lines x1_changes x1_coins x1_goods x1_works x1_years x1_gone x1_spent x1_at x1_token x1_from x1_figures x1_fault x1_numbers x1_statements x1_left x1_far x1_tons x1_way x1_steps x1_met x1_queue x1_totals, gridI d r1_line 20 7 x1_line, gridI d r1_good 8 3 x1_good, gridI d r1_work 7 5 x1_work] (fun _ : Unit => (some (.int out.1), [gMd d h0 (some (h1 0)) a0_tried a0_chosen r0_rows r0_line r0_good r0_work (out.2.1) x0_rowSort x0_rowSize x0_moved x0_shown x0_tape x0_tapeSize (out.2.2.1) (out.2.2.2.1) (out.2.2.2.2.2.1) (out.2.2.2.2.2.2.1) (out.2.2.2.2.2.2.2.1) (out.2.2.2.2.2.2.2.2.2.1) (out.2.2.2.2.2.2.2.2.2.2.2.1) (out.2.2.2.2.2.2.2.2.2.2.2.2.1) (out.2.2.2.2.2.2.2.2.2.2.2.2.2) x0_at x0_token x0_from x0_figures x0_fault x0_numbers x0_statements x0_left x0_far x0_tons x0_way x0_steps x0_met x0_queue x0_totals, gridI d r0_line 20 7 (out.2.2.2.2.1), gridI d r0_good 8 3 (out.2.2.2.2.2.2.2.2.1), gridI d r0_work 7 5 (out.2.2.2.2.2.2.2.2.2.2.1), gMd d h1 a1_kept a1_tried a1_chosen r1_rows r1_line r1_good r1_work x1_shelf x1_rowSort x1_rowSize x1_moved x1_shown x1_tape x1_tapeSize x1_refused x1_lines x1_changes x1_coins x1_goods x1_works x1_years x1_gone x1_spent x1_at x1_token x1_from x1_figures x1_fault x1_numbers x1_statements x1_left x1_far x1_tons x1_way x1_steps x1_met x1_queue x1_totals, gridI d r1_line 20 7 x1_line, gridI d r1_good 8 3 x1_good, gridI d r1_work 7 5 x1_work])) := by
  refine Ct.of (by decide) (Nat.le_of_ble_eq_true rfl) ?_
  intro Φ hl hK hR
  subst hl
  have hK : Ok d Φ RX7 "back" cX7_back 2 (some .int) { frames := 3, cells := 0, slots := 0, locals := 65 } := hK
  unfold fX7_back at hf
  have hf := un35 hf
  have hf := un35 hf
  show J d Φ 2 [gMd d h0 (some (h1 0)) a0_tried a0_chosen r0_rows r0_line r0_good r0_work x0_shelf x0_rowSort x0_rowSize x0_moved x0_shown x0_tape x0_tapeSize x0_refused x0_lines x0_changes x0_coins x0_goods x0_works x0_years x0_gone x0_spent x0_at x0_token x0_from x0_figures x0_fault x0_numbers x0_statements x0_left x0_far x0_tons x0_way x0_steps x0_met x0_queue x0_totals, gridI d r0_line 20 7 x0_line, gridI d r0_good 8 3 x0_good, gridI d r0_work 7 5 x0_work, gMd d h1 a1_kept a1_tried a1_chosen r1_rows r1_line r1_good r1_work x1_shelf x1_rowSort x1_rowSize x1_moved x1_shown x1_tape x1_tapeSize x1_refused x1_lines x1_changes x1_coins x1_goods x1_works x1_years x1_gone x1_spent x1_at x1_token x1_from x1_figures x1_fault x1_numbers x1_statements x1_left x1_far x1_tons x1_way x1_steps x1_met x1_queue x1_totals, gridI d r1_line 20 7 x1_line, gridI d r1_good 8 3 x1_good, gridI d r1_work 7 5 x1_work] 0 0 0 [(0, .ref (h0 0))] []
  refine J_aload_n hK dX7_back_0 rfl 0 rfl rfl ?_
  refine J_get (v := .ref (h1 0)) hK fo_RX7_353 dX7_back_1 rfl 0 0 rfl rfl rfl ?_
  refine J_ifnonnull (n := 14) hK dX7_back_4 rfl ?_
  refine J_aload_n hK dX7_back_14 rfl 0 rfl rfl ?_
  refine J_aload_n hK dX7_back_15 rfl 0 rfl rfl ?_
  refine J_get (v := .ref (h1 0)) hK fo_RX7_353 dX7_back_16 rfl 0 0 rfl rfl rfl ?_
  obtain ⟨⟨g2, g3, g4, g5, g6, g7, g8, g9, g10, g11, g12⟩, e13, hf⟩ := bs hf
  have hf := un11 hf
  refine J_callV (m' := 8) (ce' := 0) (sl' := 0) (gr := []) (gs' := fun _ => [gMd d h0 (some (h1 0)) a0_tried a0_chosen r0_rows r0_line r0_good r0_work x0_shelf x0_rowSort x0_rowSize x0_moved x0_shown x0_tape x0_tapeSize x0_refused g2 g4 g5 g6 g8 g10 g11 g12 x0_at x0_token x0_from x0_figures x0_fault x0_numbers x0_statements x0_left x0_far x0_tons x0_way x0_steps x0_met x0_queue x0_totals, gridI d r0_line 20 7 g3, gridI d r0_good 8 3 g7, gridI d r0_work 7 5 g9, gMd d h1 a1_kept a1_tried a1_chosen r1_rows r1_line r1_good r1_work x1_shelf x1_rowSort x1_rowSize x1_moved x1_shown x1_tape x1_tapeSize x1_refused x1_lines x1_changes x1_coins x1_goods x1_works x1_years x1_gone x1_spent x1_at x1_token x1_from x1_figures x1_fault x1_numbers x1_statements x1_left x1_far x1_tons x1_way x1_steps x1_met x1_queue x1_totals, gridI d r1_line 20 7 x1_line, gridI d r1_good 8 3 x1_good, gridI d r1_work 7 5 x1_work]) (st' := fun _ => []) (st := []) hK dX7_back_19 cv_RX7_245 iv_yX7_takeFrom (As := [.ref (h1 0)]) (kX7_takeFrom _ d h0 r0_rows r0_line r0_good r0_work (some (h1 0)) a0_tried a0_chosen h1 r1_rows r1_line r1_good r1_work a1_kept a1_tried a1_chosen n x0_shelf x0_rowSort x0_rowSize x0_rows x0_moved x0_shown x0_tape x0_tapeSize x0_refused x0_lines x0_line x0_changes x0_coins x0_goods x0_good x0_works x0_work x0_years x0_gone x0_spent x0_at x0_token x0_from x0_figures x0_fault x0_numbers x0_statements x0_left x0_far x0_tons x0_way x0_steps x0_met x0_queue x0_totals x1_shelf x1_rowSort x1_rowSize x1_rows x1_moved x1_shown x1_tape x1_tapeSize x1_refused x1_lines x1_line x1_changes x1_coins x1_goods x1_good x1_works x1_work x1_years x1_gone x1_spent x1_at x1_token x1_from x1_figures x1_fault x1_numbers x1_statements x1_left x1_far x1_tons x1_way x1_steps x1_met x1_queue x1_totals e13) rfl rfl (Nat.le_of_ble_eq_true rfl) (by decide) 0 0 rfl rfl rfl [0, 1, 2, 3, 4, 5, 6, 7] [] rfl rfl rfl rfl [0, 1, 2, 3, 4, 5, 6, 7] rfl (fun _ => rfl) (fun _ => rfl) rfl rfl rfl (fun _ => rfl) (fun _ => ?_)
  refine J_iconst (v := 0) hK dX7_back_22 rfl (by decide) ?_
  refine J_istore_n (L' := [(1, .int (0)), (0, .ref (h0 0))]) hK dX7_back_23 rfl rfl (by decide) rfl ?_
  obtain ⟨e17, hl14, hf⟩ := bs hf
  have hx14_66 : ∀ (w18 : (Nat → Int32)), w18 = e17 → J d Φ 2 [gMd d h0 (some (h1 0)) a0_tried a0_chosen r0_rows r0_line r0_good r0_work w18 x0_rowSort x0_rowSize x0_moved x0_shown x0_tape x0_tapeSize x0_refused g2 g4 g5 g6 g8 g10 g11 g12 x0_at x0_token x0_from x0_figures x0_fault x0_numbers x0_statements x0_left x0_far x0_tons x0_way x0_steps x0_met x0_queue x0_totals, gridI d r0_line 20 7 g3, gridI d r0_good 8 3 g7, gridI d r0_work 7 5 g9, gMd d h1 a1_kept a1_tried a1_chosen r1_rows r1_line r1_good r1_work x1_shelf x1_rowSort x1_rowSize x1_moved x1_shown x1_tape x1_tapeSize x1_refused x1_lines x1_changes x1_coins x1_goods x1_works x1_years x1_gone x1_spent x1_at x1_token x1_from x1_figures x1_fault x1_numbers x1_statements x1_left x1_far x1_tons x1_way x1_steps x1_met x1_queue x1_totals, gridI d r1_line 20 7 x1_line, gridI d r1_good 8 3 x1_good, gridI d r1_work 7 5 x1_work] 0 0 66 [] [] := by
    intro w18 he
    rw [← he] at hf
    refine J_iconst (v := 1) hK dX7_back_66 rfl (by decide) ?_
    obtain rfl := Option.some.inj hf
    exact J_iret hK hR dX7_back_67 () rfl (by decide) (by decide)
  have lo14 : ∀ (k : Nat) (z15 : Int32) (z16 : (Nat → Int32)), lp (u2 (fX7_back_s24 x0_shown g8)) k (z15, z16) = some e17 → J d Φ 2 [gMd d h0 (some (h1 0)) a0_tried a0_chosen r0_rows r0_line r0_good r0_work z16 x0_rowSort x0_rowSize x0_moved x0_shown x0_tape x0_tapeSize x0_refused g2 g4 g5 g6 g8 g10 g11 g12 x0_at x0_token x0_from x0_figures x0_fault x0_numbers x0_statements x0_left x0_far x0_tons x0_way x0_steps x0_met x0_queue x0_totals, gridI d r0_line 20 7 g3, gridI d r0_good 8 3 g7, gridI d r0_work 7 5 g9, gMd d h1 a1_kept a1_tried a1_chosen r1_rows r1_line r1_good r1_work x1_shelf x1_rowSort x1_rowSize x1_moved x1_shown x1_tape x1_tapeSize x1_refused x1_lines x1_changes x1_coins x1_goods x1_works x1_years x1_gone x1_spent x1_at x1_token x1_from x1_figures x1_fault x1_numbers x1_statements x1_left x1_far x1_tons x1_way x1_steps x1_met x1_queue x1_totals, gridI d r1_line 20 7 x1_line, gridI d r1_good 8 3 x1_good, gridI d r1_work 7 5 x1_work] 0 0 24 [(0, .ref (h0 0)), (1, .int z15)] [] := by
    intro k
    induction k with
    | zero => intro z15 z16 h; cases h
    | succ k ih14 =>
      intro z15 z16 h
      obtain ⟨k2, rr14, hk2, hs14, hr14⟩ := lp_ok h
      cases hk2
      have hs14 : fX7_back_s24 x0_shown g8 z15 z16 = some rr14 := hs14
      unfold fX7_back_s24 at hs14
      refine J_iload_n hK dX7_back_24 rfl 1 rfl rfl ?_
      refine J_bipush (v := 8) hK dX7_back_25 rfl (by decide) ?_
      refine J_icmp_ge (tg := 66) hK dX7_back_27 rfl rfl (fun hc27 => ?_) (fun hc27 => ?_)
      · have hs14 := ip hc27 hs14
        exact J_loc [] rfl (hx14_66 z16 (lpx hs14 hr14))
      · have hs14 := iq hc27 hs14
        refine J_aload_n hK dX7_back_30 rfl 0 rfl rfl ?_
        refine J_get hK fo_RX7_7 dX7_back_31 rfl 0 0 rfl rfl rfl ?_
        refine J_iload_n hK dX7_back_34 rfl 1 rfl rfl ?_
        obtain ⟨v19, ev19, hs14⟩ := bs hs14
        refine J_iald hK dX7_back_35 rfl 0 1 rfl rfl ev19 ?_
        refine J_iconst (v := 2) hK dX7_back_36 rfl (by decide) ?_
        refine J_icmp_ne (tg := 60) hK dX7_back_37 rfl rfl (fun hc37 => ?_) (fun hc37 => ?_)
        · have hs14 := iq hc37 hs14
          refine J_iinc (L' := [(1, .int (z15 + 1)), (0, .ref (h0 0))]) (v := (z15 + 1)) hK dX7_back_60 rfl 1 rfl rfl (by decide) rfl ?_
          refine J_goto hK dX7_back_63 (n := 24) rfl ?_
          exact J_loc [1, 0] rfl (ih14 (z15 + 1) z16 (lpc hs14 hr14))
        · have hs14 := ip hc37 hs14
          refine J_aload_n hK dX7_back_40 rfl 0 rfl rfl ?_
          refine J_get hK fo_RX7_28 dX7_back_41 rfl 0 0 rfl rfl rfl ?_
          refine J_iload_n hK dX7_back_44 rfl 1 rfl rfl ?_
          obtain ⟨v20, ev20, hs14⟩ := bs hs14
          refine J_iald hK dX7_back_45 rfl 0 6 rfl rfl ev20 ?_
          refine J_aload_n hK dX7_back_46 rfl 0 rfl rfl ?_
          refine J_get hK fo_RX7_85 dX7_back_47 rfl 0 0 rfl rfl rfl ?_
          refine J_icmp_lt (tg := 60) hK dX7_back_50 rfl rfl (fun hc50 => ?_) (fun hc50 => ?_)
          · have hs14 := ip hc50 hs14
            refine J_iinc (L' := [(1, .int (z15 + 1)), (0, .ref (h0 0))]) (v := (z15 + 1)) hK dX7_back_60 rfl 1 rfl rfl (by decide) rfl ?_
            refine J_goto hK dX7_back_63 (n := 24) rfl ?_
            exact J_loc [1, 0] rfl (ih14 (z15 + 1) z16 (lpc hs14 hr14))
          · have hs14 := iq hc50 hs14
            refine J_aload_n hK dX7_back_53 rfl 0 rfl rfl ?_
            refine J_get hK fo_RX7_7 dX7_back_54 rfl 0 0 rfl rfl rfl ?_
            refine J_iload_n hK dX7_back_57 rfl 1 rfl rfl ?_
            refine J_iconst (v := 0) hK dX7_back_58 rfl (by decide) ?_
            obtain ⟨f21, ef21, hs14⟩ := bs hs14
            refine J_iast (g' := gMd d h0 (some (h1 0)) a0_tried a0_chosen r0_rows r0_line r0_good r0_work f21 x0_rowSort x0_rowSize x0_moved x0_shown x0_tape x0_tapeSize x0_refused g2 g4 g5 g6 g8 g10 g11 g12 x0_at x0_token x0_from x0_figures x0_fault x0_numbers x0_statements x0_left x0_far x0_tons x0_way x0_steps x0_met x0_queue x0_totals) (gs' := [gMd d h0 (some (h1 0)) a0_tried a0_chosen r0_rows r0_line r0_good r0_work f21 x0_rowSort x0_rowSize x0_moved x0_shown x0_tape x0_tapeSize x0_refused g2 g4 g5 g6 g8 g10 g11 g12 x0_at x0_token x0_from x0_figures x0_fault x0_numbers x0_statements x0_left x0_far x0_tons x0_way x0_steps x0_met x0_queue x0_totals, gridI d r0_line 20 7 g3, gridI d r0_good 8 3 g7, gridI d r0_work 7 5 g9, gMd d h1 a1_kept a1_tried a1_chosen r1_rows r1_line r1_good r1_work x1_shelf x1_rowSort x1_rowSize x1_moved x1_shown x1_tape x1_tapeSize x1_refused x1_lines x1_changes x1_coins x1_goods x1_works x1_years x1_gone x1_spent x1_at x1_token x1_from x1_figures x1_fault x1_numbers x1_statements x1_left x1_far x1_tons x1_way x1_steps x1_met x1_queue x1_totals, gridI d r1_line 20 7 x1_line, gridI d r1_good 8 3 x1_good, gridI d r1_work 7 5 x1_work]) hK dX7_back_59 rfl 0 1 rfl rfl ef21 rfl rfl ?_
            refine J_iinc (L' := [(1, .int (z15 + 1)), (0, .ref (h0 0))]) (v := (z15 + 1)) hK dX7_back_60 rfl 1 rfl rfl (by decide) rfl ?_
            refine J_goto hK dX7_back_63 (n := 24) rfl ?_
            exact J_loc [1, 0] rfl (ih14 (z15 + 1) f21 (lpc hs14 hr14))
  exact J_loc [1, 0] rfl (lo14 n (0) x0_shelf hl14)

def fX7_status_s69 (x0_works : Int32) (x0_work : (Nat → Nat → Int32)) (z2 : Int32) (z3 : Int32) : Option ((Int32 × Int32) ⊕ (Int32)) :=
  if x0_works ≤ z3 then (some (.inr z2)) else ((ck z3 7).bind fun q6 => (rd 5 (x0_work q6) (4)).bind fun v7 => some (.inl ((z2 + v7), (z3 + 1))))
def fX7_status_s118 (x0_shelf : (Nat → Int32)) (z9 : Int32) (z10 : Int32) : Option ((Int32 × Int32) ⊕ (Int32)) :=
  if 8 ≤ z10 then (some (.inr z9)) else ((rd 8 x0_shelf z10).bind fun v13 => if v13 = 0 then (some (.inl ((z9 + 0), (z10 + 1)))) else (some (.inl ((z9 + 1), (z10 + 1)))))
def fX7_status (n : Nat) (X0 : MdT) (p1 : Int32) : Option (Int32) :=
  u35 (fun (x0_shelf : (Nat → Int32)) (x0_rowSort : (Nat → Int32)) (x0_rowSize : (Nat → Int32)) (x0_rows : (Nat → Nat → Int64)) (x0_moved : (Nat → Int64)) (x0_shown : (Nat → Int32)) (x0_tape : (Nat → Int32)) (x0_tapeSize : Int32) (x0_refused : (Nat → Int32)) (x0_lines : Int32) (x0_line : (Nat → Nat → Int32)) (x0_changes : (Nat → Int32)) (x0_coins : (Nat → Int32)) (x0_goods : Int32) (x0_good : (Nat → Nat → Int32)) (x0_works : Int32) (x0_work : (Nat → Nat → Int32)) (x0_years : Int32) (x0_gone : Int32) (x0_spent : Int32) (x0_at : Int32) (x0_token : Int32) (x0_from : Int32) (x0_figures : Int64) (x0_fault : Int32) (x0_numbers : (Nat → Int32)) (x0_statements : Int32) (x0_left : (Nat → Int32)) (x0_far : (Nat → Int32)) (x0_tons : Int32) (x0_way : (Nat → Int32)) (x0_steps : Int32) (x0_met : Int64) (x0_queue : (Nat → Int32)) (x0_totals : (Nat → Int32)) => if p1 = 0 then (some x0_lines) else (if p1 = 1 then (some x0_goods) else (if p1 = 2 then (some x0_works) else (if p1 = 3 then ((lp (u2 (fX7_status_s69 x0_works x0_work)) n (0, 0)).bind (fun w5 => some w5)) else (if p1 = 4 then (some x0_gone) else (if p1 = 5 then (some x0_spent) else (if p1 = 6 then (some x0_years) else (if p1 = 7 then (some x0_tapeSize) else (if p1 = 8 then ((lp (u2 (fX7_status_s118 x0_shelf)) n (0, 0)).bind (fun w12 => some w12)) else ((fX7_in ((p1).toInt64) (12 : Int64) (16 : Int64)).bind (fun v14 => if v14 = 0 then (some (-1)) else ((rd 8 x0_refused (p1 - 10)).bind fun v16 => some v16)))))))))))) X0
set_option maxHeartbeats 4000000 in
set_option maxRecDepth 100000 in
theorem kX7_status (l : Launch) (d : DT) (h0 : Nat → Nat) (r0_rows : Nat → Nat) (r0_line : Nat → Nat) (r0_good : Nat → Nat) (r0_work : Nat → Nat) (a0_kept : Option Nat) (a0_tried : Option Nat) (a0_chosen : Option Nat) (n : Nat) (x0_shelf : (Nat → Int32)) (x0_rowSort : (Nat → Int32)) (x0_rowSize : (Nat → Int32)) (x0_rows : (Nat → Nat → Int64)) (x0_moved : (Nat → Int64)) (x0_shown : (Nat → Int32)) (x0_tape : (Nat → Int32)) (x0_tapeSize : Int32) (x0_refused : (Nat → Int32)) (x0_lines : Int32) (x0_line : (Nat → Nat → Int32)) (x0_changes : (Nat → Int32)) (x0_coins : (Nat → Int32)) (x0_goods : Int32) (x0_good : (Nat → Nat → Int32)) (x0_works : Int32) (x0_work : (Nat → Nat → Int32)) (x0_years : Int32) (x0_gone : Int32) (x0_spent : Int32) (x0_at : Int32) (x0_token : Int32) (x0_from : Int32) (x0_figures : Int64) (x0_fault : Int32) (x0_numbers : (Nat → Int32)) (x0_statements : Int32) (x0_left : (Nat → Int32)) (x0_far : (Nat → Int32)) (x0_tons : Int32) (x0_way : (Nat → Int32)) (x0_steps : Int32) (x0_met : Int64) (x0_queue : (Nat → Int32)) (x0_totals : (Nat → Int32)) (p1 : Int32)  {out : Int32} (hf : fX7_status n (x0_shelf, x0_rowSort, x0_rowSize, x0_rows, x0_moved, x0_shown, x0_tape, x0_tapeSize, x0_refused, x0_lines, x0_line, x0_changes, x0_coins, x0_goods, x0_good, x0_works, x0_work, x0_years, x0_gone, x0_spent, x0_at, x0_token, x0_from, x0_figures, x0_fault, x0_numbers, x0_statements, x0_left, x0_far, x0_tons, x0_way, x0_steps, x0_met, x0_queue, x0_totals) p1 = some out) : Ct l d yX7_status cX7_status 4 (some .int) { frames := 1, cells := 0, slots := 0, locals := 25 } [.ref (h0 0), .int p1] [gMd d h0 a0_kept a0_tried a0_chosen r0_rows r0_line r0_good r0_work x0_shelf x0_rowSort x0_rowSize x0_moved x0_shown x0_tape x0_tapeSize x0_refused x0_lines x0_changes x0_coins x0_goods x0_works x0_years x0_gone x0_spent x0_at x0_token x0_from x0_figures x0_fault x0_numbers x0_statements x0_left x0_far x0_tons x0_way x0_steps x0_met x0_queue x0_totals, gridI d r0_work 7 5 x0_work] (fun _ : Unit => (some (.int out), [gMd d h0 a0_kept a0_tried a0_chosen r0_rows r0_line r0_good r0_work x0_shelf x0_rowSort x0_rowSize x0_moved x0_shown x0_tape x0_tapeSize x0_refused x0_lines x0_changes x0_coins x0_goods x0_works x0_years x0_gone x0_spent x0_at x0_token x0_from x0_figures x0_fault x0_numbers x0_statements x0_left x0_far x0_tons x0_way x0_steps x0_met x0_queue x0_totals, gridI d r0_work 7 5 x0_work])) := by
  refine Ct.of (by decide) (Nat.le_of_ble_eq_true rfl) ?_
  intro Φ hl hK hR
  subst hl
  have hK : Ok d Φ RX7 "status" cX7_status 4 (some .int) { frames := 1, cells := 0, slots := 0, locals := 25 } := hK
  unfold fX7_status at hf
  have hf := un35 hf
  show J d Φ 4 [gMd d h0 a0_kept a0_tried a0_chosen r0_rows r0_line r0_good r0_work x0_shelf x0_rowSort x0_rowSize x0_moved x0_shown x0_tape x0_tapeSize x0_refused x0_lines x0_changes x0_coins x0_goods x0_works x0_years x0_gone x0_spent x0_at x0_token x0_from x0_figures x0_fault x0_numbers x0_statements x0_left x0_far x0_tons x0_way x0_steps x0_met x0_queue x0_totals, gridI d r0_work 7 5 x0_work] 0 0 0 [(0, .ref (h0 0)), (1, .int p1)] []
  refine J_iconst (v := 0) hK dX7_status_0 rfl (by decide) ?_
  refine J_istore_n (L' := [(2, .int (0)), (0, .ref (h0 0)), (1, .int p1)]) hK dX7_status_1 rfl rfl (by decide) rfl ?_
  refine J_iload_n hK dX7_status_2 rfl 2 rfl rfl ?_
  by_cases hc3_0 : p1 = 0
  · have hf := ip hc3_0 hf
    refine J_swI (tg := 52) hK dX7_status_3 (by rw [hc3_0]; decide) (by rw [hc3_0]; decide) (by rw [hc3_0]; rfl) rfl ?_
    refine J_aload_n hK dX7_status_52 rfl 1 rfl rfl ?_
    refine J_get hK fo_RX7_82 dX7_status_53 rfl 0 0 rfl rfl rfl ?_
    obtain rfl := Option.some.inj hf
    exact J_iret hK hR dX7_status_56 () rfl (by decide) (by decide)
  have hf := iq hc3_0 hf
  by_cases hc3_1 : p1 = 1
  · have hf := ip hc3_1 hf
    refine J_swI (tg := 57) hK dX7_status_3 (by rw [hc3_1]; decide) (by rw [hc3_1]; decide) (by rw [hc3_1]; rfl) rfl ?_
    refine J_aload_n hK dX7_status_57 rfl 1 rfl rfl ?_
    refine J_get hK fo_RX7_125 dX7_status_58 rfl 0 0 rfl rfl rfl ?_
    obtain rfl := Option.some.inj hf
    exact J_iret hK hR dX7_status_61 () rfl (by decide) (by decide)
  have hf := iq hc3_1 hf
  by_cases hc3_2 : p1 = 2
  · have hf := ip hc3_2 hf
    refine J_swI (tg := 62) hK dX7_status_3 (by rw [hc3_2]; decide) (by rw [hc3_2]; decide) (by rw [hc3_2]; rfl) rfl ?_
    refine J_aload_n hK dX7_status_62 rfl 1 rfl rfl ?_
    refine J_get hK fo_RX7_85 dX7_status_63 rfl 0 0 rfl rfl rfl ?_
    obtain rfl := Option.some.inj hf
    exact J_iret hK hR dX7_status_66 () rfl (by decide) (by decide)
  have hf := iq hc3_2 hf
  by_cases hc3_3 : p1 = 3
  · have hf := ip hc3_3 hf
    refine J_swI (tg := 67) hK dX7_status_3 (by rw [hc3_3]; decide) (by rw [hc3_3]; decide) (by rw [hc3_3]; rfl) rfl ?_
    refine J_iconst (v := 0) hK dX7_status_67 rfl (by decide) ?_
    refine J_istore_n (L' := [(3, .int (0)), (2, .int (0)), (0, .ref (h0 0)), (1, .int p1)]) hK dX7_status_68 rfl rfl (by decide) rfl ?_
    obtain ⟨e4, hl1, hf⟩ := bs hf
    have hx1_94 : ∀ (w5 : Int32), w5 = e4 → J d Φ 4 [gMd d h0 a0_kept a0_tried a0_chosen r0_rows r0_line r0_good r0_work x0_shelf x0_rowSort x0_rowSize x0_moved x0_shown x0_tape x0_tapeSize x0_refused x0_lines x0_changes x0_coins x0_goods x0_works x0_years x0_gone x0_spent x0_at x0_token x0_from x0_figures x0_fault x0_numbers x0_statements x0_left x0_far x0_tons x0_way x0_steps x0_met x0_queue x0_totals, gridI d r0_work 7 5 x0_work] 0 0 94 [(2, .int w5)] [] := by
      intro w5 he
      rw [← he] at hf
      refine J_iload_n hK dX7_status_94 rfl 0 rfl rfl ?_
      obtain rfl := Option.some.inj hf
      exact J_iret hK hR dX7_status_95 () rfl (by decide) (by decide)
    have lo1 : ∀ (k : Nat) (z2 : Int32) (z3 : Int32), lp (u2 (fX7_status_s69 x0_works x0_work)) k (z2, z3) = some e4 → J d Φ 4 [gMd d h0 a0_kept a0_tried a0_chosen r0_rows r0_line r0_good r0_work x0_shelf x0_rowSort x0_rowSize x0_moved x0_shown x0_tape x0_tapeSize x0_refused x0_lines x0_changes x0_coins x0_goods x0_works x0_years x0_gone x0_spent x0_at x0_token x0_from x0_figures x0_fault x0_numbers x0_statements x0_left x0_far x0_tons x0_way x0_steps x0_met x0_queue x0_totals, gridI d r0_work 7 5 x0_work] 0 0 69 [(0, .ref (h0 0)), (2, .int z2), (3, .int z3)] [] := by
      intro k
      induction k with
      | zero => intro z2 z3 h; cases h
      | succ k ih1 =>
        intro z2 z3 h
        obtain ⟨k2, rr1, hk2, hs1, hr1⟩ := lp_ok h
        cases hk2
        have hs1 : fX7_status_s69 x0_works x0_work z2 z3 = some rr1 := hs1
        unfold fX7_status_s69 at hs1
        refine J_iload_n hK dX7_status_69 rfl 2 rfl rfl ?_
        refine J_aload_n hK dX7_status_70 rfl 0 rfl rfl ?_
        refine J_get hK fo_RX7_85 dX7_status_71 rfl 0 0 rfl rfl rfl ?_
        refine J_icmp_ge (tg := 94) hK dX7_status_74 rfl rfl (fun hc74 => ?_) (fun hc74 => ?_)
        · have hs1 := ip hc74 hs1
          exact J_loc [1] rfl (hx1_94 z2 (lpx hs1 hr1))
        · have hs1 := iq hc74 hs1
          refine J_iload_n hK dX7_status_77 rfl 1 rfl rfl ?_
          refine J_aload_n hK dX7_status_78 rfl 0 rfl rfl ?_
          refine J_get hK fo_RX7_51 dX7_status_79 rfl 0 0 rfl rfl rfl ?_
          refine J_iload_n hK dX7_status_82 rfl 2 rfl rfl ?_
          obtain ⟨q6, eq6, hs1⟩ := bs hs1
          refine J_aald hK dX7_status_83 rfl 0 13 rfl rfl rfl eq6 ?_
          refine J_iconst (v := 4) hK dX7_status_84 rfl (by decide) ?_
          obtain ⟨v7, ev7, hs1⟩ := bs hs1
          refine J_iald hK dX7_status_85 rfl 1 q6 rfl (gridI_at (ck_ok eq6).2.2) ev7 ?_
          refine J_iadd hK dX7_status_86 rfl ?_
          refine J_istore_n (L' := [(2, .int (z2 + v7)), (0, .ref (h0 0)), (3, .int z3)]) hK dX7_status_87 rfl rfl (by decide) rfl ?_
          refine J_iinc (L' := [(3, .int (z3 + 1)), (2, .int (z2 + v7)), (0, .ref (h0 0))]) (v := (z3 + 1)) hK dX7_status_88 rfl 2 rfl rfl (by decide) rfl ?_
          refine J_goto hK dX7_status_91 (n := 69) rfl ?_
          exact J_loc [2, 1, 0] rfl (ih1 (z2 + v7) (z3 + 1) (lpc hs1 hr1))
    exact J_loc [2, 1, 0] rfl (lo1 n (0) (0) hl1)
  have hf := iq hc3_3 hf
  by_cases hc3_4 : p1 = 4
  · have hf := ip hc3_4 hf
    refine J_swI (tg := 96) hK dX7_status_3 (by rw [hc3_4]; decide) (by rw [hc3_4]; decide) (by rw [hc3_4]; rfl) rfl ?_
    refine J_aload_n hK dX7_status_96 rfl 1 rfl rfl ?_
    refine J_get hK fo_RX7_334 dX7_status_97 rfl 0 0 rfl rfl rfl ?_
    obtain rfl := Option.some.inj hf
    exact J_iret hK hR dX7_status_100 () rfl (by decide) (by decide)
  have hf := iq hc3_4 hf
  by_cases hc3_5 : p1 = 5
  · have hf := ip hc3_5 hf
    refine J_swI (tg := 101) hK dX7_status_3 (by rw [hc3_5]; decide) (by rw [hc3_5]; decide) (by rw [hc3_5]; rfl) rfl ?_
    refine J_aload_n hK dX7_status_101 rfl 1 rfl rfl ?_
    refine J_get hK fo_RX7_337 dX7_status_102 rfl 0 0 rfl rfl rfl ?_
    obtain rfl := Option.some.inj hf
    exact J_iret hK hR dX7_status_105 () rfl (by decide) (by decide)
  have hf := iq hc3_5 hf
  by_cases hc3_6 : p1 = 6
  · have hf := ip hc3_6 hf
    refine J_swI (tg := 106) hK dX7_status_3 (by rw [hc3_6]; decide) (by rw [hc3_6]; decide) (by rw [hc3_6]; rfl) rfl ?_
    refine J_aload_n hK dX7_status_106 rfl 1 rfl rfl ?_
    refine J_get hK fo_RX7_54 dX7_status_107 rfl 0 0 rfl rfl rfl ?_
    obtain rfl := Option.some.inj hf
    exact J_iret hK hR dX7_status_110 () rfl (by decide) (by decide)
  have hf := iq hc3_6 hf
  by_cases hc3_7 : p1 = 7
  · have hf := ip hc3_7 hf
    refine J_swI (tg := 111) hK dX7_status_3 (by rw [hc3_7]; decide) (by rw [hc3_7]; decide) (by rw [hc3_7]; rfl) rfl ?_
    refine J_aload_n hK dX7_status_111 rfl 1 rfl rfl ?_
    refine J_get hK fo_RX7_146 dX7_status_112 rfl 0 0 rfl rfl rfl ?_
    obtain rfl := Option.some.inj hf
    exact J_iret hK hR dX7_status_115 () rfl (by decide) (by decide)
  have hf := iq hc3_7 hf
  by_cases hc3_8 : p1 = 8
  · have hf := ip hc3_8 hf
    refine J_swI (tg := 116) hK dX7_status_3 (by rw [hc3_8]; decide) (by rw [hc3_8]; decide) (by rw [hc3_8]; rfl) rfl ?_
    refine J_iconst (v := 0) hK dX7_status_116 rfl (by decide) ?_
    refine J_istore_n (L' := [(3, .int (0)), (2, .int (0)), (0, .ref (h0 0)), (1, .int p1)]) hK dX7_status_117 rfl rfl (by decide) rfl ?_
    obtain ⟨e11, hl8, hf⟩ := bs hf
    have hx8_147 : ∀ (w12 : Int32), w12 = e11 → J d Φ 4 [gMd d h0 a0_kept a0_tried a0_chosen r0_rows r0_line r0_good r0_work x0_shelf x0_rowSort x0_rowSize x0_moved x0_shown x0_tape x0_tapeSize x0_refused x0_lines x0_changes x0_coins x0_goods x0_works x0_years x0_gone x0_spent x0_at x0_token x0_from x0_figures x0_fault x0_numbers x0_statements x0_left x0_far x0_tons x0_way x0_steps x0_met x0_queue x0_totals, gridI d r0_work 7 5 x0_work] 0 0 147 [(2, .int w12)] [] := by
      intro w12 he
      rw [← he] at hf
      refine J_iload_n hK dX7_status_147 rfl 0 rfl rfl ?_
      obtain rfl := Option.some.inj hf
      exact J_iret hK hR dX7_status_148 () rfl (by decide) (by decide)
    have lo8 : ∀ (k : Nat) (z9 : Int32) (z10 : Int32), lp (u2 (fX7_status_s118 x0_shelf)) k (z9, z10) = some e11 → J d Φ 4 [gMd d h0 a0_kept a0_tried a0_chosen r0_rows r0_line r0_good r0_work x0_shelf x0_rowSort x0_rowSize x0_moved x0_shown x0_tape x0_tapeSize x0_refused x0_lines x0_changes x0_coins x0_goods x0_works x0_years x0_gone x0_spent x0_at x0_token x0_from x0_figures x0_fault x0_numbers x0_statements x0_left x0_far x0_tons x0_way x0_steps x0_met x0_queue x0_totals, gridI d r0_work 7 5 x0_work] 0 0 118 [(0, .ref (h0 0)), (2, .int z9), (3, .int z10)] [] := by
      intro k
      induction k with
      | zero => intro z9 z10 h; cases h
      | succ k ih8 =>
        intro z9 z10 h
        obtain ⟨k2, rr8, hk2, hs8, hr8⟩ := lp_ok h
        cases hk2
        have hs8 : fX7_status_s118 x0_shelf z9 z10 = some rr8 := hs8
        unfold fX7_status_s118 at hs8
        refine J_iload_n hK dX7_status_118 rfl 2 rfl rfl ?_
        refine J_bipush (v := 8) hK dX7_status_119 rfl (by decide) ?_
        refine J_icmp_ge (tg := 147) hK dX7_status_121 rfl rfl (fun hc121 => ?_) (fun hc121 => ?_)
        · have hs8 := ip hc121 hs8
          exact J_loc [1] rfl (hx8_147 z9 (lpx hs8 hr8))
        · have hs8 := iq hc121 hs8
          refine J_iload_n hK dX7_status_124 rfl 1 rfl rfl ?_
          refine J_aload_n hK dX7_status_125 rfl 0 rfl rfl ?_
          refine J_get hK fo_RX7_7 dX7_status_126 rfl 0 0 rfl rfl rfl ?_
          refine J_iload_n hK dX7_status_129 rfl 2 rfl rfl ?_
          obtain ⟨v13, ev13, hs8⟩ := bs hs8
          refine J_iald hK dX7_status_130 rfl 0 1 rfl rfl ev13 ?_
          refine J_if_eq (tg := 138) hK dX7_status_131 rfl rfl (fun hc131 => ?_) (fun hc131 => ?_)
          · have hs8 := ip hc131 hs8
            refine J_iconst (v := 0) hK dX7_status_138 rfl (by decide) ?_
            refine J_iadd hK dX7_status_139 rfl ?_
            refine J_istore_n (L' := [(2, .int (z9 + 0)), (0, .ref (h0 0)), (3, .int z10)]) hK dX7_status_140 rfl rfl (by decide) rfl ?_
            refine J_iinc (L' := [(3, .int (z10 + 1)), (2, .int (z9 + 0)), (0, .ref (h0 0))]) (v := (z10 + 1)) hK dX7_status_141 rfl 2 rfl rfl (by decide) rfl ?_
            refine J_goto hK dX7_status_144 (n := 118) rfl ?_
            exact J_loc [2, 1, 0] rfl (ih8 (z9 + 0) (z10 + 1) (lpc hs8 hr8))
          · have hs8 := iq hc131 hs8
            refine J_iconst (v := 1) hK dX7_status_134 rfl (by decide) ?_
            refine J_goto hK dX7_status_135 (n := 139) rfl ?_
            refine J_iadd hK dX7_status_139 rfl ?_
            refine J_istore_n (L' := [(2, .int (z9 + 1)), (0, .ref (h0 0)), (3, .int z10)]) hK dX7_status_140 rfl rfl (by decide) rfl ?_
            refine J_iinc (L' := [(3, .int (z10 + 1)), (2, .int (z9 + 1)), (0, .ref (h0 0))]) (v := (z10 + 1)) hK dX7_status_141 rfl 2 rfl rfl (by decide) rfl ?_
            refine J_goto hK dX7_status_144 (n := 118) rfl ?_
            exact J_loc [2, 1, 0] rfl (ih8 (z9 + 1) (z10 + 1) (lpc hs8 hr8))
    exact J_loc [2, 1, 0] rfl (lo8 n (0) (0) hl8)
  have hf := iq hc3_8 hf
  refine J_swO (tg := 149) hK dX7_status_3 (by have q0 : ¬ p1.toInt = 0 := fun h => hc3_0 (Int32.toInt_inj.mp (h.trans (by decide))); have q1 : ¬ p1.toInt = 1 := fun h => hc3_1 (Int32.toInt_inj.mp (h.trans (by decide))); have q2 : ¬ p1.toInt = 2 := fun h => hc3_2 (Int32.toInt_inj.mp (h.trans (by decide))); have q3 : ¬ p1.toInt = 3 := fun h => hc3_3 (Int32.toInt_inj.mp (h.trans (by decide))); have q4 : ¬ p1.toInt = 4 := fun h => hc3_4 (Int32.toInt_inj.mp (h.trans (by decide))); have q5 : ¬ p1.toInt = 5 := fun h => hc3_5 (Int32.toInt_inj.mp (h.trans (by decide))); have q6 : ¬ p1.toInt = 6 := fun h => hc3_6 (Int32.toInt_inj.mp (h.trans (by decide))); have q7 : ¬ p1.toInt = 7 := fun h => hc3_7 (Int32.toInt_inj.mp (h.trans (by decide))); have q8 : ¬ p1.toInt = 8 := fun h => hc3_8 (Int32.toInt_inj.mp (h.trans (by decide))); omega) rfl ?_
  refine J_iload_n hK dX7_status_149 rfl 2 rfl rfl ?_
  refine J_i2l hK dX7_status_150 rfl ?_
  refine J_ldc2 (v := (12 : Int64)) hK dX7_status_151 rfl wk_RX7_356 ?_
  refine J_ldc2 (v := (16 : Int64)) hK dX7_status_154 rfl wk_RX7_358 ?_
  obtain ⟨v14, e15, hf⟩ := bs hf
  refine J_callS (m' := 2) (ce' := 0) (sl' := 0) (gr := [gMd d h0 a0_kept a0_tried a0_chosen r0_rows r0_line r0_good r0_work x0_shelf x0_rowSort x0_rowSize x0_moved x0_shown x0_tape x0_tapeSize x0_refused x0_lines x0_changes x0_coins x0_goods x0_works x0_years x0_gone x0_spent x0_at x0_token x0_from x0_figures x0_fault x0_numbers x0_statements x0_left x0_far x0_tons x0_way x0_steps x0_met x0_queue x0_totals, gridI d r0_work 7 5 x0_work]) (gs' := fun _ => [gMd d h0 a0_kept a0_tried a0_chosen r0_rows r0_line r0_good r0_work x0_shelf x0_rowSort x0_rowSize x0_moved x0_shown x0_tape x0_tapeSize x0_refused x0_lines x0_changes x0_coins x0_goods x0_works x0_years x0_gone x0_spent x0_at x0_token x0_from x0_figures x0_fault x0_numbers x0_statements x0_left x0_far x0_tons x0_way x0_steps x0_met x0_queue x0_totals, gridI d r0_work 7 5 x0_work]) (st' := fun _ => [.int v14]) (st := []) hK dX7_status_157 cv_RX7_78 ws_yX7_in (As := [.long ((p1).toInt64), .long (12 : Int64), .long (16 : Int64)]) (kX7_in _ d ((p1).toInt64) (12 : Int64) (16 : Int64) e15) rfl rfl (Nat.le_of_ble_eq_true rfl) (by decide) [] [0, 1] rfl rfl rfl rfl [0, 1] rfl (fun _ => rfl) (fun _ => rfl) rfl rfl rfl (fun _ => rfl) (fun _ => ?_)
  refine J_if_eq (tg := 175) hK dX7_status_160 rfl rfl (fun hc160 => ?_) (fun hc160 => ?_)
  · have hf := ip hc160 hf
    refine J_iconst (v := (-1)) hK dX7_status_175 rfl (by decide) ?_
    obtain rfl := Option.some.inj hf
    exact J_iret hK hR dX7_status_176 () rfl (by decide) (by decide)
  · have hf := iq hc160 hf
    refine J_aload_n hK dX7_status_163 rfl 1 rfl rfl ?_
    refine J_get hK fo_RX7_34 dX7_status_164 rfl 0 0 rfl rfl rfl ?_
    refine J_iload_n hK dX7_status_167 rfl 2 rfl rfl ?_
    refine J_bipush (v := 10) hK dX7_status_168 rfl (by decide) ?_
    refine J_isub hK dX7_status_170 rfl ?_
    obtain ⟨v16, ev16, hf⟩ := bs hf
    refine J_iald hK dX7_status_171 rfl 0 8 rfl rfl ev16 ?_
    refine J_goto hK dX7_status_172 (n := 176) rfl ?_
    obtain rfl := Option.some.inj hf
    exact J_iret hK hR dX7_status_176 () rfl (by decide) (by decide)

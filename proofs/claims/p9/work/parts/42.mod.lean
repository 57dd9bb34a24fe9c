def fX7_years (X0 : MdT) (p1 : Int32) : Option (Int32 × (Nat → Int32) × Int32) :=
  u35 (fun (x0_shelf : (Nat → Int32)) (x0_rowSort : (Nat → Int32)) (x0_rowSize : (Nat → Int32)) (x0_rows : (Nat → Nat → Int64)) (x0_moved : (Nat → Int64)) (x0_shown : (Nat → Int32)) (x0_tape : (Nat → Int32)) (x0_tapeSize : Int32) (x0_refused : (Nat → Int32)) (x0_lines : Int32) (x0_line : (Nat → Nat → Int32)) (x0_changes : (Nat → Int32)) (x0_coins : (Nat → Int32)) (x0_goods : Int32) (x0_good : (Nat → Nat → Int32)) (x0_works : Int32) (x0_work : (Nat → Nat → Int32)) (x0_years : Int32) (x0_gone : Int32) (x0_spent : Int32) (x0_at : Int32) (x0_token : Int32) (x0_from : Int32) (x0_figures : Int64) (x0_fault : Int32) (x0_numbers : (Nat → Int32)) (x0_statements : Int32) (x0_left : (Nat → Int32)) (x0_far : (Nat → Int32)) (x0_tons : Int32) (x0_way : (Nat → Int32)) (x0_steps : Int32) (x0_met : Int64) (x0_queue : (Nat → Int32)) (x0_totals : (Nat → Int32)) => (fX7_in ((p1).toInt64) (1 : Int64) (30 : Int64)).bind (fun v1 => if v1 = 0 then ((fX7_refuse (x0_shelf, x0_rowSort, x0_rowSize, x0_rows, x0_moved, x0_shown, x0_tape, x0_tapeSize, x0_refused, x0_lines, x0_line, x0_changes, x0_coins, x0_goods, x0_good, x0_works, x0_work, x0_years, x0_gone, x0_spent, x0_at, x0_token, x0_from, x0_figures, x0_fault, x0_numbers, x0_statements, x0_left, x0_far, x0_tons, x0_way, x0_steps, x0_met, x0_queue, x0_totals) (-2)).bind (u2 fun v3 g4 => some (v3, g4, x0_years))) else (some (x0_years, x0_refused, p1)))) X0
set_option maxHeartbeats 4000000 in
set_option maxRecDepth 100000 in
theorem kX7_years (l : Launch) (d : DT) (h0 : Nat → Nat) (r0_rows : Nat → Nat) (r0_line : Nat → Nat) (r0_good : Nat → Nat) (r0_work : Nat → Nat) (a0_kept : Option Nat) (a0_tried : Option Nat) (a0_chosen : Option Nat) (x0_shelf : (Nat → Int32)) (x0_rowSort : (Nat → Int32)) (x0_rowSize : (Nat → Int32)) (x0_rows : (Nat → Nat → Int64)) (x0_moved : (Nat → Int64)) (x0_shown : (Nat → Int32)) (x0_tape : (Nat → Int32)) (x0_tapeSize : Int32) (x0_refused : (Nat → Int32)) (x0_lines : Int32) (x0_line : (Nat → Nat → Int32)) (x0_changes : (Nat → Int32)) (x0_coins : (Nat → Int32)) (x0_goods : Int32) (x0_good : (Nat → Nat → Int32)) (x0_works : Int32) (x0_work : (Nat → Nat → Int32)) (x0_years : Int32) (x0_gone : Int32) (x0_spent : Int32) (x0_at : Int32) (x0_token : Int32) (x0_from : Int32) (x0_figures : Int64) (x0_fault : Int32) (x0_numbers : (Nat → Int32)) (x0_statements : Int32) (x0_left : (Nat → Int32)) (x0_far : (Nat → Int32)) (x0_tons : Int32) (x0_way : (Nat → Int32)) (x0_steps : Int32) (x0_met : Int64) (x0_queue : (Nat → Int32)) (x0_totals : (Nat → Int32)) (p1 : Int32)  {out : Int32 × (Nat → Int32) × Int32} (hf : fX7_years (x0_shelf, x0_rowSort, x0_rowSize, x0_rows, x0_moved, x0_shown, x0_tape, x0_tapeSize, x0_refused, x0_lines, x0_line, x0_changes, x0_coins, x0_goods, x0_good, x0_works, x0_work, x0_years, x0_gone, x0_spent, x0_at, x0_token, x0_from, x0_figures, x0_fault, x0_numbers, x0_statements, x0_left, x0_far, x0_tons, x0_way, x0_steps, x0_met, x0_queue, x0_totals) p1 = some out) : Ct l d yX7_years cX7_years 3 (some .int) { frames := 1, cells := 0, slots := 0, locals := 25 } [.ref (h0 0), .int p1] [gMd d h0 a0_kept a0_tried a0_chosen r0_rows r0_line r0_good r0_work x0_shelf x0_rowSort x0_rowSize x0_moved x0_shown x0_tape x0_tapeSize x0_refused x0_lines x0_changes x0_coins x0_goods x0_works x0_years x0_gone x0_spent x0_at x0_token x0_from x0_figures x0_fault x0_numbers x0_statements x0_left x0_far x0_tons x0_way x0_steps x0_met x0_queue x0_totals] (fun _ : Unit => (some (.int out.1), [gMd d h0 a0_kept a0_tried a0_chosen r0_rows r0_line r0_good r0_work x0_shelf x0_rowSort x0_rowSize x0_moved x0_shown x0_tape x0_tapeSize (out.2.1) x0_lines x0_changes x0_coins x0_goods x0_works (out.2.2) x0_gone x0_spent x0_at x0_token x0_from x0_figures x0_fault x0_numbers x0_statements x0_left x0_far x0_tons x0_way x0_steps x0_met x0_queue x0_totals])) := by
  refine Ct.of (by decide) (Nat.le_of_ble_eq_true rfl) ?_
  intro Φ hl hK hR
  subst hl
  have hK : Ok d Φ RX7 "years" cX7_years 3 (some .int) { frames := 1, cells := 0, slots := 0, locals := 25 } := hK
  unfold fX7_years at hf
  have hf := un35 hf
  show J d Φ 3 [gMd d h0 a0_kept a0_tried a0_chosen r0_rows r0_line r0_good r0_work x0_shelf x0_rowSort x0_rowSize x0_moved x0_shown x0_tape x0_tapeSize x0_refused x0_lines x0_changes x0_coins x0_goods x0_works x0_years x0_gone x0_spent x0_at x0_token x0_from x0_figures x0_fault x0_numbers x0_statements x0_left x0_far x0_tons x0_way x0_steps x0_met x0_queue x0_totals] 0 0 0 [(0, .ref (h0 0)), (1, .int p1)] []
  refine J_iload_n hK dX7_years_0 rfl 1 rfl rfl ?_
  refine J_i2l hK dX7_years_1 rfl ?_
  refine J_lconst (v := 1) hK dX7_years_2 rfl (by decide) ?_
  refine J_ldc2 (v := (30 : Int64)) hK dX7_years_3 rfl wk_RX7_144 ?_
  obtain ⟨v1, e2, hf⟩ := bs hf
  refine J_callS (m' := 1) (ce' := 0) (sl' := 0) (gr := [gMd d h0 a0_kept a0_tried a0_chosen r0_rows r0_line r0_good r0_work x0_shelf x0_rowSort x0_rowSize x0_moved x0_shown x0_tape x0_tapeSize x0_refused x0_lines x0_changes x0_coins x0_goods x0_works x0_years x0_gone x0_spent x0_at x0_token x0_from x0_figures x0_fault x0_numbers x0_statements x0_left x0_far x0_tons x0_way x0_steps x0_met x0_queue x0_totals]) (gs' := fun _ => [gMd d h0 a0_kept a0_tried a0_chosen r0_rows r0_line r0_good r0_work x0_shelf x0_rowSort x0_rowSize x0_moved x0_shown x0_tape x0_tapeSize x0_refused x0_lines x0_changes x0_coins x0_goods x0_works x0_years x0_gone x0_spent x0_at x0_token x0_from x0_figures x0_fault x0_numbers x0_statements x0_left x0_far x0_tons x0_way x0_steps x0_met x0_queue x0_totals]) (st' := fun _ => [.int v1]) (st := []) hK dX7_years_6 cv_RX7_78 ws_yX7_in (As := [.long ((p1).toInt64), .long (1 : Int64), .long (30 : Int64)]) (kX7_in _ d ((p1).toInt64) (1 : Int64) (30 : Int64) e2) rfl rfl (Nat.le_of_ble_eq_true rfl) (by decide) [] [0] rfl rfl rfl rfl [0] rfl (fun _ => rfl) (fun _ => rfl) rfl rfl rfl (fun _ => rfl) (fun _ => ?_)
  refine J_if_ne (tg := 19) hK dX7_years_9 rfl rfl (fun hc9 => ?_) (fun hc9 => ?_)
  · have hf := iq hc9 hf
    refine J_aload_n hK dX7_years_19 rfl 0 rfl rfl ?_
    refine J_get hK fo_RX7_54 dX7_years_20 rfl 0 0 rfl rfl rfl ?_
    refine J_istore_n (L' := [(2, .int x0_years), (0, .ref (h0 0)), (1, .int p1)]) hK dX7_years_23 rfl rfl (by decide) rfl ?_
    refine J_aload_n hK dX7_years_24 rfl 1 rfl rfl ?_
    refine J_iload_n hK dX7_years_25 rfl 2 rfl rfl ?_
    refine J_put (g' := gMd d h0 a0_kept a0_tried a0_chosen r0_rows r0_line r0_good r0_work x0_shelf x0_rowSort x0_rowSize x0_moved x0_shown x0_tape x0_tapeSize x0_refused x0_lines x0_changes x0_coins x0_goods x0_works p1 x0_gone x0_spent x0_at x0_token x0_from x0_figures x0_fault x0_numbers x0_statements x0_left x0_far x0_tons x0_way x0_steps x0_met x0_queue x0_totals) (gs' := [gMd d h0 a0_kept a0_tried a0_chosen r0_rows r0_line r0_good r0_work x0_shelf x0_rowSort x0_rowSize x0_moved x0_shown x0_tape x0_tapeSize x0_refused x0_lines x0_changes x0_coins x0_goods x0_works p1 x0_gone x0_spent x0_at x0_token x0_from x0_figures x0_fault x0_numbers x0_statements x0_left x0_far x0_tons x0_way x0_steps x0_met x0_queue x0_totals]) hK fp_RX7_54 dX7_years_26 rfl 0 0 rfl rfl rfl rfl (Nat.le_of_ble_eq_true rfl) rfl rfl ?_
    refine J_iload_n hK dX7_years_29 rfl 0 rfl rfl ?_
    obtain rfl := Option.some.inj hf
    exact J_iret hK hR dX7_years_30 () rfl (by decide) (by decide)
  · have hf := ip hc9 hf
    refine J_aload_n hK dX7_years_12 rfl 0 rfl rfl ?_
    refine J_bipush (v := (-2)) hK dX7_years_13 rfl (by decide) ?_
    obtain ⟨⟨v3, g4⟩, e5, hf⟩ := bs hf
    have hf := un2 hf
    refine J_callV (m' := 1) (ce' := 0) (sl' := 0) (gr := []) (gs' := fun _ => [gMd d h0 a0_kept a0_tried a0_chosen r0_rows r0_line r0_good r0_work x0_shelf x0_rowSort x0_rowSize x0_moved x0_shown x0_tape x0_tapeSize g4 x0_lines x0_changes x0_coins x0_goods x0_works x0_years x0_gone x0_spent x0_at x0_token x0_from x0_figures x0_fault x0_numbers x0_statements x0_left x0_far x0_tons x0_way x0_steps x0_met x0_queue x0_totals]) (st' := fun _ => [.int v3]) (st := []) hK dX7_years_15 cv_RX7_94 iv_yX7_refuse (As := [.int (-2)]) (kX7_refuse _ d h0 r0_rows r0_line r0_good r0_work a0_kept a0_tried a0_chosen x0_shelf x0_rowSort x0_rowSize x0_rows x0_moved x0_shown x0_tape x0_tapeSize x0_refused x0_lines x0_line x0_changes x0_coins x0_goods x0_good x0_works x0_work x0_years x0_gone x0_spent x0_at x0_token x0_from x0_figures x0_fault x0_numbers x0_statements x0_left x0_far x0_tons x0_way x0_steps x0_met x0_queue x0_totals (-2) e5) rfl rfl (Nat.le_of_ble_eq_true rfl) (by decide) 0 0 rfl rfl rfl [0] [] rfl rfl rfl rfl [0] rfl (fun _ => rfl) (fun _ => rfl) rfl rfl rfl (fun _ => rfl) (fun _ => ?_)
    obtain rfl := Option.some.inj hf
    exact J_iret hK hR dX7_years_18 () rfl (by decide) (by decide)

def fX7_washed_j42 (p1 : Int32) (x0_refused : (Nat → Int32)) (x0_line : (Nat → Nat → Int32)) (v4 : Int32) (q5 : Nat) (y6 : Int32) : Option (Int32 × (Nat → Int32) × (Nat → Nat → Int32)) :=
  (wr 7 (x0_line q5) (6) y6).bind fun f7 => (ck p1 20).bind fun q8 => (rd 7 ((va_up x0_line q5 f7) q8) (6)).bind fun v9 => if v4 = v9 then (some (0, x0_refused, (va_up x0_line q5 f7))) else (some (1, x0_refused, (va_up x0_line q5 f7)))
def fX7_washed (X0 : MdT) (p1 : Int32) (p2 : Int32) : Option (Int32 × (Nat → Int32) × (Nat → Nat → Int32)) :=
  u35 (fun (x0_shelf : (Nat → Int32)) (x0_rowSort : (Nat → Int32)) (x0_rowSize : (Nat → Int32)) (x0_rows : (Nat → Nat → Int64)) (x0_moved : (Nat → Int64)) (x0_shown : (Nat → Int32)) (x0_tape : (Nat → Int32)) (x0_tapeSize : Int32) (x0_refused : (Nat → Int32)) (x0_lines : Int32) (x0_line : (Nat → Nat → Int32)) (x0_changes : (Nat → Int32)) (x0_coins : (Nat → Int32)) (x0_goods : Int32) (x0_good : (Nat → Nat → Int32)) (x0_works : Int32) (x0_work : (Nat → Nat → Int32)) (x0_years : Int32) (x0_gone : Int32) (x0_spent : Int32) (x0_at : Int32) (x0_token : Int32) (x0_from : Int32) (x0_figures : Int64) (x0_fault : Int32) (x0_numbers : (Nat → Int32)) (x0_statements : Int32) (x0_left : (Nat → Int32)) (x0_far : (Nat → Int32)) (x0_tons : Int32) (x0_way : (Nat → Int32)) (x0_steps : Int32) (x0_met : Int64) (x0_queue : (Nat → Int32)) (x0_totals : (Nat → Int32)) => (fX7_isLine (x0_shelf, x0_rowSort, x0_rowSize, x0_rows, x0_moved, x0_shown, x0_tape, x0_tapeSize, x0_refused, x0_lines, x0_line, x0_changes, x0_coins, x0_goods, x0_good, x0_works, x0_work, x0_years, x0_gone, x0_spent, x0_at, x0_token, x0_from, x0_figures, x0_fault, x0_numbers, x0_statements, x0_left, x0_far, x0_tons, x0_way, x0_steps, x0_met, x0_queue, x0_totals) p1).bind (fun v1 => if v1 = 0 then ((fX7_refuse (x0_shelf, x0_rowSort, x0_rowSize, x0_rows, x0_moved, x0_shown, x0_tape, x0_tapeSize, x0_refused, x0_lines, x0_line, x0_changes, x0_coins, x0_goods, x0_good, x0_works, x0_work, x0_years, x0_gone, x0_spent, x0_at, x0_token, x0_from, x0_figures, x0_fault, x0_numbers, x0_statements, x0_left, x0_far, x0_tons, x0_way, x0_steps, x0_met, x0_queue, x0_totals) (-2)).bind (u2 fun v10 g11 => some (v10, g11, x0_line))) else ((ck p1 20).bind fun q3 => (rd 7 (x0_line q3) (6)).bind fun v4 => (ck p1 20).bind fun q5 => if p2 = 0 then (fX7_washed_j42 p1 x0_refused x0_line v4 q5 (0)) else (fX7_washed_j42 p1 x0_refused x0_line v4 q5 (1))))) X0
set_option maxHeartbeats 4000000 in
set_option maxRecDepth 100000 in
theorem kX7_washed (l : Launch) (d : DT) (h0 : Nat → Nat) (r0_rows : Nat → Nat) (r0_line : Nat → Nat) (r0_good : Nat → Nat) (r0_work : Nat → Nat) (a0_kept : Option Nat) (a0_tried : Option Nat) (a0_chosen : Option Nat) (x0_shelf : (Nat → Int32)) (x0_rowSort : (Nat → Int32)) (x0_rowSize : (Nat → Int32)) (x0_rows : (Nat → Nat → Int64)) (x0_moved : (Nat → Int64)) (x0_shown : (Nat → Int32)) (x0_tape : (Nat → Int32)) (x0_tapeSize : Int32) (x0_refused : (Nat → Int32)) (x0_lines : Int32) (x0_line : (Nat → Nat → Int32)) (x0_changes : (Nat → Int32)) (x0_coins : (Nat → Int32)) (x0_goods : Int32) (x0_good : (Nat → Nat → Int32)) (x0_works : Int32) (x0_work : (Nat → Nat → Int32)) (x0_years : Int32) (x0_gone : Int32) (x0_spent : Int32) (x0_at : Int32) (x0_token : Int32) (x0_from : Int32) (x0_figures : Int64) (x0_fault : Int32) (x0_numbers : (Nat → Int32)) (x0_statements : Int32) (x0_left : (Nat → Int32)) (x0_far : (Nat → Int32)) (x0_tons : Int32) (x0_way : (Nat → Int32)) (x0_steps : Int32) (x0_met : Int64) (x0_queue : (Nat → Int32)) (x0_totals : (Nat → Int32)) (p1 : Int32) (p2 : Int32)  {out : Int32 × (Nat → Int32) × (Nat → Nat → Int32)} (hf : fX7_washed (x0_shelf, x0_rowSort, x0_rowSize, x0_rows, x0_moved, x0_shown, x0_tape, x0_tapeSize, x0_refused, x0_lines, x0_line, x0_changes, x0_coins, x0_goods, x0_good, x0_works, x0_work, x0_years, x0_gone, x0_spent, x0_at, x0_token, x0_from, x0_figures, x0_fault, x0_numbers, x0_statements, x0_left, x0_far, x0_tons, x0_way, x0_steps, x0_met, x0_queue, x0_totals) p1 p2 = some out) : Ct l d yX7_washed cX7_washed 4 (some .int) { frames := 2, cells := 0, slots := 0, locals := 46 } [.ref (h0 0), .int p1, .int p2] [gMd d h0 a0_kept a0_tried a0_chosen r0_rows r0_line r0_good r0_work x0_shelf x0_rowSort x0_rowSize x0_moved x0_shown x0_tape x0_tapeSize x0_refused x0_lines x0_changes x0_coins x0_goods x0_works x0_years x0_gone x0_spent x0_at x0_token x0_from x0_figures x0_fault x0_numbers x0_statements x0_left x0_far x0_tons x0_way x0_steps x0_met x0_queue x0_totals, gridI d r0_line 20 7 x0_line] (fun _ : Unit => (some (.int out.1), [gMd d h0 a0_kept a0_tried a0_chosen r0_rows r0_line r0_good r0_work x0_shelf x0_rowSort x0_rowSize x0_moved x0_shown x0_tape x0_tapeSize (out.2.1) x0_lines x0_changes x0_coins x0_goods x0_works x0_years x0_gone x0_spent x0_at x0_token x0_from x0_figures x0_fault x0_numbers x0_statements x0_left x0_far x0_tons x0_way x0_steps x0_met x0_queue x0_totals, gridI d r0_line 20 7 (out.2.2)])) := by
  refine Ct.of (by decide) (Nat.le_of_ble_eq_true rfl) ?_
  intro Φ hl hK hR
  subst hl
  have hK : Ok d Φ RX7 "washed" cX7_washed 4 (some .int) { frames := 2, cells := 0, slots := 0, locals := 46 } := hK
  unfold fX7_washed at hf
  have hf := un35 hf
  show J d Φ 4 [gMd d h0 a0_kept a0_tried a0_chosen r0_rows r0_line r0_good r0_work x0_shelf x0_rowSort x0_rowSize x0_moved x0_shown x0_tape x0_tapeSize x0_refused x0_lines x0_changes x0_coins x0_goods x0_works x0_years x0_gone x0_spent x0_at x0_token x0_from x0_figures x0_fault x0_numbers x0_statements x0_left x0_far x0_tons x0_way x0_steps x0_met x0_queue x0_totals, gridI d r0_line 20 7 x0_line] 0 0 0 [(0, .ref (h0 0)), (1, .int p1), (2, .int p2)] []
  refine J_aload_n hK dX7_washed_0 rfl 0 rfl rfl ?_
  refine J_iload_n hK dX7_washed_1 rfl 1 rfl rfl ?_
  obtain ⟨v1, e2, hf⟩ := bs hf
  refine J_callV (m' := 2) (ce' := 0) (sl' := 0) (gr := [gridI d r0_line 20 7 x0_line]) (gs' := fun _ => [gMd d h0 a0_kept a0_tried a0_chosen r0_rows r0_line r0_good r0_work x0_shelf x0_rowSort x0_rowSize x0_moved x0_shown x0_tape x0_tapeSize x0_refused x0_lines x0_changes x0_coins x0_goods x0_works x0_years x0_gone x0_spent x0_at x0_token x0_from x0_figures x0_fault x0_numbers x0_statements x0_left x0_far x0_tons x0_way x0_steps x0_met x0_queue x0_totals, gridI d r0_line 20 7 x0_line]) (st' := fun _ => [.int v1]) (st := []) hK dX7_washed_2 cv_RX7_128 iv_yX7_isLine (As := [.int p1]) (kX7_isLine _ d h0 r0_rows r0_line r0_good r0_work a0_kept a0_tried a0_chosen x0_shelf x0_rowSort x0_rowSize x0_rows x0_moved x0_shown x0_tape x0_tapeSize x0_refused x0_lines x0_line x0_changes x0_coins x0_goods x0_good x0_works x0_work x0_years x0_gone x0_spent x0_at x0_token x0_from x0_figures x0_fault x0_numbers x0_statements x0_left x0_far x0_tons x0_way x0_steps x0_met x0_queue x0_totals p1 e2) rfl rfl (Nat.le_of_ble_eq_true rfl) (by decide) 0 0 rfl rfl rfl [0] [1] rfl rfl rfl rfl [1, 0] rfl (fun _ => rfl) (fun _ => rfl) rfl rfl rfl (fun _ => rfl) (fun _ => ?_)
  refine J_if_ne (tg := 15) hK dX7_washed_5 rfl rfl (fun hc5 => ?_) (fun hc5 => ?_)
  · have hf := iq hc5 hf
    refine J_aload_n hK dX7_washed_15 rfl 0 rfl rfl ?_
    refine J_get hK fo_RX7_39 dX7_washed_16 rfl 0 0 rfl rfl rfl ?_
    refine J_iload_n hK dX7_washed_19 rfl 1 rfl rfl ?_
    obtain ⟨q3, eq3, hf⟩ := bs hf
    refine J_aald hK dX7_washed_20 rfl 0 9 rfl rfl rfl eq3 ?_
    refine J_bipush (v := 6) hK dX7_washed_21 rfl (by decide) ?_
    obtain ⟨v4, ev4, hf⟩ := bs hf
    refine J_iald hK dX7_washed_23 rfl 1 q3 rfl (gridI_at (ck_ok eq3).2.2) ev4 ?_
    refine J_istore_n (L' := [(3, .int v4), (0, .ref (h0 0)), (1, .int p1), (2, .int p2)]) hK dX7_washed_24 rfl rfl (by decide) rfl ?_
    refine J_aload_n hK dX7_washed_25 rfl 1 rfl rfl ?_
    refine J_get hK fo_RX7_39 dX7_washed_26 rfl 0 0 rfl rfl rfl ?_
    refine J_iload_n hK dX7_washed_29 rfl 2 rfl rfl ?_
    obtain ⟨q5, eq5, hf⟩ := bs hf
    refine J_aald hK dX7_washed_30 rfl 0 9 rfl rfl rfl eq5 ?_
    refine J_bipush (v := 6) hK dX7_washed_31 rfl (by decide) ?_
    refine J_iload_n hK dX7_washed_33 rfl 3 rfl rfl ?_
    have j42 : ∀ (y6 : Int32), fX7_washed_j42 p1 x0_refused x0_line v4 q5 y6 = some out → J d Φ 4 [gMd d h0 a0_kept a0_tried a0_chosen r0_rows r0_line r0_good r0_work x0_shelf x0_rowSort x0_rowSize x0_moved x0_shown x0_tape x0_tapeSize x0_refused x0_lines x0_changes x0_coins x0_goods x0_works x0_years x0_gone x0_spent x0_at x0_token x0_from x0_figures x0_fault x0_numbers x0_statements x0_left x0_far x0_tons x0_way x0_steps x0_met x0_queue x0_totals, gridI d r0_line 20 7 x0_line] 0 0 42 [(0, .ref (h0 0)), (1, .int p1), (3, .int v4)] [.int y6, .int (6), .ref (r0_line q5)] := by
      intro y6 hf
      unfold fX7_washed_j42 at hf
      obtain ⟨f7, ef7, hf⟩ := bs hf
      refine J_iast (g' := gridI d r0_line 20 7 (va_up x0_line q5 f7)) (gs' := [gMd d h0 a0_kept a0_tried a0_chosen r0_rows r0_line r0_good r0_work x0_shelf x0_rowSort x0_rowSize x0_moved x0_shown x0_tape x0_tapeSize x0_refused x0_lines x0_changes x0_coins x0_goods x0_works x0_years x0_gone x0_spent x0_at x0_token x0_from x0_figures x0_fault x0_numbers x0_statements x0_left x0_far x0_tons x0_way x0_steps x0_met x0_queue x0_totals, gridI d r0_line 20 7 (va_up x0_line q5 f7)]) hK dX7_washed_42 rfl 1 q5 rfl (gridI_at (ck_ok eq5).2.2) ef7 gridI_set rfl ?_
      refine J_iload_n hK dX7_washed_43 rfl 2 rfl rfl ?_
      refine J_aload_n hK dX7_washed_44 rfl 0 rfl rfl ?_
      refine J_get hK fo_RX7_39 dX7_washed_45 rfl 0 0 rfl rfl rfl ?_
      refine J_iload_n hK dX7_washed_48 rfl 1 rfl rfl ?_
      obtain ⟨q8, eq8, hf⟩ := bs hf
      refine J_aald hK dX7_washed_49 rfl 0 9 rfl rfl rfl eq8 ?_
      refine J_bipush (v := 6) hK dX7_washed_50 rfl (by decide) ?_
      obtain ⟨v9, ev9, hf⟩ := bs hf
      refine J_iald hK dX7_washed_52 rfl 1 q8 rfl (gridI_at (ck_ok eq8).2.2) ev9 ?_
      refine J_icmp_eq (tg := 60) hK dX7_washed_53 rfl rfl (fun hc53 => ?_) (fun hc53 => ?_)
      · have hf := ip hc53 hf
        refine J_iconst (v := 0) hK dX7_washed_60 rfl (by decide) ?_
        obtain rfl := Option.some.inj hf
        exact J_iret hK hR dX7_washed_61 () rfl (by decide) (by decide)
      · have hf := iq hc53 hf
        refine J_iconst (v := 1) hK dX7_washed_56 rfl (by decide) ?_
        refine J_goto hK dX7_washed_57 (n := 61) rfl ?_
        obtain rfl := Option.some.inj hf
        exact J_iret hK hR dX7_washed_61 () rfl (by decide) (by decide)
    refine J_if_eq (tg := 41) hK dX7_washed_34 rfl rfl (fun hc34 => ?_) (fun hc34 => ?_)
    · have hf := ip hc34 hf
      refine J_iconst (v := 0) hK dX7_washed_41 rfl (by decide) ?_
      exact J_loc [1, 2, 0] rfl (j42 (0) hf)
    · have hf := iq hc34 hf
      refine J_iconst (v := 1) hK dX7_washed_37 rfl (by decide) ?_
      refine J_goto hK dX7_washed_38 (n := 42) rfl ?_
      exact J_loc [1, 2, 0] rfl (j42 (1) hf)
  · have hf := ip hc5 hf
    refine J_aload_n hK dX7_washed_8 rfl 0 rfl rfl ?_
    refine J_bipush (v := (-2)) hK dX7_washed_9 rfl (by decide) ?_
    obtain ⟨⟨v10, g11⟩, e12, hf⟩ := bs hf
    have hf := un2 hf
    refine J_callV (m' := 2) (ce' := 0) (sl' := 0) (gr := [gridI d r0_line 20 7 x0_line]) (gs' := fun _ => [gMd d h0 a0_kept a0_tried a0_chosen r0_rows r0_line r0_good r0_work x0_shelf x0_rowSort x0_rowSize x0_moved x0_shown x0_tape x0_tapeSize g11 x0_lines x0_changes x0_coins x0_goods x0_works x0_years x0_gone x0_spent x0_at x0_token x0_from x0_figures x0_fault x0_numbers x0_statements x0_left x0_far x0_tons x0_way x0_steps x0_met x0_queue x0_totals, gridI d r0_line 20 7 x0_line]) (st' := fun _ => [.int v10]) (st := []) hK dX7_washed_11 cv_RX7_94 iv_yX7_refuse (As := [.int (-2)]) (kX7_refuse _ d h0 r0_rows r0_line r0_good r0_work a0_kept a0_tried a0_chosen x0_shelf x0_rowSort x0_rowSize x0_rows x0_moved x0_shown x0_tape x0_tapeSize x0_refused x0_lines x0_line x0_changes x0_coins x0_goods x0_good x0_works x0_work x0_years x0_gone x0_spent x0_at x0_token x0_from x0_figures x0_fault x0_numbers x0_statements x0_left x0_far x0_tons x0_way x0_steps x0_met x0_queue x0_totals (-2) e12) rfl rfl (Nat.le_of_ble_eq_true rfl) (by decide) 0 0 rfl rfl rfl [0] [1] rfl rfl rfl rfl [1, 0] rfl (fun _ => rfl) (fun _ => rfl) rfl rfl rfl (fun _ => rfl) (fun _ => ?_)
    obtain rfl := Option.some.inj hf
    exact J_iret hK hR dX7_washed_14 () rfl (by decide) (by decide)

def fX7_feed_s42 (p1 : Int32) (z4 : Int32) (z5 : (Nat → Int32)) (z6 : Int32) : Option ((Int32 × (Nat → Int32) × Int32) ⊕ ((Nat → Int32) × Int32)) :=
  if z4 < 0 then (some (.inr (z5, z6))) else ((some ((p1 >>> ((8 * z4) &&& 31)) &&& 255)).bind fun t10 => (wr 250 z5 z6 t10).bind fun f11 => some (.inl ((z4 + (-1)), f11, (z6 + 1))))
def fX7_feed (n : Nat) (X0 : MdT) (p1 : Int32) (p2 : Int32) : Option (Int32 × (Nat → Int32) × Int32 × (Nat → Int32)) :=
  u35 (fun (x0_shelf : (Nat → Int32)) (x0_rowSort : (Nat → Int32)) (x0_rowSize : (Nat → Int32)) (x0_rows : (Nat → Nat → Int64)) (x0_moved : (Nat → Int64)) (x0_shown : (Nat → Int32)) (x0_tape : (Nat → Int32)) (x0_tapeSize : Int32) (x0_refused : (Nat → Int32)) (x0_lines : Int32) (x0_line : (Nat → Nat → Int32)) (x0_changes : (Nat → Int32)) (x0_coins : (Nat → Int32)) (x0_goods : Int32) (x0_good : (Nat → Nat → Int32)) (x0_works : Int32) (x0_work : (Nat → Nat → Int32)) (x0_years : Int32) (x0_gone : Int32) (x0_spent : Int32) (x0_at : Int32) (x0_token : Int32) (x0_from : Int32) (x0_figures : Int64) (x0_fault : Int32) (x0_numbers : (Nat → Int32)) (x0_statements : Int32) (x0_left : (Nat → Int32)) (x0_far : (Nat → Int32)) (x0_tons : Int32) (x0_way : (Nat → Int32)) (x0_steps : Int32) (x0_met : Int64) (x0_queue : (Nat → Int32)) (x0_totals : (Nat → Int32)) => (fX7_in ((p2).toInt64) (1 : Int64) (4 : Int64)).bind (fun v1 => if v1 = 0 then ((fX7_refuse (x0_shelf, x0_rowSort, x0_rowSize, x0_rows, x0_moved, x0_shown, x0_tape, x0_tapeSize, x0_refused, x0_lines, x0_line, x0_changes, x0_coins, x0_goods, x0_good, x0_works, x0_work, x0_years, x0_gone, x0_spent, x0_at, x0_token, x0_from, x0_figures, x0_fault, x0_numbers, x0_statements, x0_left, x0_far, x0_tons, x0_way, x0_steps, x0_met, x0_queue, x0_totals) (-2)).bind (u2 fun v15 g16 => some (v15, x0_tape, x0_tapeSize, g16))) else (if p2 ≤ (250 - x0_tapeSize) then ((lp (u3 (fX7_feed_s42 p1)) n ((p2 - 1), x0_tape, x0_tapeSize)).bind (u2 fun w8 w9 => some (w9, w8, w9, x0_refused))) else ((fX7_refuse (x0_shelf, x0_rowSort, x0_rowSize, x0_rows, x0_moved, x0_shown, x0_tape, x0_tapeSize, x0_refused, x0_lines, x0_line, x0_changes, x0_coins, x0_goods, x0_good, x0_works, x0_work, x0_years, x0_gone, x0_spent, x0_at, x0_token, x0_from, x0_figures, x0_fault, x0_numbers, x0_statements, x0_left, x0_far, x0_tons, x0_way, x0_steps, x0_met, x0_queue, x0_totals) (-6)).bind (u2 fun v12 g13 => some (v12, x0_tape, x0_tapeSize, g13)))))) X0
set_option maxHeartbeats 4000000 in
set_option maxRecDepth 100000 in
theorem kX7_feed (l : Launch) (d : DT) (h0 : Nat → Nat) (r0_rows : Nat → Nat) (r0_line : Nat → Nat) (r0_good : Nat → Nat) (r0_work : Nat → Nat) (a0_kept : Option Nat) (a0_tried : Option Nat) (a0_chosen : Option Nat) (n : Nat) (x0_shelf : (Nat → Int32)) (x0_rowSort : (Nat → Int32)) (x0_rowSize : (Nat → Int32)) (x0_rows : (Nat → Nat → Int64)) (x0_moved : (Nat → Int64)) (x0_shown : (Nat → Int32)) (x0_tape : (Nat → Int32)) (x0_tapeSize : Int32) (x0_refused : (Nat → Int32)) (x0_lines : Int32) (x0_line : (Nat → Nat → Int32)) (x0_changes : (Nat → Int32)) (x0_coins : (Nat → Int32)) (x0_goods : Int32) (x0_good : (Nat → Nat → Int32)) (x0_works : Int32) (x0_work : (Nat → Nat → Int32)) (x0_years : Int32) (x0_gone : Int32) (x0_spent : Int32) (x0_at : Int32) (x0_token : Int32) (x0_from : Int32) (x0_figures : Int64) (x0_fault : Int32) (x0_numbers : (Nat → Int32)) (x0_statements : Int32) (x0_left : (Nat → Int32)) (x0_far : (Nat → Int32)) (x0_tons : Int32) (x0_way : (Nat → Int32)) (x0_steps : Int32) (x0_met : Int64) (x0_queue : (Nat → Int32)) (x0_totals : (Nat → Int32)) (p1 : Int32) (p2 : Int32)  {out : Int32 × (Nat → Int32) × Int32 × (Nat → Int32)} (hf : fX7_feed n (x0_shelf, x0_rowSort, x0_rowSize, x0_rows, x0_moved, x0_shown, x0_tape, x0_tapeSize, x0_refused, x0_lines, x0_line, x0_changes, x0_coins, x0_goods, x0_good, x0_works, x0_work, x0_years, x0_gone, x0_spent, x0_at, x0_token, x0_from, x0_figures, x0_fault, x0_numbers, x0_statements, x0_left, x0_far, x0_tons, x0_way, x0_steps, x0_met, x0_queue, x0_totals) p1 p2 = some out) : Ct l d yX7_feed cX7_feed 4 (some .int) { frames := 1, cells := 0, slots := 0, locals := 25 } [.ref (h0 0), .int p1, .int p2] [gMd d h0 a0_kept a0_tried a0_chosen r0_rows r0_line r0_good r0_work x0_shelf x0_rowSort x0_rowSize x0_moved x0_shown x0_tape x0_tapeSize x0_refused x0_lines x0_changes x0_coins x0_goods x0_works x0_years x0_gone x0_spent x0_at x0_token x0_from x0_figures x0_fault x0_numbers x0_statements x0_left x0_far x0_tons x0_way x0_steps x0_met x0_queue x0_totals] (fun _ : Unit => (some (.int out.1), [gMd d h0 a0_kept a0_tried a0_chosen r0_rows r0_line r0_good r0_work x0_shelf x0_rowSort x0_rowSize x0_moved x0_shown (out.2.1) (out.2.2.1) (out.2.2.2) x0_lines x0_changes x0_coins x0_goods x0_works x0_years x0_gone x0_spent x0_at x0_token x0_from x0_figures x0_fault x0_numbers x0_statements x0_left x0_far x0_tons x0_way x0_steps x0_met x0_queue x0_totals])) := by
  refine Ct.of (by decide) (Nat.le_of_ble_eq_true rfl) ?_
  intro Φ hl hK hR
  subst hl
  have hK : Ok d Φ RX7 "feed" cX7_feed 4 (some .int) { frames := 1, cells := 0, slots := 0, locals := 25 } := hK
  unfold fX7_feed at hf
  have hf := un35 hf
  show J d Φ 4 [gMd d h0 a0_kept a0_tried a0_chosen r0_rows r0_line r0_good r0_work x0_shelf x0_rowSort x0_rowSize x0_moved x0_shown x0_tape x0_tapeSize x0_refused x0_lines x0_changes x0_coins x0_goods x0_works x0_years x0_gone x0_spent x0_at x0_token x0_from x0_figures x0_fault x0_numbers x0_statements x0_left x0_far x0_tons x0_way x0_steps x0_met x0_queue x0_totals] 0 0 0 [(0, .ref (h0 0)), (1, .int p1), (2, .int p2)] []
  refine J_iload_n hK dX7_feed_0 rfl 2 rfl rfl ?_
  refine J_i2l hK dX7_feed_1 rfl ?_
  refine J_lconst (v := 1) hK dX7_feed_2 rfl (by decide) ?_
  refine J_ldc2 (v := (4 : Int64)) hK dX7_feed_3 rfl wk_RX7_90 ?_
  obtain ⟨v1, e2, hf⟩ := bs hf
  refine J_callS (m' := 1) (ce' := 0) (sl' := 0) (gr := [gMd d h0 a0_kept a0_tried a0_chosen r0_rows r0_line r0_good r0_work x0_shelf x0_rowSort x0_rowSize x0_moved x0_shown x0_tape x0_tapeSize x0_refused x0_lines x0_changes x0_coins x0_goods x0_works x0_years x0_gone x0_spent x0_at x0_token x0_from x0_figures x0_fault x0_numbers x0_statements x0_left x0_far x0_tons x0_way x0_steps x0_met x0_queue x0_totals]) (gs' := fun _ => [gMd d h0 a0_kept a0_tried a0_chosen r0_rows r0_line r0_good r0_work x0_shelf x0_rowSort x0_rowSize x0_moved x0_shown x0_tape x0_tapeSize x0_refused x0_lines x0_changes x0_coins x0_goods x0_works x0_years x0_gone x0_spent x0_at x0_token x0_from x0_figures x0_fault x0_numbers x0_statements x0_left x0_far x0_tons x0_way x0_steps x0_met x0_queue x0_totals]) (st' := fun _ => [.int v1]) (st := []) hK dX7_feed_6 cv_RX7_78 ws_yX7_in (As := [.long ((p2).toInt64), .long (1 : Int64), .long (4 : Int64)]) (kX7_in _ d ((p2).toInt64) (1 : Int64) (4 : Int64) e2) rfl rfl (Nat.le_of_ble_eq_true rfl) (by decide) [] [0] rfl rfl rfl rfl [0] rfl (fun _ => rfl) (fun _ => rfl) rfl rfl rfl (fun _ => rfl) (fun _ => ?_)
  refine J_if_ne (tg := 19) hK dX7_feed_9 rfl rfl (fun hc9 => ?_) (fun hc9 => ?_)
  · have hf := iq hc9 hf
    refine J_iload_n hK dX7_feed_19 rfl 2 rfl rfl ?_
    refine J_sipush (v := 250) hK dX7_feed_20 rfl (by decide) ?_
    refine J_aload_n hK dX7_feed_23 rfl 0 rfl rfl ?_
    refine J_get hK fo_RX7_146 dX7_feed_24 rfl 0 0 rfl rfl rfl ?_
    refine J_isub hK dX7_feed_27 rfl ?_
    refine J_icmp_le (tg := 38) hK dX7_feed_28 rfl rfl (fun hc28 => ?_) (fun hc28 => ?_)
    · have hf := ip hc28 hf
      refine J_iload_n hK dX7_feed_38 rfl 2 rfl rfl ?_
      refine J_iconst (v := 1) hK dX7_feed_39 rfl (by decide) ?_
      refine J_isub hK dX7_feed_40 rfl ?_
      refine J_istore_n (L' := [(3, .int (p2 - 1)), (0, .ref (h0 0)), (1, .int p1), (2, .int p2)]) hK dX7_feed_41 rfl rfl (by decide) rfl ?_
      obtain ⟨e7, hl3, hf⟩ := bs hf
      have hx3_78 : ∀ (w8 : (Nat → Int32)) (w9 : Int32), (w8, w9) = e7 → J d Φ 4 [gMd d h0 a0_kept a0_tried a0_chosen r0_rows r0_line r0_good r0_work x0_shelf x0_rowSort x0_rowSize x0_moved x0_shown w8 w9 x0_refused x0_lines x0_changes x0_coins x0_goods x0_works x0_years x0_gone x0_spent x0_at x0_token x0_from x0_figures x0_fault x0_numbers x0_statements x0_left x0_far x0_tons x0_way x0_steps x0_met x0_queue x0_totals] 0 0 78 [(0, .ref (h0 0))] [] := by
        intro w8 w9 he
        rw [← he] at hf
        have hf := un2 hf
        refine J_aload_n hK dX7_feed_78 rfl 0 rfl rfl ?_
        refine J_get hK fo_RX7_146 dX7_feed_79 rfl 0 0 rfl rfl rfl ?_
        obtain rfl := Option.some.inj hf
        exact J_iret hK hR dX7_feed_82 () rfl (by decide) (by decide)
      have lo3 : ∀ (k : Nat) (z4 : Int32) (z5 : (Nat → Int32)) (z6 : Int32), lp (u3 (fX7_feed_s42 p1)) k (z4, z5, z6) = some e7 → J d Φ 4 [gMd d h0 a0_kept a0_tried a0_chosen r0_rows r0_line r0_good r0_work x0_shelf x0_rowSort x0_rowSize x0_moved x0_shown z5 z6 x0_refused x0_lines x0_changes x0_coins x0_goods x0_works x0_years x0_gone x0_spent x0_at x0_token x0_from x0_figures x0_fault x0_numbers x0_statements x0_left x0_far x0_tons x0_way x0_steps x0_met x0_queue x0_totals] 0 0 42 [(0, .ref (h0 0)), (1, .int p1), (3, .int z4)] [] := by
        intro k
        induction k with
        | zero => intro z4 z5 z6 h; cases h
        | succ k ih3 =>
          intro z4 z5 z6 h
          obtain ⟨k2, rr3, hk2, hs3, hr3⟩ := lp_ok h
          cases hk2
          have hs3 : fX7_feed_s42 p1 z4 z5 z6 = some rr3 := hs3
          unfold fX7_feed_s42 at hs3
          refine J_iload_n hK dX7_feed_42 rfl 2 rfl rfl ?_
          refine J_if_lt (tg := 78) hK dX7_feed_43 rfl rfl (fun hc43 => ?_) (fun hc43 => ?_)
          · have hs3 := ip hc43 hs3
            exact J_loc [0] rfl (hx3_78 z5 z6 (lpx hs3 hr3))
          · have hs3 := iq hc43 hs3
            refine J_aload_n hK dX7_feed_46 rfl 0 rfl rfl ?_
            refine J_get hK fo_RX7_31 dX7_feed_47 rfl 0 0 rfl rfl rfl ?_
            refine J_aload_n hK dX7_feed_50 rfl 0 rfl rfl ?_
            refine J_dup hK dX7_feed_51 rfl rfl ?_
            refine J_get hK fo_RX7_146 dX7_feed_52 rfl 0 0 rfl rfl rfl ?_
            refine J_dup_x1 hK dX7_feed_55 rfl rfl rfl ?_
            refine J_iconst (v := 1) hK dX7_feed_56 rfl (by decide) ?_
            refine J_iadd hK dX7_feed_57 rfl ?_
            refine J_put (g' := gMd d h0 a0_kept a0_tried a0_chosen r0_rows r0_line r0_good r0_work x0_shelf x0_rowSort x0_rowSize x0_moved x0_shown z5 (z6 + 1) x0_refused x0_lines x0_changes x0_coins x0_goods x0_works x0_years x0_gone x0_spent x0_at x0_token x0_from x0_figures x0_fault x0_numbers x0_statements x0_left x0_far x0_tons x0_way x0_steps x0_met x0_queue x0_totals) (gs' := [gMd d h0 a0_kept a0_tried a0_chosen r0_rows r0_line r0_good r0_work x0_shelf x0_rowSort x0_rowSize x0_moved x0_shown z5 (z6 + 1) x0_refused x0_lines x0_changes x0_coins x0_goods x0_works x0_years x0_gone x0_spent x0_at x0_token x0_from x0_figures x0_fault x0_numbers x0_statements x0_left x0_far x0_tons x0_way x0_steps x0_met x0_queue x0_totals]) hK fp_RX7_146 dX7_feed_58 rfl 0 0 rfl rfl rfl rfl (Nat.le_of_ble_eq_true rfl) rfl rfl ?_
            refine J_iload_n hK dX7_feed_61 rfl 1 rfl rfl ?_
            refine J_bipush (v := 8) hK dX7_feed_62 rfl (by decide) ?_
            refine J_iload_n hK dX7_feed_64 rfl 2 rfl rfl ?_
            refine J_imul hK dX7_feed_65 rfl ?_
            refine J_ishr hK dX7_feed_66 rfl ?_
            refine J_sipush (v := 255) hK dX7_feed_67 rfl (by decide) ?_
            refine J_iand hK dX7_feed_70 rfl ?_
            obtain ⟨t10, et10, hs3⟩ := bs hs3
            refine J_nmi et10 ?_
            obtain ⟨f11, ef11, hs3⟩ := bs hs3
            refine J_iast (g' := gMd d h0 a0_kept a0_tried a0_chosen r0_rows r0_line r0_good r0_work x0_shelf x0_rowSort x0_rowSize x0_moved x0_shown f11 (z6 + 1) x0_refused x0_lines x0_changes x0_coins x0_goods x0_works x0_years x0_gone x0_spent x0_at x0_token x0_from x0_figures x0_fault x0_numbers x0_statements x0_left x0_far x0_tons x0_way x0_steps x0_met x0_queue x0_totals) (gs' := [gMd d h0 a0_kept a0_tried a0_chosen r0_rows r0_line r0_good r0_work x0_shelf x0_rowSort x0_rowSize x0_moved x0_shown f11 (z6 + 1) x0_refused x0_lines x0_changes x0_coins x0_goods x0_works x0_years x0_gone x0_spent x0_at x0_token x0_from x0_figures x0_fault x0_numbers x0_statements x0_left x0_far x0_tons x0_way x0_steps x0_met x0_queue x0_totals]) hK dX7_feed_71 rfl 0 7 rfl rfl ef11 rfl rfl ?_
            refine J_iinc (L' := [(3, .int (z4 + (-1))), (0, .ref (h0 0)), (1, .int p1)]) (v := (z4 + (-1))) hK dX7_feed_72 rfl 2 rfl rfl (by decide) rfl ?_
            refine J_goto hK dX7_feed_75 (n := 42) rfl ?_
            exact J_loc [1, 2, 0] rfl (ih3 (z4 + (-1)) f11 (z6 + 1) (lpc hs3 hr3))
      exact J_loc [1, 2, 0] rfl (lo3 n (p2 - 1) x0_tape x0_tapeSize hl3)
    · have hf := iq hc28 hf
      refine J_aload_n hK dX7_feed_31 rfl 0 rfl rfl ?_
      refine J_bipush (v := (-6)) hK dX7_feed_32 rfl (by decide) ?_
      obtain ⟨⟨v12, g13⟩, e14, hf⟩ := bs hf
      have hf := un2 hf
      refine J_callV (m' := 1) (ce' := 0) (sl' := 0) (gr := []) (gs' := fun _ => [gMd d h0 a0_kept a0_tried a0_chosen r0_rows r0_line r0_good r0_work x0_shelf x0_rowSort x0_rowSize x0_moved x0_shown x0_tape x0_tapeSize g13 x0_lines x0_changes x0_coins x0_goods x0_works x0_years x0_gone x0_spent x0_at x0_token x0_from x0_figures x0_fault x0_numbers x0_statements x0_left x0_far x0_tons x0_way x0_steps x0_met x0_queue x0_totals]) (st' := fun _ => [.int v12]) (st := []) hK dX7_feed_34 cv_RX7_94 iv_yX7_refuse (As := [.int (-6)]) (kX7_refuse _ d h0 r0_rows r0_line r0_good r0_work a0_kept a0_tried a0_chosen x0_shelf x0_rowSort x0_rowSize x0_rows x0_moved x0_shown x0_tape x0_tapeSize x0_refused x0_lines x0_line x0_changes x0_coins x0_goods x0_good x0_works x0_work x0_years x0_gone x0_spent x0_at x0_token x0_from x0_figures x0_fault x0_numbers x0_statements x0_left x0_far x0_tons x0_way x0_steps x0_met x0_queue x0_totals (-6) e14) rfl rfl (Nat.le_of_ble_eq_true rfl) (by decide) 0 0 rfl rfl rfl [0] [] rfl rfl rfl rfl [0] rfl (fun _ => rfl) (fun _ => rfl) rfl rfl rfl (fun _ => rfl) (fun _ => ?_)
      obtain rfl := Option.some.inj hf
      exact J_iret hK hR dX7_feed_37 () rfl (by decide) (by decide)
  · have hf := ip hc9 hf
    refine J_aload_n hK dX7_feed_12 rfl 0 rfl rfl ?_
    refine J_bipush (v := (-2)) hK dX7_feed_13 rfl (by decide) ?_
    obtain ⟨⟨v15, g16⟩, e17, hf⟩ := bs hf
    have hf := un2 hf
    refine J_callV (m' := 1) (ce' := 0) (sl' := 0) (gr := []) (gs' := fun _ => [gMd d h0 a0_kept a0_tried a0_chosen r0_rows r0_line r0_good r0_work x0_shelf x0_rowSort x0_rowSize x0_moved x0_shown x0_tape x0_tapeSize g16 x0_lines x0_changes x0_coins x0_goods x0_works x0_years x0_gone x0_spent x0_at x0_token x0_from x0_figures x0_fault x0_numbers x0_statements x0_left x0_far x0_tons x0_way x0_steps x0_met x0_queue x0_totals]) (st' := fun _ => [.int v15]) (st := []) hK dX7_feed_15 cv_RX7_94 iv_yX7_refuse (As := [.int (-2)]) (kX7_refuse _ d h0 r0_rows r0_line r0_good r0_work a0_kept a0_tried a0_chosen x0_shelf x0_rowSort x0_rowSize x0_rows x0_moved x0_shown x0_tape x0_tapeSize x0_refused x0_lines x0_line x0_changes x0_coins x0_goods x0_good x0_works x0_work x0_years x0_gone x0_spent x0_at x0_token x0_from x0_figures x0_fault x0_numbers x0_statements x0_left x0_far x0_tons x0_way x0_steps x0_met x0_queue x0_totals (-2) e17) rfl rfl (Nat.le_of_ble_eq_true rfl) (by decide) 0 0 rfl rfl rfl [0] [] rfl rfl rfl rfl [0] rfl (fun _ => rfl) (fun _ => rfl) rfl rfl rfl (fun _ => rfl) (fun _ => ?_)
    obtain rfl := Option.some.inj hf
    exact J_iret hK hR dX7_feed_18 () rfl (by decide) (by decide)

def fX7_wipe (X0 : MdT) : Option (Int32 × Int32) :=
  u35 (fun (x0_shelf : (Nat → Int32)) (x0_rowSort : (Nat → Int32)) (x0_rowSize : (Nat → Int32)) (x0_rows : (Nat → Nat → Int64)) (x0_moved : (Nat → Int64)) (x0_shown : (Nat → Int32)) (x0_tape : (Nat → Int32)) (x0_tapeSize : Int32) (x0_refused : (Nat → Int32)) (x0_lines : Int32) (x0_line : (Nat → Nat → Int32)) (x0_changes : (Nat → Int32)) (x0_coins : (Nat → Int32)) (x0_goods : Int32) (x0_good : (Nat → Nat → Int32)) (x0_works : Int32) (x0_work : (Nat → Nat → Int32)) (x0_years : Int32) (x0_gone : Int32) (x0_spent : Int32) (x0_at : Int32) (x0_token : Int32) (x0_from : Int32) (x0_figures : Int64) (x0_fault : Int32) (x0_numbers : (Nat → Int32)) (x0_statements : Int32) (x0_left : (Nat → Int32)) (x0_far : (Nat → Int32)) (x0_tons : Int32) (x0_way : (Nat → Int32)) (x0_steps : Int32) (x0_met : Int64) (x0_queue : (Nat → Int32)) (x0_totals : (Nat → Int32)) => some (x0_tapeSize, 0)) X0
set_option maxHeartbeats 4000000 in
set_option maxRecDepth 100000 in
theorem kX7_wipe (l : Launch) (d : DT) (h0 : Nat → Nat) (r0_rows : Nat → Nat) (r0_line : Nat → Nat) (r0_good : Nat → Nat) (r0_work : Nat → Nat) (a0_kept : Option Nat) (a0_tried : Option Nat) (a0_chosen : Option Nat) (x0_shelf : (Nat → Int32)) (x0_rowSort : (Nat → Int32)) (x0_rowSize : (Nat → Int32)) (x0_rows : (Nat → Nat → Int64)) (x0_moved : (Nat → Int64)) (x0_shown : (Nat → Int32)) (x0_tape : (Nat → Int32)) (x0_tapeSize : Int32) (x0_refused : (Nat → Int32)) (x0_lines : Int32) (x0_line : (Nat → Nat → Int32)) (x0_changes : (Nat → Int32)) (x0_coins : (Nat → Int32)) (x0_goods : Int32) (x0_good : (Nat → Nat → Int32)) (x0_works : Int32) (x0_work : (Nat → Nat → Int32)) (x0_years : Int32) (x0_gone : Int32) (x0_spent : Int32) (x0_at : Int32) (x0_token : Int32) (x0_from : Int32) (x0_figures : Int64) (x0_fault : Int32) (x0_numbers : (Nat → Int32)) (x0_statements : Int32) (x0_left : (Nat → Int32)) (x0_far : (Nat → Int32)) (x0_tons : Int32) (x0_way : (Nat → Int32)) (x0_steps : Int32) (x0_met : Int64) (x0_queue : (Nat → Int32)) (x0_totals : (Nat → Int32))  {out : Int32 × Int32} (hf : fX7_wipe (x0_shelf, x0_rowSort, x0_rowSize, x0_rows, x0_moved, x0_shown, x0_tape, x0_tapeSize, x0_refused, x0_lines, x0_line, x0_changes, x0_coins, x0_goods, x0_good, x0_works, x0_work, x0_years, x0_gone, x0_spent, x0_at, x0_token, x0_from, x0_figures, x0_fault, x0_numbers, x0_statements, x0_left, x0_far, x0_tons, x0_way, x0_steps, x0_met, x0_queue, x0_totals) = some out) : Ct l d yX7_wipe cX7_wipe 2 (some .int) { frames := 0, cells := 0, slots := 0, locals := 0 } [.ref (h0 0)] [gMd d h0 a0_kept a0_tried a0_chosen r0_rows r0_line r0_good r0_work x0_shelf x0_rowSort x0_rowSize x0_moved x0_shown x0_tape x0_tapeSize x0_refused x0_lines x0_changes x0_coins x0_goods x0_works x0_years x0_gone x0_spent x0_at x0_token x0_from x0_figures x0_fault x0_numbers x0_statements x0_left x0_far x0_tons x0_way x0_steps x0_met x0_queue x0_totals] (fun _ : Unit => (some (.int out.1), [gMd d h0 a0_kept a0_tried a0_chosen r0_rows r0_line r0_good r0_work x0_shelf x0_rowSort x0_rowSize x0_moved x0_shown x0_tape (out.2) x0_refused x0_lines x0_changes x0_coins x0_goods x0_works x0_years x0_gone x0_spent x0_at x0_token x0_from x0_figures x0_fault x0_numbers x0_statements x0_left x0_far x0_tons x0_way x0_steps x0_met x0_queue x0_totals])) := by
  refine Ct.of (by decide) (Nat.le_of_ble_eq_true rfl) ?_
  intro Φ hl hK hR
  subst hl
  have hK : Ok d Φ RX7 "wipe" cX7_wipe 2 (some .int) { frames := 0, cells := 0, slots := 0, locals := 0 } := hK
  unfold fX7_wipe at hf
  have hf := un35 hf
  show J d Φ 2 [gMd d h0 a0_kept a0_tried a0_chosen r0_rows r0_line r0_good r0_work x0_shelf x0_rowSort x0_rowSize x0_moved x0_shown x0_tape x0_tapeSize x0_refused x0_lines x0_changes x0_coins x0_goods x0_works x0_years x0_gone x0_spent x0_at x0_token x0_from x0_figures x0_fault x0_numbers x0_statements x0_left x0_far x0_tons x0_way x0_steps x0_met x0_queue x0_totals] 0 0 0 [(0, .ref (h0 0))] []
  refine J_aload_n hK dX7_wipe_0 rfl 0 rfl rfl ?_
  refine J_get hK fo_RX7_146 dX7_wipe_1 rfl 0 0 rfl rfl rfl ?_
  refine J_istore_n (L' := [(1, .int x0_tapeSize), (0, .ref (h0 0))]) hK dX7_wipe_4 rfl rfl (by decide) rfl ?_
  refine J_aload_n hK dX7_wipe_5 rfl 1 rfl rfl ?_
  refine J_iconst (v := 0) hK dX7_wipe_6 rfl (by decide) ?_
  refine J_put (g' := gMd d h0 a0_kept a0_tried a0_chosen r0_rows r0_line r0_good r0_work x0_shelf x0_rowSort x0_rowSize x0_moved x0_shown x0_tape (0) x0_refused x0_lines x0_changes x0_coins x0_goods x0_works x0_years x0_gone x0_spent x0_at x0_token x0_from x0_figures x0_fault x0_numbers x0_statements x0_left x0_far x0_tons x0_way x0_steps x0_met x0_queue x0_totals) (gs' := [gMd d h0 a0_kept a0_tried a0_chosen r0_rows r0_line r0_good r0_work x0_shelf x0_rowSort x0_rowSize x0_moved x0_shown x0_tape (0) x0_refused x0_lines x0_changes x0_coins x0_goods x0_works x0_years x0_gone x0_spent x0_at x0_token x0_from x0_figures x0_fault x0_numbers x0_statements x0_left x0_far x0_tons x0_way x0_steps x0_met x0_queue x0_totals]) hK fp_RX7_146 dX7_wipe_7 rfl 0 0 rfl rfl rfl rfl (Nat.le_of_ble_eq_true rfl) rfl rfl ?_
  refine J_iload_n hK dX7_wipe_10 rfl 0 rfl rfl ?_
  obtain rfl := Option.some.inj hf
  exact J_iret hK hR dX7_wipe_11 () rfl (by decide) (by decide)

def fX7_isLetter (p0 : Int32) : Option (Int32) :=
  if p0 < 97 then (some (0)) else (if 122 < p0 then (some (0)) else (some (1)))
set_option maxHeartbeats 4000000 in
set_option maxRecDepth 100000 in
theorem kX7_isLetter (l : Launch) (d : DT)  (p0 : Int32)  {out : Int32} (hf : fX7_isLetter p0 = some out) : Ct l d yX7_isLetter cX7_isLetter 1 (some .boolean) { frames := 0, cells := 0, slots := 0, locals := 0 } [.int p0] [] (fun _ : Unit => (some (.int out), [])) := by
  refine Ct.of (by decide) (Nat.le_of_ble_eq_true rfl) ?_
  intro Φ hl hK hR
  subst hl
  have hK : Ok d Φ RX7 "isLetter" cX7_isLetter 1 (some .boolean) { frames := 0, cells := 0, slots := 0, locals := 0 } := hK
  unfold fX7_isLetter at hf
  show J d Φ 1 [] 0 0 0 [(0, .int p0)] []
  refine J_iload_n hK dX7_isLetter_0 rfl 0 rfl rfl ?_
  refine J_bipush (v := 97) hK dX7_isLetter_1 rfl (by decide) ?_
  refine J_icmp_lt (tg := 16) hK dX7_isLetter_3 rfl rfl (fun hc3 => ?_) (fun hc3 => ?_)
  · have hf := ip hc3 hf
    refine J_iconst (v := 0) hK dX7_isLetter_16 rfl (by decide) ?_
    obtain rfl := Option.some.inj hf
    exact J_zret hK hR dX7_isLetter_17 () rfl rfl (by decide) (by decide)
  · have hf := iq hc3 hf
    refine J_iload_n hK dX7_isLetter_6 rfl 0 rfl rfl ?_
    refine J_bipush (v := 122) hK dX7_isLetter_7 rfl (by decide) ?_
    refine J_icmp_gt (tg := 16) hK dX7_isLetter_9 rfl rfl (fun hc9 => ?_) (fun hc9 => ?_)
    · have hf := ip hc9 hf
      refine J_iconst (v := 0) hK dX7_isLetter_16 rfl (by decide) ?_
      obtain rfl := Option.some.inj hf
      exact J_zret hK hR dX7_isLetter_17 () rfl rfl (by decide) (by decide)
    · have hf := iq hc9 hf
      refine J_iconst (v := 1) hK dX7_isLetter_12 rfl (by decide) ?_
      refine J_goto hK dX7_isLetter_13 (n := 17) rfl ?_
      obtain rfl := Option.some.inj hf
      exact J_zret hK hR dX7_isLetter_17 () rfl rfl (by decide) (by decide)

def fX7_isDigit (p0 : Int32) : Option (Int32) :=
  if p0 < 48 then (some (0)) else (if 57 < p0 then (some (0)) else (some (1)))
set_option maxHeartbeats 4000000 in
set_option maxRecDepth 100000 in
theorem kX7_isDigit (l : Launch) (d : DT)  (p0 : Int32)  {out : Int32} (hf : fX7_isDigit p0 = some out) : Ct l d yX7_isDigit cX7_isDigit 1 (some .boolean) { frames := 0, cells := 0, slots := 0, locals := 0 } [.int p0] [] (fun _ : Unit => (some (.int out), [])) := by
  refine Ct.of (by decide) (Nat.le_of_ble_eq_true rfl) ?_
  intro Φ hl hK hR
  subst hl
  have hK : Ok d Φ RX7 "isDigit" cX7_isDigit 1 (some .boolean) { frames := 0, cells := 0, slots := 0, locals := 0 } := hK
  unfold fX7_isDigit at hf
  show J d Φ 1 [] 0 0 0 [(0, .int p0)] []
  refine J_iload_n hK dX7_isDigit_0 rfl 0 rfl rfl ?_
  refine J_bipush (v := 48) hK dX7_isDigit_1 rfl (by decide) ?_
  refine J_icmp_lt (tg := 16) hK dX7_isDigit_3 rfl rfl (fun hc3 => ?_) (fun hc3 => ?_)
  · have hf := ip hc3 hf
    refine J_iconst (v := 0) hK dX7_isDigit_16 rfl (by decide) ?_
    obtain rfl := Option.some.inj hf
    exact J_zret hK hR dX7_isDigit_17 () rfl rfl (by decide) (by decide)
  · have hf := iq hc3 hf
    refine J_iload_n hK dX7_isDigit_6 rfl 0 rfl rfl ?_
    refine J_bipush (v := 57) hK dX7_isDigit_7 rfl (by decide) ?_
    refine J_icmp_gt (tg := 16) hK dX7_isDigit_9 rfl rfl (fun hc9 => ?_) (fun hc9 => ?_)
    · have hf := ip hc9 hf
      refine J_iconst (v := 0) hK dX7_isDigit_16 rfl (by decide) ?_
      obtain rfl := Option.some.inj hf
      exact J_zret hK hR dX7_isDigit_17 () rfl rfl (by decide) (by decide)
    · have hf := iq hc9 hf
      refine J_iconst (v := 1) hK dX7_isDigit_12 rfl (by decide) ?_
      refine J_goto hK dX7_isDigit_13 (n := 17) rfl ?_
      obtain rfl := Option.some.inj hf
      exact J_zret hK hR dX7_isDigit_17 () rfl rfl (by decide) (by decide)

def fX7_look_j254 (w4 : Int32) (y12 : Int32) : Option (Int32 × Int32 × Int32 × Int64) :=
  some ((w4 + 1), y12, w4, (0 : Int64))
def fX7_look_j218 (z14 : Int32) (y22 : Int64) : Option ((Int32 × Int64) ⊕ (Int32 × Int64)) :=
  some (.inl ((z14 + 1), y22))
def fX7_look_s149 (x0_tape : (Nat → Int32)) (x0_tapeSize : Int32) (w4 : Int32) (z14 : Int32) (z15 : Int64) : Option ((Int32 × Int64) ⊕ (Int32 × Int64)) :=
  if x0_tapeSize ≤ z14 then (some (.inr (z14, z15))) else ((rd 250 x0_tape z14).bind fun v19 => (fX7_isDigit v19).bind (fun v20 => if v20 = 0 then (some (.inr (z14, z15))) else (if 3 ≤ (z14 - w4) then (fX7_look_j218 z14 (100000 : Int64)) else ((rd 250 x0_tape z14).bind fun v23 => fX7_look_j218 z14 (((z15 * (10 : Int64)) + (v23).toInt64) - (48 : Int64))))))
def fX7_look_s90 (x0_tape : (Nat → Int32)) (x0_tapeSize : Int32) (z25 : Int32) : Option ((Int32) ⊕ (Int32)) :=
  if x0_tapeSize ≤ z25 then (some (.inr z25)) else ((rd 250 x0_tape z25).bind fun v28 => (fX7_isLetter v28).bind (fun v29 => if v29 = 0 then (some (.inr z25)) else (some (.inl (z25 + 1)))))
def fX7_look_s0 (x0_tape : (Nat → Int32)) (x0_tapeSize : Int32) (z2 : Int32) : Option ((Int32) ⊕ (Int32)) :=
  if x0_tapeSize ≤ z2 then (some (.inr z2)) else ((rd 250 x0_tape z2).bind fun v31 => if v31 = 32 then (some (.inl (z2 + 1))) else (some (.inr z2)))
def fX7_look (n : Nat) (X0 : MdT) : Option (Int32 × Int32 × Int32 × Int64) :=
  u35 (fun (x0_shelf : (Nat → Int32)) (x0_rowSort : (Nat → Int32)) (x0_rowSize : (Nat → Int32)) (x0_rows : (Nat → Nat → Int64)) (x0_moved : (Nat → Int64)) (x0_shown : (Nat → Int32)) (x0_tape : (Nat → Int32)) (x0_tapeSize : Int32) (x0_refused : (Nat → Int32)) (x0_lines : Int32) (x0_line : (Nat → Nat → Int32)) (x0_changes : (Nat → Int32)) (x0_coins : (Nat → Int32)) (x0_goods : Int32) (x0_good : (Nat → Nat → Int32)) (x0_works : Int32) (x0_work : (Nat → Nat → Int32)) (x0_years : Int32) (x0_gone : Int32) (x0_spent : Int32) (x0_at : Int32) (x0_token : Int32) (x0_from : Int32) (x0_figures : Int64) (x0_fault : Int32) (x0_numbers : (Nat → Int32)) (x0_statements : Int32) (x0_left : (Nat → Int32)) (x0_far : (Nat → Int32)) (x0_tons : Int32) (x0_way : (Nat → Int32)) (x0_steps : Int32) (x0_met : Int64) (x0_queue : (Nat → Int32)) (x0_totals : (Nat → Int32)) => (lp (fX7_look_s0 x0_tape x0_tapeSize) n x0_at).bind (fun w4 => if w4 = x0_tapeSize then (some (w4, 0, w4, (0 : Int64))) else ((rd 250 x0_tape w4).bind fun v5 => (fX7_isLetter v5).bind (fun v6 => if v6 = 0 then ((rd 250 x0_tape w4).bind fun v8 => (fX7_isDigit v8).bind (fun v9 => if v9 = 0 then ((rd 250 x0_tape w4).bind fun v11 => if v11 = 59 then (fX7_look_j254 w4 (3)) else (fX7_look_j254 w4 (4))) else ((lp (u2 (fX7_look_s149 x0_tape x0_tapeSize w4)) n (w4, (0 : Int64))).bind (u2 fun w17 w18 => some (w17, 2, w4, w18))))) else ((lp (fX7_look_s90 x0_tape x0_tapeSize) n w4).bind (fun w27 => some (w27, 1, w4, (0 : Int64)))))))) X0
set_option maxHeartbeats 4000000 in
set_option maxRecDepth 100000 in
theorem kX7_look (l : Launch) (d : DT) (h0 : Nat → Nat) (r0_rows : Nat → Nat) (r0_line : Nat → Nat) (r0_good : Nat → Nat) (r0_work : Nat → Nat) (a0_kept : Option Nat) (a0_tried : Option Nat) (a0_chosen : Option Nat) (n : Nat) (x0_shelf : (Nat → Int32)) (x0_rowSort : (Nat → Int32)) (x0_rowSize : (Nat → Int32)) (x0_rows : (Nat → Nat → Int64)) (x0_moved : (Nat → Int64)) (x0_shown : (Nat → Int32)) (x0_tape : (Nat → Int32)) (x0_tapeSize : Int32) (x0_refused : (Nat → Int32)) (x0_lines : Int32) (x0_line : (Nat → Nat → Int32)) (x0_changes : (Nat → Int32)) (x0_coins : (Nat → Int32)) (x0_goods : Int32) (x0_good : (Nat → Nat → Int32)) (x0_works : Int32) (x0_work : (Nat → Nat → Int32)) (x0_years : Int32) (x0_gone : Int32) (x0_spent : Int32) (x0_at : Int32) (x0_token : Int32) (x0_from : Int32) (x0_figures : Int64) (x0_fault : Int32) (x0_numbers : (Nat → Int32)) (x0_statements : Int32) (x0_left : (Nat → Int32)) (x0_far : (Nat → Int32)) (x0_tons : Int32) (x0_way : (Nat → Int32)) (x0_steps : Int32) (x0_met : Int64) (x0_queue : (Nat → Int32)) (x0_totals : (Nat → Int32))  {out : Int32 × Int32 × Int32 × Int64} (hf : fX7_look n (x0_shelf, x0_rowSort, x0_rowSize, x0_rows, x0_moved, x0_shown, x0_tape, x0_tapeSize, x0_refused, x0_lines, x0_line, x0_changes, x0_coins, x0_goods, x0_good, x0_works, x0_work, x0_years, x0_gone, x0_spent, x0_at, x0_token, x0_from, x0_figures, x0_fault, x0_numbers, x0_statements, x0_left, x0_far, x0_tons, x0_way, x0_steps, x0_met, x0_queue, x0_totals) = some out) : Ct l d yX7_look cX7_look 1 none { frames := 1, cells := 0, slots := 0, locals := 20 } [.ref (h0 0)] [gMd d h0 a0_kept a0_tried a0_chosen r0_rows r0_line r0_good r0_work x0_shelf x0_rowSort x0_rowSize x0_moved x0_shown x0_tape x0_tapeSize x0_refused x0_lines x0_changes x0_coins x0_goods x0_works x0_years x0_gone x0_spent x0_at x0_token x0_from x0_figures x0_fault x0_numbers x0_statements x0_left x0_far x0_tons x0_way x0_steps x0_met x0_queue x0_totals] (fun _ : Unit => (none, [gMd d h0 a0_kept a0_tried a0_chosen r0_rows r0_line r0_good r0_work x0_shelf x0_rowSort x0_rowSize x0_moved x0_shown x0_tape x0_tapeSize x0_refused x0_lines x0_changes x0_coins x0_goods x0_works x0_years x0_gone x0_spent (out.1) (out.2.1) (out.2.2.1) (out.2.2.2) x0_fault x0_numbers x0_statements x0_left x0_far x0_tons x0_way x0_steps x0_met x0_queue x0_totals])) := by
  refine Ct.of (by decide) (Nat.le_of_ble_eq_true rfl) ?_
  intro Φ hl hK hR
  subst hl
  have hK : Ok d Φ RX7 "look" cX7_look 1 none { frames := 1, cells := 0, slots := 0, locals := 20 } := hK
  unfold fX7_look at hf
  have hf := un35 hf
  show J d Φ 1 [gMd d h0 a0_kept a0_tried a0_chosen r0_rows r0_line r0_good r0_work x0_shelf x0_rowSort x0_rowSize x0_moved x0_shown x0_tape x0_tapeSize x0_refused x0_lines x0_changes x0_coins x0_goods x0_works x0_years x0_gone x0_spent x0_at x0_token x0_from x0_figures x0_fault x0_numbers x0_statements x0_left x0_far x0_tons x0_way x0_steps x0_met x0_queue x0_totals] 0 0 0 [(0, .ref (h0 0))] []
  obtain ⟨e3, hl1, hf⟩ := bs hf
  have hx1_38 : ∀ (w4 : Int32), w4 = e3 → J d Φ 1 [gMd d h0 a0_kept a0_tried a0_chosen r0_rows r0_line r0_good r0_work x0_shelf x0_rowSort x0_rowSize x0_moved x0_shown x0_tape x0_tapeSize x0_refused x0_lines x0_changes x0_coins x0_goods x0_works x0_years x0_gone x0_spent w4 x0_token x0_from x0_figures x0_fault x0_numbers x0_statements x0_left x0_far x0_tons x0_way x0_steps x0_met x0_queue x0_totals] 0 0 38 [(0, .ref (h0 0))] [] := by
    intro w4 he
    rw [← he] at hf
    refine J_aload_n hK dX7_look_38 rfl 0 rfl rfl ?_
    refine J_aload_n hK dX7_look_39 rfl 0 rfl rfl ?_
    refine J_get hK fo_RX7_149 dX7_look_40 rfl 0 0 rfl rfl rfl ?_
    refine J_put (g' := gMd d h0 a0_kept a0_tried a0_chosen r0_rows r0_line r0_good r0_work x0_shelf x0_rowSort x0_rowSize x0_moved x0_shown x0_tape x0_tapeSize x0_refused x0_lines x0_changes x0_coins x0_goods x0_works x0_years x0_gone x0_spent w4 x0_token w4 x0_figures x0_fault x0_numbers x0_statements x0_left x0_far x0_tons x0_way x0_steps x0_met x0_queue x0_totals) (gs' := [gMd d h0 a0_kept a0_tried a0_chosen r0_rows r0_line r0_good r0_work x0_shelf x0_rowSort x0_rowSize x0_moved x0_shown x0_tape x0_tapeSize x0_refused x0_lines x0_changes x0_coins x0_goods x0_works x0_years x0_gone x0_spent w4 x0_token w4 x0_figures x0_fault x0_numbers x0_statements x0_left x0_far x0_tons x0_way x0_steps x0_met x0_queue x0_totals]) hK fp_RX7_152 dX7_look_43 rfl 0 0 rfl rfl rfl rfl (Nat.le_of_ble_eq_true rfl) rfl rfl ?_
    refine J_aload_n hK dX7_look_46 rfl 0 rfl rfl ?_
    refine J_lconst (v := 0) hK dX7_look_47 rfl (by decide) ?_
    refine J_put (g' := gMd d h0 a0_kept a0_tried a0_chosen r0_rows r0_line r0_good r0_work x0_shelf x0_rowSort x0_rowSize x0_moved x0_shown x0_tape x0_tapeSize x0_refused x0_lines x0_changes x0_coins x0_goods x0_works x0_years x0_gone x0_spent w4 x0_token w4 (0 : Int64) x0_fault x0_numbers x0_statements x0_left x0_far x0_tons x0_way x0_steps x0_met x0_queue x0_totals) (gs' := [gMd d h0 a0_kept a0_tried a0_chosen r0_rows r0_line r0_good r0_work x0_shelf x0_rowSort x0_rowSize x0_moved x0_shown x0_tape x0_tapeSize x0_refused x0_lines x0_changes x0_coins x0_goods x0_works x0_years x0_gone x0_spent w4 x0_token w4 (0 : Int64) x0_fault x0_numbers x0_statements x0_left x0_far x0_tons x0_way x0_steps x0_met x0_queue x0_totals]) hK fp_RX7_155 dX7_look_48 rfl 0 0 rfl rfl rfl rfl (Nat.le_of_ble_eq_true rfl) rfl rfl ?_
    refine J_aload_n hK dX7_look_51 rfl 0 rfl rfl ?_
    refine J_get hK fo_RX7_149 dX7_look_52 rfl 0 0 rfl rfl rfl ?_
    refine J_aload_n hK dX7_look_55 rfl 0 rfl rfl ?_
    refine J_get hK fo_RX7_146 dX7_look_56 rfl 0 0 rfl rfl rfl ?_
    refine J_icmp_ne (tg := 70) hK dX7_look_59 rfl rfl (fun hc59 => ?_) (fun hc59 => ?_)
    · have hf := iq hc59 hf
      refine J_aload_n hK dX7_look_70 rfl 0 rfl rfl ?_
      refine J_get hK fo_RX7_31 dX7_look_71 rfl 0 0 rfl rfl rfl ?_
      refine J_aload_n hK dX7_look_74 rfl 0 rfl rfl ?_
      refine J_get hK fo_RX7_149 dX7_look_75 rfl 0 0 rfl rfl rfl ?_
      obtain ⟨v5, ev5, hf⟩ := bs hf
      refine J_iald hK dX7_look_78 rfl 0 7 rfl rfl ev5 ?_
      obtain ⟨v6, e7, hf⟩ := bs hf
      refine J_callS (m' := 1) (ce' := 0) (sl' := 0) (gr := [gMd d h0 a0_kept a0_tried a0_chosen r0_rows r0_line r0_good r0_work x0_shelf x0_rowSort x0_rowSize x0_moved x0_shown x0_tape x0_tapeSize x0_refused x0_lines x0_changes x0_coins x0_goods x0_works x0_years x0_gone x0_spent w4 x0_token w4 (0 : Int64) x0_fault x0_numbers x0_statements x0_left x0_far x0_tons x0_way x0_steps x0_met x0_queue x0_totals]) (gs' := fun _ => [gMd d h0 a0_kept a0_tried a0_chosen r0_rows r0_line r0_good r0_work x0_shelf x0_rowSort x0_rowSize x0_moved x0_shown x0_tape x0_tapeSize x0_refused x0_lines x0_changes x0_coins x0_goods x0_works x0_years x0_gone x0_spent w4 x0_token w4 (0 : Int64) x0_fault x0_numbers x0_statements x0_left x0_far x0_tons x0_way x0_steps x0_met x0_queue x0_totals]) (st' := fun _ => [.int v6]) (st := []) hK dX7_look_79 cv_RX7_162 ws_yX7_isLetter (As := [.int v5]) (kX7_isLetter _ d v5 e7) rfl rfl (Nat.le_of_ble_eq_true rfl) (by decide) [] [0] rfl rfl rfl rfl [0] rfl (fun _ => rfl) (fun _ => rfl) rfl rfl rfl (fun _ => rfl) (fun _ => ?_)
      refine J_if_eq (tg := 129) hK dX7_look_82 rfl rfl (fun hc82 => ?_) (fun hc82 => ?_)
      · have hf := ip hc82 hf
        refine J_aload_n hK dX7_look_129 rfl 0 rfl rfl ?_
        refine J_get hK fo_RX7_31 dX7_look_130 rfl 0 0 rfl rfl rfl ?_
        refine J_aload_n hK dX7_look_133 rfl 0 rfl rfl ?_
        refine J_get hK fo_RX7_149 dX7_look_134 rfl 0 0 rfl rfl rfl ?_
        obtain ⟨v8, ev8, hf⟩ := bs hf
        refine J_iald hK dX7_look_137 rfl 0 7 rfl rfl ev8 ?_
        obtain ⟨v9, e10, hf⟩ := bs hf
        refine J_callS (m' := 1) (ce' := 0) (sl' := 0) (gr := [gMd d h0 a0_kept a0_tried a0_chosen r0_rows r0_line r0_good r0_work x0_shelf x0_rowSort x0_rowSize x0_moved x0_shown x0_tape x0_tapeSize x0_refused x0_lines x0_changes x0_coins x0_goods x0_works x0_years x0_gone x0_spent w4 x0_token w4 (0 : Int64) x0_fault x0_numbers x0_statements x0_left x0_far x0_tons x0_way x0_steps x0_met x0_queue x0_totals]) (gs' := fun _ => [gMd d h0 a0_kept a0_tried a0_chosen r0_rows r0_line r0_good r0_work x0_shelf x0_rowSort x0_rowSize x0_moved x0_shown x0_tape x0_tapeSize x0_refused x0_lines x0_changes x0_coins x0_goods x0_works x0_years x0_gone x0_spent w4 x0_token w4 (0 : Int64) x0_fault x0_numbers x0_statements x0_left x0_far x0_tons x0_way x0_steps x0_met x0_queue x0_totals]) (st' := fun _ => [.int v9]) (st := []) hK dX7_look_138 cv_RX7_165 ws_yX7_isDigit (As := [.int v8]) (kX7_isDigit _ d v8 e10) rfl rfl (Nat.le_of_ble_eq_true rfl) (by decide) [] [0] rfl rfl rfl rfl [0] rfl (fun _ => rfl) (fun _ => rfl) rfl rfl rfl (fun _ => rfl) (fun _ => ?_)
        refine J_if_eq (tg := 234) hK dX7_look_141 rfl rfl (fun hc141 => ?_) (fun hc141 => ?_)
        · have hf := ip hc141 hf
          refine J_aload_n hK dX7_look_234 rfl 0 rfl rfl ?_
          refine J_aload_n hK dX7_look_235 rfl 0 rfl rfl ?_
          refine J_get hK fo_RX7_31 dX7_look_236 rfl 0 0 rfl rfl rfl ?_
          refine J_aload_n hK dX7_look_239 rfl 0 rfl rfl ?_
          refine J_get hK fo_RX7_149 dX7_look_240 rfl 0 0 rfl rfl rfl ?_
          obtain ⟨v11, ev11, hf⟩ := bs hf
          refine J_iald hK dX7_look_243 rfl 0 7 rfl rfl ev11 ?_
          refine J_bipush (v := 59) hK dX7_look_244 rfl (by decide) ?_
          have j254 : ∀ (y12 : Int32), fX7_look_j254 w4 y12 = some out → J d Φ 1 [gMd d h0 a0_kept a0_tried a0_chosen r0_rows r0_line r0_good r0_work x0_shelf x0_rowSort x0_rowSize x0_moved x0_shown x0_tape x0_tapeSize x0_refused x0_lines x0_changes x0_coins x0_goods x0_works x0_years x0_gone x0_spent w4 x0_token w4 (0 : Int64) x0_fault x0_numbers x0_statements x0_left x0_far x0_tons x0_way x0_steps x0_met x0_queue x0_totals] 0 0 254 [(0, .ref (h0 0))] [.int y12, .ref (h0 0)] := by
            intro y12 hf
            unfold fX7_look_j254 at hf
            refine J_put (g' := gMd d h0 a0_kept a0_tried a0_chosen r0_rows r0_line r0_good r0_work x0_shelf x0_rowSort x0_rowSize x0_moved x0_shown x0_tape x0_tapeSize x0_refused x0_lines x0_changes x0_coins x0_goods x0_works x0_years x0_gone x0_spent w4 y12 w4 (0 : Int64) x0_fault x0_numbers x0_statements x0_left x0_far x0_tons x0_way x0_steps x0_met x0_queue x0_totals) (gs' := [gMd d h0 a0_kept a0_tried a0_chosen r0_rows r0_line r0_good r0_work x0_shelf x0_rowSort x0_rowSize x0_moved x0_shown x0_tape x0_tapeSize x0_refused x0_lines x0_changes x0_coins x0_goods x0_works x0_years x0_gone x0_spent w4 y12 w4 (0 : Int64) x0_fault x0_numbers x0_statements x0_left x0_far x0_tons x0_way x0_steps x0_met x0_queue x0_totals]) hK fp_RX7_159 dX7_look_254 rfl 0 0 rfl rfl rfl rfl (Nat.le_of_ble_eq_true rfl) rfl rfl ?_
            refine J_aload_n hK dX7_look_257 rfl 0 rfl rfl ?_
            refine J_dup hK dX7_look_258 rfl rfl ?_
            refine J_get hK fo_RX7_149 dX7_look_259 rfl 0 0 rfl rfl rfl ?_
            refine J_iconst (v := 1) hK dX7_look_262 rfl (by decide) ?_
            refine J_iadd hK dX7_look_263 rfl ?_
            refine J_put (g' := gMd d h0 a0_kept a0_tried a0_chosen r0_rows r0_line r0_good r0_work x0_shelf x0_rowSort x0_rowSize x0_moved x0_shown x0_tape x0_tapeSize x0_refused x0_lines x0_changes x0_coins x0_goods x0_works x0_years x0_gone x0_spent (w4 + 1) y12 w4 (0 : Int64) x0_fault x0_numbers x0_statements x0_left x0_far x0_tons x0_way x0_steps x0_met x0_queue x0_totals) (gs' := [gMd d h0 a0_kept a0_tried a0_chosen r0_rows r0_line r0_good r0_work x0_shelf x0_rowSort x0_rowSize x0_moved x0_shown x0_tape x0_tapeSize x0_refused x0_lines x0_changes x0_coins x0_goods x0_works x0_years x0_gone x0_spent (w4 + 1) y12 w4 (0 : Int64) x0_fault x0_numbers x0_statements x0_left x0_far x0_tons x0_way x0_steps x0_met x0_queue x0_totals]) hK fp_RX7_149 dX7_look_264 rfl 0 0 rfl rfl rfl rfl (Nat.le_of_ble_eq_true rfl) rfl rfl ?_
            obtain rfl := Option.some.inj hf
            exact J_vret hK hR dX7_look_267 () rfl (by decide) (by decide)
          refine J_icmp_ne (tg := 253) hK dX7_look_246 rfl rfl (fun hc246 => ?_) (fun hc246 => ?_)
          · have hf := iq hc246 hf
            refine J_iconst (v := 4) hK dX7_look_253 rfl (by decide) ?_
            exact (j254 (4) hf)
          · have hf := ip hc246 hf
            refine J_iconst (v := 3) hK dX7_look_249 rfl (by decide) ?_
            refine J_goto hK dX7_look_250 (n := 254) rfl ?_
            exact (j254 (3) hf)
        · have hf := iq hc141 hf
          refine J_aload_n hK dX7_look_144 rfl 0 rfl rfl ?_
          refine J_iconst (v := 2) hK dX7_look_145 rfl (by decide) ?_
          refine J_put (g' := gMd d h0 a0_kept a0_tried a0_chosen r0_rows r0_line r0_good r0_work x0_shelf x0_rowSort x0_rowSize x0_moved x0_shown x0_tape x0_tapeSize x0_refused x0_lines x0_changes x0_coins x0_goods x0_works x0_years x0_gone x0_spent w4 (2) w4 (0 : Int64) x0_fault x0_numbers x0_statements x0_left x0_far x0_tons x0_way x0_steps x0_met x0_queue x0_totals) (gs' := [gMd d h0 a0_kept a0_tried a0_chosen r0_rows r0_line r0_good r0_work x0_shelf x0_rowSort x0_rowSize x0_moved x0_shown x0_tape x0_tapeSize x0_refused x0_lines x0_changes x0_coins x0_goods x0_works x0_years x0_gone x0_spent w4 (2) w4 (0 : Int64) x0_fault x0_numbers x0_statements x0_left x0_far x0_tons x0_way x0_steps x0_met x0_queue x0_totals]) hK fp_RX7_159 dX7_look_146 rfl 0 0 rfl rfl rfl rfl (Nat.le_of_ble_eq_true rfl) rfl rfl ?_
          obtain ⟨e16, hl13, hf⟩ := bs hf
          have hx13_267 : ∀ (w17 : Int32) (w18 : Int64), (w17, w18) = e16 → J d Φ 1 [gMd d h0 a0_kept a0_tried a0_chosen r0_rows r0_line r0_good r0_work x0_shelf x0_rowSort x0_rowSize x0_moved x0_shown x0_tape x0_tapeSize x0_refused x0_lines x0_changes x0_coins x0_goods x0_works x0_years x0_gone x0_spent w17 (2) w4 w18 x0_fault x0_numbers x0_statements x0_left x0_far x0_tons x0_way x0_steps x0_met x0_queue x0_totals] 0 0 267 [] [] := by
            intro w17 w18 he
            rw [← he] at hf
            have hf := un2 hf
            obtain rfl := Option.some.inj hf
            exact J_vret hK hR dX7_look_267 () rfl (by decide) (by decide)
          have lo13 : ∀ (k : Nat) (z14 : Int32) (z15 : Int64), lp (u2 (fX7_look_s149 x0_tape x0_tapeSize w4)) k (z14, z15) = some e16 → J d Φ 1 [gMd d h0 a0_kept a0_tried a0_chosen r0_rows r0_line r0_good r0_work x0_shelf x0_rowSort x0_rowSize x0_moved x0_shown x0_tape x0_tapeSize x0_refused x0_lines x0_changes x0_coins x0_goods x0_works x0_years x0_gone x0_spent z14 (2) w4 z15 x0_fault x0_numbers x0_statements x0_left x0_far x0_tons x0_way x0_steps x0_met x0_queue x0_totals] 0 0 149 [(0, .ref (h0 0))] [] := by
            intro k
            induction k with
            | zero => intro z14 z15 h; cases h
            | succ k ih13 =>
              intro z14 z15 h
              obtain ⟨k2, rr13, hk2, hs13, hr13⟩ := lp_ok h
              cases hk2
              have hs13 : fX7_look_s149 x0_tape x0_tapeSize w4 z14 z15 = some rr13 := hs13
              unfold fX7_look_s149 at hs13
              refine J_aload_n hK dX7_look_149 rfl 0 rfl rfl ?_
              refine J_get hK fo_RX7_149 dX7_look_150 rfl 0 0 rfl rfl rfl ?_
              refine J_aload_n hK dX7_look_153 rfl 0 rfl rfl ?_
              refine J_get hK fo_RX7_146 dX7_look_154 rfl 0 0 rfl rfl rfl ?_
              refine J_icmp_ge (tg := 267) hK dX7_look_157 rfl rfl (fun hc157 => ?_) (fun hc157 => ?_)
              · have hs13 := ip hc157 hs13
                exact J_loc [] rfl (hx13_267 z14 z15 (lpx hs13 hr13))
              · have hs13 := iq hc157 hs13
                refine J_aload_n hK dX7_look_160 rfl 0 rfl rfl ?_
                refine J_get hK fo_RX7_31 dX7_look_161 rfl 0 0 rfl rfl rfl ?_
                refine J_aload_n hK dX7_look_164 rfl 0 rfl rfl ?_
                refine J_get hK fo_RX7_149 dX7_look_165 rfl 0 0 rfl rfl rfl ?_
                obtain ⟨v19, ev19, hs13⟩ := bs hs13
                refine J_iald hK dX7_look_168 rfl 0 7 rfl rfl ev19 ?_
                obtain ⟨v20, e21, hs13⟩ := bs hs13
                refine J_callS (m' := 1) (ce' := 0) (sl' := 0) (gr := [gMd d h0 a0_kept a0_tried a0_chosen r0_rows r0_line r0_good r0_work x0_shelf x0_rowSort x0_rowSize x0_moved x0_shown x0_tape x0_tapeSize x0_refused x0_lines x0_changes x0_coins x0_goods x0_works x0_years x0_gone x0_spent z14 (2) w4 z15 x0_fault x0_numbers x0_statements x0_left x0_far x0_tons x0_way x0_steps x0_met x0_queue x0_totals]) (gs' := fun _ => [gMd d h0 a0_kept a0_tried a0_chosen r0_rows r0_line r0_good r0_work x0_shelf x0_rowSort x0_rowSize x0_moved x0_shown x0_tape x0_tapeSize x0_refused x0_lines x0_changes x0_coins x0_goods x0_works x0_years x0_gone x0_spent z14 (2) w4 z15 x0_fault x0_numbers x0_statements x0_left x0_far x0_tons x0_way x0_steps x0_met x0_queue x0_totals]) (st' := fun _ => [.int v20]) (st := []) hK dX7_look_169 cv_RX7_165 ws_yX7_isDigit (As := [.int v19]) (kX7_isDigit _ d v19 e21) rfl rfl (Nat.le_of_ble_eq_true rfl) (by decide) [] [0] rfl rfl rfl rfl [0] rfl (fun _ => rfl) (fun _ => rfl) rfl rfl rfl (fun _ => rfl) (fun _ => ?_)
                refine J_if_eq (tg := 267) hK dX7_look_172 rfl rfl (fun hc172 => ?_) (fun hc172 => ?_)
                · have hs13 := ip hc172 hs13
                  exact J_loc [] rfl (hx13_267 z14 z15 (lpx hs13 hr13))
                · have hs13 := iq hc172 hs13
                  refine J_aload_n hK dX7_look_175 rfl 0 rfl rfl ?_
                  refine J_aload_n hK dX7_look_176 rfl 0 rfl rfl ?_
                  refine J_get hK fo_RX7_149 dX7_look_177 rfl 0 0 rfl rfl rfl ?_
                  refine J_aload_n hK dX7_look_180 rfl 0 rfl rfl ?_
                  refine J_get hK fo_RX7_152 dX7_look_181 rfl 0 0 rfl rfl rfl ?_
                  refine J_isub hK dX7_look_184 rfl ?_
                  refine J_iconst (v := 3) hK dX7_look_185 rfl (by decide) ?_
                  have j218 : ∀ (y22 : Int64), fX7_look_j218 z14 y22 = some rr13 → J d Φ 1 [gMd d h0 a0_kept a0_tried a0_chosen r0_rows r0_line r0_good r0_work x0_shelf x0_rowSort x0_rowSize x0_moved x0_shown x0_tape x0_tapeSize x0_refused x0_lines x0_changes x0_coins x0_goods x0_works x0_years x0_gone x0_spent z14 (2) w4 z15 x0_fault x0_numbers x0_statements x0_left x0_far x0_tons x0_way x0_steps x0_met x0_queue x0_totals] 0 0 218 [(0, .ref (h0 0))] [.long y22, .ref (h0 0)] := by
                    intro y22 hs13
                    unfold fX7_look_j218 at hs13
                    refine J_put (g' := gMd d h0 a0_kept a0_tried a0_chosen r0_rows r0_line r0_good r0_work x0_shelf x0_rowSort x0_rowSize x0_moved x0_shown x0_tape x0_tapeSize x0_refused x0_lines x0_changes x0_coins x0_goods x0_works x0_years x0_gone x0_spent z14 (2) w4 y22 x0_fault x0_numbers x0_statements x0_left x0_far x0_tons x0_way x0_steps x0_met x0_queue x0_totals) (gs' := [gMd d h0 a0_kept a0_tried a0_chosen r0_rows r0_line r0_good r0_work x0_shelf x0_rowSort x0_rowSize x0_moved x0_shown x0_tape x0_tapeSize x0_refused x0_lines x0_changes x0_coins x0_goods x0_works x0_years x0_gone x0_spent z14 (2) w4 y22 x0_fault x0_numbers x0_statements x0_left x0_far x0_tons x0_way x0_steps x0_met x0_queue x0_totals]) hK fp_RX7_155 dX7_look_218 rfl 0 0 rfl rfl rfl rfl (Nat.le_of_ble_eq_true rfl) rfl rfl ?_
                    refine J_aload_n hK dX7_look_221 rfl 0 rfl rfl ?_
                    refine J_dup hK dX7_look_222 rfl rfl ?_
                    refine J_get hK fo_RX7_149 dX7_look_223 rfl 0 0 rfl rfl rfl ?_
                    refine J_iconst (v := 1) hK dX7_look_226 rfl (by decide) ?_
                    refine J_iadd hK dX7_look_227 rfl ?_
                    refine J_put (g' := gMd d h0 a0_kept a0_tried a0_chosen r0_rows r0_line r0_good r0_work x0_shelf x0_rowSort x0_rowSize x0_moved x0_shown x0_tape x0_tapeSize x0_refused x0_lines x0_changes x0_coins x0_goods x0_works x0_years x0_gone x0_spent (z14 + 1) (2) w4 y22 x0_fault x0_numbers x0_statements x0_left x0_far x0_tons x0_way x0_steps x0_met x0_queue x0_totals) (gs' := [gMd d h0 a0_kept a0_tried a0_chosen r0_rows r0_line r0_good r0_work x0_shelf x0_rowSort x0_rowSize x0_moved x0_shown x0_tape x0_tapeSize x0_refused x0_lines x0_changes x0_coins x0_goods x0_works x0_years x0_gone x0_spent (z14 + 1) (2) w4 y22 x0_fault x0_numbers x0_statements x0_left x0_far x0_tons x0_way x0_steps x0_met x0_queue x0_totals]) hK fp_RX7_149 dX7_look_228 rfl 0 0 rfl rfl rfl rfl (Nat.le_of_ble_eq_true rfl) rfl rfl ?_
                    refine J_goto hK dX7_look_231 (n := 149) rfl ?_
                    exact (ih13 (z14 + 1) y22 (lpc hs13 hr13))
                  refine J_icmp_ge (tg := 215) hK dX7_look_186 rfl rfl (fun hc186 => ?_) (fun hc186 => ?_)
                  · have hs13 := ip hc186 hs13
                    refine J_ldc2 (v := (100000 : Int64)) hK dX7_look_215 rfl wk_RX7_172 ?_
                    exact (j218 (100000 : Int64) hs13)
                  · have hs13 := iq hc186 hs13
                    refine J_aload_n hK dX7_look_189 rfl 0 rfl rfl ?_
                    refine J_get hK fo_RX7_155 dX7_look_190 rfl 0 0 rfl rfl rfl ?_
                    refine J_ldc2 (v := (10 : Int64)) hK dX7_look_193 rfl wk_RX7_168 ?_
                    refine J_lmul hK dX7_look_196 rfl ?_
                    refine J_aload_n hK dX7_look_197 rfl 0 rfl rfl ?_
                    refine J_get hK fo_RX7_31 dX7_look_198 rfl 0 0 rfl rfl rfl ?_
                    refine J_aload_n hK dX7_look_201 rfl 0 rfl rfl ?_
                    refine J_get hK fo_RX7_149 dX7_look_202 rfl 0 0 rfl rfl rfl ?_
                    obtain ⟨v23, ev23, hs13⟩ := bs hs13
                    refine J_iald hK dX7_look_205 rfl 0 7 rfl rfl ev23 ?_
                    refine J_i2l hK dX7_look_206 rfl ?_
                    refine J_ladd hK dX7_look_207 rfl ?_
                    refine J_ldc2 (v := (48 : Int64)) hK dX7_look_208 rfl wk_RX7_170 ?_
                    refine J_lsub hK dX7_look_211 rfl ?_
                    refine J_goto hK dX7_look_212 (n := 218) rfl ?_
                    exact (j218 (((z15 * (10 : Int64)) + (v23).toInt64) - (48 : Int64)) hs13)
          exact (lo13 n w4 (0 : Int64) hl13)
      · have hf := iq hc82 hf
        refine J_aload_n hK dX7_look_85 rfl 0 rfl rfl ?_
        refine J_iconst (v := 1) hK dX7_look_86 rfl (by decide) ?_
        refine J_put (g' := gMd d h0 a0_kept a0_tried a0_chosen r0_rows r0_line r0_good r0_work x0_shelf x0_rowSort x0_rowSize x0_moved x0_shown x0_tape x0_tapeSize x0_refused x0_lines x0_changes x0_coins x0_goods x0_works x0_years x0_gone x0_spent w4 (1) w4 (0 : Int64) x0_fault x0_numbers x0_statements x0_left x0_far x0_tons x0_way x0_steps x0_met x0_queue x0_totals) (gs' := [gMd d h0 a0_kept a0_tried a0_chosen r0_rows r0_line r0_good r0_work x0_shelf x0_rowSort x0_rowSize x0_moved x0_shown x0_tape x0_tapeSize x0_refused x0_lines x0_changes x0_coins x0_goods x0_works x0_years x0_gone x0_spent w4 (1) w4 (0 : Int64) x0_fault x0_numbers x0_statements x0_left x0_far x0_tons x0_way x0_steps x0_met x0_queue x0_totals]) hK fp_RX7_159 dX7_look_87 rfl 0 0 rfl rfl rfl rfl (Nat.le_of_ble_eq_true rfl) rfl rfl ?_
        obtain ⟨e26, hl24, hf⟩ := bs hf
        have hx24_267 : ∀ (w27 : Int32), w27 = e26 → J d Φ 1 [gMd d h0 a0_kept a0_tried a0_chosen r0_rows r0_line r0_good r0_work x0_shelf x0_rowSort x0_rowSize x0_moved x0_shown x0_tape x0_tapeSize x0_refused x0_lines x0_changes x0_coins x0_goods x0_works x0_years x0_gone x0_spent w27 (1) w4 (0 : Int64) x0_fault x0_numbers x0_statements x0_left x0_far x0_tons x0_way x0_steps x0_met x0_queue x0_totals] 0 0 267 [] [] := by
          intro w27 he
          rw [← he] at hf
          obtain rfl := Option.some.inj hf
          exact J_vret hK hR dX7_look_267 () rfl (by decide) (by decide)
        have lo24 : ∀ (k : Nat) (z25 : Int32), lp (fX7_look_s90 x0_tape x0_tapeSize) k z25 = some e26 → J d Φ 1 [gMd d h0 a0_kept a0_tried a0_chosen r0_rows r0_line r0_good r0_work x0_shelf x0_rowSort x0_rowSize x0_moved x0_shown x0_tape x0_tapeSize x0_refused x0_lines x0_changes x0_coins x0_goods x0_works x0_years x0_gone x0_spent z25 (1) w4 (0 : Int64) x0_fault x0_numbers x0_statements x0_left x0_far x0_tons x0_way x0_steps x0_met x0_queue x0_totals] 0 0 90 [(0, .ref (h0 0))] [] := by
          intro k
          induction k with
          | zero => intro z25 h; cases h
          | succ k ih24 =>
            intro z25 h
            obtain ⟨k2, rr24, hk2, hs24, hr24⟩ := lp_ok h
            cases hk2
            have hs24 : fX7_look_s90 x0_tape x0_tapeSize z25 = some rr24 := hs24
            unfold fX7_look_s90 at hs24
            refine J_aload_n hK dX7_look_90 rfl 0 rfl rfl ?_
            refine J_get hK fo_RX7_149 dX7_look_91 rfl 0 0 rfl rfl rfl ?_
            refine J_aload_n hK dX7_look_94 rfl 0 rfl rfl ?_
            refine J_get hK fo_RX7_146 dX7_look_95 rfl 0 0 rfl rfl rfl ?_
            refine J_icmp_ge (tg := 267) hK dX7_look_98 rfl rfl (fun hc98 => ?_) (fun hc98 => ?_)
            · have hs24 := ip hc98 hs24
              exact J_loc [] rfl (hx24_267 z25 (lpx hs24 hr24))
            · have hs24 := iq hc98 hs24
              refine J_aload_n hK dX7_look_101 rfl 0 rfl rfl ?_
              refine J_get hK fo_RX7_31 dX7_look_102 rfl 0 0 rfl rfl rfl ?_
              refine J_aload_n hK dX7_look_105 rfl 0 rfl rfl ?_
              refine J_get hK fo_RX7_149 dX7_look_106 rfl 0 0 rfl rfl rfl ?_
              obtain ⟨v28, ev28, hs24⟩ := bs hs24
              refine J_iald hK dX7_look_109 rfl 0 7 rfl rfl ev28 ?_
              obtain ⟨v29, e30, hs24⟩ := bs hs24
              refine J_callS (m' := 1) (ce' := 0) (sl' := 0) (gr := [gMd d h0 a0_kept a0_tried a0_chosen r0_rows r0_line r0_good r0_work x0_shelf x0_rowSort x0_rowSize x0_moved x0_shown x0_tape x0_tapeSize x0_refused x0_lines x0_changes x0_coins x0_goods x0_works x0_years x0_gone x0_spent z25 (1) w4 (0 : Int64) x0_fault x0_numbers x0_statements x0_left x0_far x0_tons x0_way x0_steps x0_met x0_queue x0_totals]) (gs' := fun _ => [gMd d h0 a0_kept a0_tried a0_chosen r0_rows r0_line r0_good r0_work x0_shelf x0_rowSort x0_rowSize x0_moved x0_shown x0_tape x0_tapeSize x0_refused x0_lines x0_changes x0_coins x0_goods x0_works x0_years x0_gone x0_spent z25 (1) w4 (0 : Int64) x0_fault x0_numbers x0_statements x0_left x0_far x0_tons x0_way x0_steps x0_met x0_queue x0_totals]) (st' := fun _ => [.int v29]) (st := []) hK dX7_look_110 cv_RX7_162 ws_yX7_isLetter (As := [.int v28]) (kX7_isLetter _ d v28 e30) rfl rfl (Nat.le_of_ble_eq_true rfl) (by decide) [] [0] rfl rfl rfl rfl [0] rfl (fun _ => rfl) (fun _ => rfl) rfl rfl rfl (fun _ => rfl) (fun _ => ?_)
              refine J_if_eq (tg := 267) hK dX7_look_113 rfl rfl (fun hc113 => ?_) (fun hc113 => ?_)
              · have hs24 := ip hc113 hs24
                exact J_loc [] rfl (hx24_267 z25 (lpx hs24 hr24))
              · have hs24 := iq hc113 hs24
                refine J_aload_n hK dX7_look_116 rfl 0 rfl rfl ?_
                refine J_dup hK dX7_look_117 rfl rfl ?_
                refine J_get hK fo_RX7_149 dX7_look_118 rfl 0 0 rfl rfl rfl ?_
                refine J_iconst (v := 1) hK dX7_look_121 rfl (by decide) ?_
                refine J_iadd hK dX7_look_122 rfl ?_
                refine J_put (g' := gMd d h0 a0_kept a0_tried a0_chosen r0_rows r0_line r0_good r0_work x0_shelf x0_rowSort x0_rowSize x0_moved x0_shown x0_tape x0_tapeSize x0_refused x0_lines x0_changes x0_coins x0_goods x0_works x0_years x0_gone x0_spent (z25 + 1) (1) w4 (0 : Int64) x0_fault x0_numbers x0_statements x0_left x0_far x0_tons x0_way x0_steps x0_met x0_queue x0_totals) (gs' := [gMd d h0 a0_kept a0_tried a0_chosen r0_rows r0_line r0_good r0_work x0_shelf x0_rowSort x0_rowSize x0_moved x0_shown x0_tape x0_tapeSize x0_refused x0_lines x0_changes x0_coins x0_goods x0_works x0_years x0_gone x0_spent (z25 + 1) (1) w4 (0 : Int64) x0_fault x0_numbers x0_statements x0_left x0_far x0_tons x0_way x0_steps x0_met x0_queue x0_totals]) hK fp_RX7_149 dX7_look_123 rfl 0 0 rfl rfl rfl rfl (Nat.le_of_ble_eq_true rfl) rfl rfl ?_
                refine J_goto hK dX7_look_126 (n := 90) rfl ?_
                exact (ih24 (z25 + 1) (lpc hs24 hr24))
        exact (lo24 n w4 hl24)
    · have hf := ip hc59 hf
      refine J_aload_n hK dX7_look_62 rfl 0 rfl rfl ?_
      refine J_iconst (v := 0) hK dX7_look_63 rfl (by decide) ?_
      refine J_put (g' := gMd d h0 a0_kept a0_tried a0_chosen r0_rows r0_line r0_good r0_work x0_shelf x0_rowSort x0_rowSize x0_moved x0_shown x0_tape x0_tapeSize x0_refused x0_lines x0_changes x0_coins x0_goods x0_works x0_years x0_gone x0_spent w4 (0) w4 (0 : Int64) x0_fault x0_numbers x0_statements x0_left x0_far x0_tons x0_way x0_steps x0_met x0_queue x0_totals) (gs' := [gMd d h0 a0_kept a0_tried a0_chosen r0_rows r0_line r0_good r0_work x0_shelf x0_rowSort x0_rowSize x0_moved x0_shown x0_tape x0_tapeSize x0_refused x0_lines x0_changes x0_coins x0_goods x0_works x0_years x0_gone x0_spent w4 (0) w4 (0 : Int64) x0_fault x0_numbers x0_statements x0_left x0_far x0_tons x0_way x0_steps x0_met x0_queue x0_totals]) hK fp_RX7_159 dX7_look_64 rfl 0 0 rfl rfl rfl rfl (Nat.le_of_ble_eq_true rfl) rfl rfl ?_
      refine J_goto hK dX7_look_67 (n := 267) rfl ?_
      obtain rfl := Option.some.inj hf
      exact J_vret hK hR dX7_look_267 () rfl (by decide) (by decide)
  have lo1 : ∀ (k : Nat) (z2 : Int32), lp (fX7_look_s0 x0_tape x0_tapeSize) k z2 = some e3 → J d Φ 1 [gMd d h0 a0_kept a0_tried a0_chosen r0_rows r0_line r0_good r0_work x0_shelf x0_rowSort x0_rowSize x0_moved x0_shown x0_tape x0_tapeSize x0_refused x0_lines x0_changes x0_coins x0_goods x0_works x0_years x0_gone x0_spent z2 x0_token x0_from x0_figures x0_fault x0_numbers x0_statements x0_left x0_far x0_tons x0_way x0_steps x0_met x0_queue x0_totals] 0 0 0 [(0, .ref (h0 0))] [] := by
    intro k
    induction k with
    | zero => intro z2 h; cases h
    | succ k ih1 =>
      intro z2 h
      obtain ⟨k2, rr1, hk2, hs1, hr1⟩ := lp_ok h
      cases hk2
      have hs1 : fX7_look_s0 x0_tape x0_tapeSize z2 = some rr1 := hs1
      unfold fX7_look_s0 at hs1
      refine J_aload_n hK dX7_look_0 rfl 0 rfl rfl ?_
      refine J_get hK fo_RX7_149 dX7_look_1 rfl 0 0 rfl rfl rfl ?_
      refine J_aload_n hK dX7_look_4 rfl 0 rfl rfl ?_
      refine J_get hK fo_RX7_146 dX7_look_5 rfl 0 0 rfl rfl rfl ?_
      refine J_icmp_ge (tg := 38) hK dX7_look_8 rfl rfl (fun hc8 => ?_) (fun hc8 => ?_)
      · have hs1 := ip hc8 hs1
        exact (hx1_38 z2 (lpx hs1 hr1))
      · have hs1 := iq hc8 hs1
        refine J_aload_n hK dX7_look_11 rfl 0 rfl rfl ?_
        refine J_get hK fo_RX7_31 dX7_look_12 rfl 0 0 rfl rfl rfl ?_
        refine J_aload_n hK dX7_look_15 rfl 0 rfl rfl ?_
        refine J_get hK fo_RX7_149 dX7_look_16 rfl 0 0 rfl rfl rfl ?_
        obtain ⟨v31, ev31, hs1⟩ := bs hs1
        refine J_iald hK dX7_look_19 rfl 0 7 rfl rfl ev31 ?_
        refine J_bipush (v := 32) hK dX7_look_20 rfl (by decide) ?_
        refine J_icmp_ne (tg := 38) hK dX7_look_22 rfl rfl (fun hc22 => ?_) (fun hc22 => ?_)
        · have hs1 := iq hc22 hs1
          exact (hx1_38 z2 (lpx hs1 hr1))
        · have hs1 := ip hc22 hs1
          refine J_aload_n hK dX7_look_25 rfl 0 rfl rfl ?_
          refine J_dup hK dX7_look_26 rfl rfl ?_
          refine J_get hK fo_RX7_149 dX7_look_27 rfl 0 0 rfl rfl rfl ?_
          refine J_iconst (v := 1) hK dX7_look_30 rfl (by decide) ?_
          refine J_iadd hK dX7_look_31 rfl ?_
          refine J_put (g' := gMd d h0 a0_kept a0_tried a0_chosen r0_rows r0_line r0_good r0_work x0_shelf x0_rowSort x0_rowSize x0_moved x0_shown x0_tape x0_tapeSize x0_refused x0_lines x0_changes x0_coins x0_goods x0_works x0_years x0_gone x0_spent (z2 + 1) x0_token x0_from x0_figures x0_fault x0_numbers x0_statements x0_left x0_far x0_tons x0_way x0_steps x0_met x0_queue x0_totals) (gs' := [gMd d h0 a0_kept a0_tried a0_chosen r0_rows r0_line r0_good r0_work x0_shelf x0_rowSort x0_rowSize x0_moved x0_shown x0_tape x0_tapeSize x0_refused x0_lines x0_changes x0_coins x0_goods x0_works x0_years x0_gone x0_spent (z2 + 1) x0_token x0_from x0_figures x0_fault x0_numbers x0_statements x0_left x0_far x0_tons x0_way x0_steps x0_met x0_queue x0_totals]) hK fp_RX7_149 dX7_look_32 rfl 0 0 rfl rfl rfl rfl (Nat.le_of_ble_eq_true rfl) rfl rfl ?_
          refine J_goto hK dX7_look_35 (n := 0) rfl ?_
          exact (ih1 (z2 + 1) (lpc hs1 hr1))
  exact (lo1 n x0_at hl1)

def fX7_wrong (X0 : MdT) : Option (Int32 × Int32) :=
  u35 (fun (x0_shelf : (Nat → Int32)) (x0_rowSort : (Nat → Int32)) (x0_rowSize : (Nat → Int32)) (x0_rows : (Nat → Nat → Int64)) (x0_moved : (Nat → Int64)) (x0_shown : (Nat → Int32)) (x0_tape : (Nat → Int32)) (x0_tapeSize : Int32) (x0_refused : (Nat → Int32)) (x0_lines : Int32) (x0_line : (Nat → Nat → Int32)) (x0_changes : (Nat → Int32)) (x0_coins : (Nat → Int32)) (x0_goods : Int32) (x0_good : (Nat → Nat → Int32)) (x0_works : Int32) (x0_work : (Nat → Nat → Int32)) (x0_years : Int32) (x0_gone : Int32) (x0_spent : Int32) (x0_at : Int32) (x0_token : Int32) (x0_from : Int32) (x0_figures : Int64) (x0_fault : Int32) (x0_numbers : (Nat → Int32)) (x0_statements : Int32) (x0_left : (Nat → Int32)) (x0_far : (Nat → Int32)) (x0_tons : Int32) (x0_way : (Nat → Int32)) (x0_steps : Int32) (x0_met : Int64) (x0_queue : (Nat → Int32)) (x0_totals : (Nat → Int32)) => some (0, x0_from)) X0
set_option maxHeartbeats 4000000 in
set_option maxRecDepth 100000 in
theorem kX7_wrong (l : Launch) (d : DT) (h0 : Nat → Nat) (r0_rows : Nat → Nat) (r0_line : Nat → Nat) (r0_good : Nat → Nat) (r0_work : Nat → Nat) (a0_kept : Option Nat) (a0_tried : Option Nat) (a0_chosen : Option Nat) (x0_shelf : (Nat → Int32)) (x0_rowSort : (Nat → Int32)) (x0_rowSize : (Nat → Int32)) (x0_rows : (Nat → Nat → Int64)) (x0_moved : (Nat → Int64)) (x0_shown : (Nat → Int32)) (x0_tape : (Nat → Int32)) (x0_tapeSize : Int32) (x0_refused : (Nat → Int32)) (x0_lines : Int32) (x0_line : (Nat → Nat → Int32)) (x0_changes : (Nat → Int32)) (x0_coins : (Nat → Int32)) (x0_goods : Int32) (x0_good : (Nat → Nat → Int32)) (x0_works : Int32) (x0_work : (Nat → Nat → Int32)) (x0_years : Int32) (x0_gone : Int32) (x0_spent : Int32) (x0_at : Int32) (x0_token : Int32) (x0_from : Int32) (x0_figures : Int64) (x0_fault : Int32) (x0_numbers : (Nat → Int32)) (x0_statements : Int32) (x0_left : (Nat → Int32)) (x0_far : (Nat → Int32)) (x0_tons : Int32) (x0_way : (Nat → Int32)) (x0_steps : Int32) (x0_met : Int64) (x0_queue : (Nat → Int32)) (x0_totals : (Nat → Int32))  {out : Int32 × Int32} (hf : fX7_wrong (x0_shelf, x0_rowSort, x0_rowSize, x0_rows, x0_moved, x0_shown, x0_tape, x0_tapeSize, x0_refused, x0_lines, x0_line, x0_changes, x0_coins, x0_goods, x0_good, x0_works, x0_work, x0_years, x0_gone, x0_spent, x0_at, x0_token, x0_from, x0_figures, x0_fault, x0_numbers, x0_statements, x0_left, x0_far, x0_tons, x0_way, x0_steps, x0_met, x0_queue, x0_totals) = some out) : Ct l d yX7_wrong cX7_wrong 1 (some .boolean) { frames := 0, cells := 0, slots := 0, locals := 0 } [.ref (h0 0)] [gMd d h0 a0_kept a0_tried a0_chosen r0_rows r0_line r0_good r0_work x0_shelf x0_rowSort x0_rowSize x0_moved x0_shown x0_tape x0_tapeSize x0_refused x0_lines x0_changes x0_coins x0_goods x0_works x0_years x0_gone x0_spent x0_at x0_token x0_from x0_figures x0_fault x0_numbers x0_statements x0_left x0_far x0_tons x0_way x0_steps x0_met x0_queue x0_totals] (fun _ : Unit => (some (.int out.1), [gMd d h0 a0_kept a0_tried a0_chosen r0_rows r0_line r0_good r0_work x0_shelf x0_rowSort x0_rowSize x0_moved x0_shown x0_tape x0_tapeSize x0_refused x0_lines x0_changes x0_coins x0_goods x0_works x0_years x0_gone x0_spent x0_at x0_token x0_from x0_figures (out.2) x0_numbers x0_statements x0_left x0_far x0_tons x0_way x0_steps x0_met x0_queue x0_totals])) := by
  refine Ct.of (by decide) (Nat.le_of_ble_eq_true rfl) ?_
  intro Φ hl hK hR
  subst hl
  have hK : Ok d Φ RX7 "wrong" cX7_wrong 1 (some .boolean) { frames := 0, cells := 0, slots := 0, locals := 0 } := hK
  unfold fX7_wrong at hf
  have hf := un35 hf
  show J d Φ 1 [gMd d h0 a0_kept a0_tried a0_chosen r0_rows r0_line r0_good r0_work x0_shelf x0_rowSort x0_rowSize x0_moved x0_shown x0_tape x0_tapeSize x0_refused x0_lines x0_changes x0_coins x0_goods x0_works x0_years x0_gone x0_spent x0_at x0_token x0_from x0_figures x0_fault x0_numbers x0_statements x0_left x0_far x0_tons x0_way x0_steps x0_met x0_queue x0_totals] 0 0 0 [(0, .ref (h0 0))] []
  refine J_aload_n hK dX7_wrong_0 rfl 0 rfl rfl ?_
  refine J_aload_n hK dX7_wrong_1 rfl 0 rfl rfl ?_
  refine J_get hK fo_RX7_152 dX7_wrong_2 rfl 0 0 rfl rfl rfl ?_
  refine J_put (g' := gMd d h0 a0_kept a0_tried a0_chosen r0_rows r0_line r0_good r0_work x0_shelf x0_rowSort x0_rowSize x0_moved x0_shown x0_tape x0_tapeSize x0_refused x0_lines x0_changes x0_coins x0_goods x0_works x0_years x0_gone x0_spent x0_at x0_token x0_from x0_figures x0_from x0_numbers x0_statements x0_left x0_far x0_tons x0_way x0_steps x0_met x0_queue x0_totals) (gs' := [gMd d h0 a0_kept a0_tried a0_chosen r0_rows r0_line r0_good r0_work x0_shelf x0_rowSort x0_rowSize x0_moved x0_shown x0_tape x0_tapeSize x0_refused x0_lines x0_changes x0_coins x0_goods x0_works x0_years x0_gone x0_spent x0_at x0_token x0_from x0_figures x0_from x0_numbers x0_statements x0_left x0_far x0_tons x0_way x0_steps x0_met x0_queue x0_totals]) hK fp_RX7_174 dX7_wrong_5 rfl 0 0 rfl rfl rfl rfl (Nat.le_of_ble_eq_true rfl) rfl rfl ?_
  refine J_iconst (v := 0) hK dX7_wrong_8 rfl (by decide) ?_
  obtain rfl := Option.some.inj hf
  exact J_zret hK hR dX7_wrong_9 () rfl rfl (by decide) (by decide)

def fX7_isWord_s28 (p1 : Nat) (x0_tape : (Nat → Int32)) (x0_from : Int32) (z3 : Int32) : Option ((Int32) ⊕ (((Unit) ⊕ (Unit)))) :=
  (slen p1).bind fun v5 => if v5 ≤ z3 then (some (.inr (.inr ()))) else ((rd 250 x0_tape (x0_from + z3)).bind fun v6 => (schar p1 z3).bind fun v7 => if v6 = v7 then (some (.inl (z3 + 1))) else (some (.inr (.inl ()))))
def fX7_isWord (n : Nat) (X0 : MdT) (p1 : Nat) : Option (Int32) :=
  u35 (fun (x0_shelf : (Nat → Int32)) (x0_rowSort : (Nat → Int32)) (x0_rowSize : (Nat → Int32)) (x0_rows : (Nat → Nat → Int64)) (x0_moved : (Nat → Int64)) (x0_shown : (Nat → Int32)) (x0_tape : (Nat → Int32)) (x0_tapeSize : Int32) (x0_refused : (Nat → Int32)) (x0_lines : Int32) (x0_line : (Nat → Nat → Int32)) (x0_changes : (Nat → Int32)) (x0_coins : (Nat → Int32)) (x0_goods : Int32) (x0_good : (Nat → Nat → Int32)) (x0_works : Int32) (x0_work : (Nat → Nat → Int32)) (x0_years : Int32) (x0_gone : Int32) (x0_spent : Int32) (x0_at : Int32) (x0_token : Int32) (x0_from : Int32) (x0_figures : Int64) (x0_fault : Int32) (x0_numbers : (Nat → Int32)) (x0_statements : Int32) (x0_left : (Nat → Int32)) (x0_far : (Nat → Int32)) (x0_tons : Int32) (x0_way : (Nat → Int32)) (x0_steps : Int32) (x0_met : Int64) (x0_queue : (Nat → Int32)) (x0_totals : (Nat → Int32)) => if x0_token = 1 then ((slen p1).bind fun v1 => if (x0_at - x0_from) = v1 then ((lp (fX7_isWord_s28 p1 x0_tape x0_from) n (0)).bind (Sum.elim (fun _ => some (0)) (fun _ => some (1)))) else (some (0))) else (some (0))) X0
set_option maxHeartbeats 4000000 in
set_option maxRecDepth 100000 in
theorem kX7_isWord (l : Launch) (d : DT) (h0 : Nat → Nat) (r0_rows : Nat → Nat) (r0_line : Nat → Nat) (r0_good : Nat → Nat) (r0_work : Nat → Nat) (a0_kept : Option Nat) (a0_tried : Option Nat) (a0_chosen : Option Nat) (n : Nat) (x0_shelf : (Nat → Int32)) (x0_rowSort : (Nat → Int32)) (x0_rowSize : (Nat → Int32)) (x0_rows : (Nat → Nat → Int64)) (x0_moved : (Nat → Int64)) (x0_shown : (Nat → Int32)) (x0_tape : (Nat → Int32)) (x0_tapeSize : Int32) (x0_refused : (Nat → Int32)) (x0_lines : Int32) (x0_line : (Nat → Nat → Int32)) (x0_changes : (Nat → Int32)) (x0_coins : (Nat → Int32)) (x0_goods : Int32) (x0_good : (Nat → Nat → Int32)) (x0_works : Int32) (x0_work : (Nat → Nat → Int32)) (x0_years : Int32) (x0_gone : Int32) (x0_spent : Int32) (x0_at : Int32) (x0_token : Int32) (x0_from : Int32) (x0_figures : Int64) (x0_fault : Int32) (x0_numbers : (Nat → Int32)) (x0_statements : Int32) (x0_left : (Nat → Int32)) (x0_far : (Nat → Int32)) (x0_tons : Int32) (x0_way : (Nat → Int32)) (x0_steps : Int32) (x0_met : Int64) (x0_queue : (Nat → Int32)) (x0_totals : (Nat → Int32)) (p1 : Nat)  {out : Int32} (hf : fX7_isWord n (x0_shelf, x0_rowSort, x0_rowSize, x0_rows, x0_moved, x0_shown, x0_tape, x0_tapeSize, x0_refused, x0_lines, x0_line, x0_changes, x0_coins, x0_goods, x0_good, x0_works, x0_work, x0_years, x0_gone, x0_spent, x0_at, x0_token, x0_from, x0_figures, x0_fault, x0_numbers, x0_statements, x0_left, x0_far, x0_tons, x0_way, x0_steps, x0_met, x0_queue, x0_totals) p1 = some out) : Ct l d yX7_isWord cX7_isWord 3 (some .boolean) { frames := 4, cells := 0, slots := 0, locals := 85 } [.ref (h0 0), .ref (d.2.2.2.1 p1)] [gMd d h0 a0_kept a0_tried a0_chosen r0_rows r0_line r0_good r0_work x0_shelf x0_rowSort x0_rowSize x0_moved x0_shown x0_tape x0_tapeSize x0_refused x0_lines x0_changes x0_coins x0_goods x0_works x0_years x0_gone x0_spent x0_at x0_token x0_from x0_figures x0_fault x0_numbers x0_statements x0_left x0_far x0_tons x0_way x0_steps x0_met x0_queue x0_totals] (fun _ : Unit => (some (.int out), [gMd d h0 a0_kept a0_tried a0_chosen r0_rows r0_line r0_good r0_work x0_shelf x0_rowSort x0_rowSize x0_moved x0_shown x0_tape x0_tapeSize x0_refused x0_lines x0_changes x0_coins x0_goods x0_works x0_years x0_gone x0_spent x0_at x0_token x0_from x0_figures x0_fault x0_numbers x0_statements x0_left x0_far x0_tons x0_way x0_steps x0_met x0_queue x0_totals])) := by
  refine Ct.of (by decide) (Nat.le_of_ble_eq_true rfl) ?_
  intro Φ hl hK hR
  subst hl
  have hK : Ok d Φ RX7 "isWord" cX7_isWord 3 (some .boolean) { frames := 4, cells := 0, slots := 0, locals := 85 } := hK
  unfold fX7_isWord at hf
  have hf := un35 hf
  show J d Φ 3 [gMd d h0 a0_kept a0_tried a0_chosen r0_rows r0_line r0_good r0_work x0_shelf x0_rowSort x0_rowSize x0_moved x0_shown x0_tape x0_tapeSize x0_refused x0_lines x0_changes x0_coins x0_goods x0_works x0_years x0_gone x0_spent x0_at x0_token x0_from x0_figures x0_fault x0_numbers x0_statements x0_left x0_far x0_tons x0_way x0_steps x0_met x0_queue x0_totals] 0 0 0 [(0, .ref (h0 0)), (1, .ref (d.2.2.2.1 p1))] []
  refine J_aload_n hK dX7_isWord_0 rfl 0 rfl rfl ?_
  refine J_get hK fo_RX7_159 dX7_isWord_1 rfl 0 0 rfl rfl rfl ?_
  refine J_iconst (v := 1) hK dX7_isWord_4 rfl (by decide) ?_
  refine J_icmp_ne (tg := 24) hK dX7_isWord_5 rfl rfl (fun hc5 => ?_) (fun hc5 => ?_)
  · have hf := iq hc5 hf
    refine J_iconst (v := 0) hK dX7_isWord_24 rfl (by decide) ?_
    obtain rfl := Option.some.inj hf
    exact J_zret hK hR dX7_isWord_25 () rfl rfl (by decide) (by decide)
  · have hf := ip hc5 hf
    refine J_aload_n hK dX7_isWord_8 rfl 0 rfl rfl ?_
    refine J_get hK fo_RX7_149 dX7_isWord_9 rfl 0 0 rfl rfl rfl ?_
    refine J_aload_n hK dX7_isWord_12 rfl 0 rfl rfl ?_
    refine J_get hK fo_RX7_152 dX7_isWord_13 rfl 0 0 rfl rfl rfl ?_
    refine J_isub hK dX7_isWord_16 rfl ?_
    refine J_aload_n hK dX7_isWord_17 rfl 1 rfl rfl ?_
    obtain ⟨v1, ev1, hf⟩ := bs hf
    refine J_callT (gr := [gMd d h0 a0_kept a0_tried a0_chosen r0_rows r0_line r0_good r0_work x0_shelf x0_rowSort x0_rowSize x0_moved x0_shown x0_tape x0_tapeSize x0_refused x0_lines x0_changes x0_coins x0_goods x0_works x0_years x0_gone x0_spent x0_at x0_token x0_from x0_figures x0_fault x0_numbers x0_statements x0_left x0_far x0_tons x0_way x0_steps x0_met x0_queue x0_totals]) (gs' := fun _ => [gMd d h0 a0_kept a0_tried a0_chosen r0_rows r0_line r0_good r0_work x0_shelf x0_rowSort x0_rowSize x0_moved x0_shown x0_tape x0_tapeSize x0_refused x0_lines x0_changes x0_coins x0_goods x0_works x0_years x0_gone x0_spent x0_at x0_token x0_from x0_figures x0_fault x0_numbers x0_statements x0_left x0_far x0_tons x0_way x0_steps x0_met x0_queue x0_totals]) (st' := fun _ => [.int v1, .int (x0_at - x0_from)]) (st := [.int (x0_at - x0_from)]) hK dX7_isWord_18 cv_RX7_177 iv_yJ0_length_8abf5 (As := []) (kJ_length _ d p1 ev1) rfl rfl (Nat.le_of_ble_eq_true rfl) (by decide) (hK.str (str_some_length ev1).choose_spec).1 [] [0] rfl rfl rfl rfl [0] rfl (fun _ => rfl) (fun _ => rfl) rfl rfl rfl (fun _ => rfl) (fun _ => ?_)
    refine J_icmp_eq (tg := 26) hK dX7_isWord_21 rfl rfl (fun hc21 => ?_) (fun hc21 => ?_)
    · have hf := ip hc21 hf
      refine J_iconst (v := 0) hK dX7_isWord_26 rfl (by decide) ?_
      refine J_istore_n (L' := [(2, .int (0)), (0, .ref (h0 0)), (1, .ref (d.2.2.2.1 p1))]) hK dX7_isWord_27 rfl rfl (by decide) rfl ?_
      obtain ⟨e4, hl2, hf⟩ := bs hf
      have hx2_55 : (.inl ()) = e4 → J d Φ 3 [gMd d h0 a0_kept a0_tried a0_chosen r0_rows r0_line r0_good r0_work x0_shelf x0_rowSort x0_rowSize x0_moved x0_shown x0_tape x0_tapeSize x0_refused x0_lines x0_changes x0_coins x0_goods x0_works x0_years x0_gone x0_spent x0_at x0_token x0_from x0_figures x0_fault x0_numbers x0_statements x0_left x0_far x0_tons x0_way x0_steps x0_met x0_queue x0_totals] 0 0 55 [] [] := by
        intro  he
        rw [← he] at hf
        simp only [Sum.elim_inl, Sum.elim_inr] at hf
        refine J_iconst (v := 0) hK dX7_isWord_55 rfl (by decide) ?_
        obtain rfl := Option.some.inj hf
        exact J_zret hK hR dX7_isWord_56 () rfl rfl (by decide) (by decide)
      have hx2_63 : (.inr ()) = e4 → J d Φ 3 [gMd d h0 a0_kept a0_tried a0_chosen r0_rows r0_line r0_good r0_work x0_shelf x0_rowSort x0_rowSize x0_moved x0_shown x0_tape x0_tapeSize x0_refused x0_lines x0_changes x0_coins x0_goods x0_works x0_years x0_gone x0_spent x0_at x0_token x0_from x0_figures x0_fault x0_numbers x0_statements x0_left x0_far x0_tons x0_way x0_steps x0_met x0_queue x0_totals] 0 0 63 [] [] := by
        intro  he
        rw [← he] at hf
        simp only [Sum.elim_inl, Sum.elim_inr] at hf
        refine J_iconst (v := 1) hK dX7_isWord_63 rfl (by decide) ?_
        obtain rfl := Option.some.inj hf
        exact J_zret hK hR dX7_isWord_64 () rfl rfl (by decide) (by decide)
      have lo2 : ∀ (k : Nat) (z3 : Int32), lp (fX7_isWord_s28 p1 x0_tape x0_from) k z3 = some e4 → J d Φ 3 [gMd d h0 a0_kept a0_tried a0_chosen r0_rows r0_line r0_good r0_work x0_shelf x0_rowSort x0_rowSize x0_moved x0_shown x0_tape x0_tapeSize x0_refused x0_lines x0_changes x0_coins x0_goods x0_works x0_years x0_gone x0_spent x0_at x0_token x0_from x0_figures x0_fault x0_numbers x0_statements x0_left x0_far x0_tons x0_way x0_steps x0_met x0_queue x0_totals] 0 0 28 [(0, .ref (h0 0)), (1, .ref (d.2.2.2.1 p1)), (2, .int z3)] [] := by
        intro k
        induction k with
        | zero => intro z3 h; cases h
        | succ k ih2 =>
          intro z3 h
          obtain ⟨k2, rr2, hk2, hs2, hr2⟩ := lp_ok h
          cases hk2
          have hs2 : fX7_isWord_s28 p1 x0_tape x0_from z3 = some rr2 := hs2
          unfold fX7_isWord_s28 at hs2
          refine J_iload_n hK dX7_isWord_28 rfl 2 rfl rfl ?_
          refine J_aload_n hK dX7_isWord_29 rfl 1 rfl rfl ?_
          obtain ⟨v5, ev5, hs2⟩ := bs hs2
          refine J_callT (gr := [gMd d h0 a0_kept a0_tried a0_chosen r0_rows r0_line r0_good r0_work x0_shelf x0_rowSort x0_rowSize x0_moved x0_shown x0_tape x0_tapeSize x0_refused x0_lines x0_changes x0_coins x0_goods x0_works x0_years x0_gone x0_spent x0_at x0_token x0_from x0_figures x0_fault x0_numbers x0_statements x0_left x0_far x0_tons x0_way x0_steps x0_met x0_queue x0_totals]) (gs' := fun _ => [gMd d h0 a0_kept a0_tried a0_chosen r0_rows r0_line r0_good r0_work x0_shelf x0_rowSort x0_rowSize x0_moved x0_shown x0_tape x0_tapeSize x0_refused x0_lines x0_changes x0_coins x0_goods x0_works x0_years x0_gone x0_spent x0_at x0_token x0_from x0_figures x0_fault x0_numbers x0_statements x0_left x0_far x0_tons x0_way x0_steps x0_met x0_queue x0_totals]) (st' := fun _ => [.int v5, .int z3]) (st := [.int z3]) hK dX7_isWord_30 cv_RX7_177 iv_yJ0_length_8abf5 (As := []) (kJ_length _ d p1 ev5) rfl rfl (Nat.le_of_ble_eq_true rfl) (by decide) (hK.str (str_some_length ev5).choose_spec).1 [] [0] rfl rfl rfl rfl [0] rfl (fun _ => rfl) (fun _ => rfl) rfl rfl rfl (fun _ => rfl) (fun _ => ?_)
          refine J_icmp_ge (tg := 63) hK dX7_isWord_33 rfl rfl (fun hc33 => ?_) (fun hc33 => ?_)
          · have hs2 := ip hc33 hs2
            exact J_loc [] rfl (hx2_63  (lpx hs2 hr2))
          · have hs2 := iq hc33 hs2
            refine J_aload_n hK dX7_isWord_36 rfl 0 rfl rfl ?_
            refine J_get hK fo_RX7_31 dX7_isWord_37 rfl 0 0 rfl rfl rfl ?_
            refine J_aload_n hK dX7_isWord_40 rfl 0 rfl rfl ?_
            refine J_get hK fo_RX7_152 dX7_isWord_41 rfl 0 0 rfl rfl rfl ?_
            refine J_iload_n hK dX7_isWord_44 rfl 2 rfl rfl ?_
            refine J_iadd hK dX7_isWord_45 rfl ?_
            obtain ⟨v6, ev6, hs2⟩ := bs hs2
            refine J_iald hK dX7_isWord_46 rfl 0 7 rfl rfl ev6 ?_
            refine J_aload_n hK dX7_isWord_47 rfl 1 rfl rfl ?_
            refine J_iload_n hK dX7_isWord_48 rfl 2 rfl rfl ?_
            obtain ⟨v7, ev7, hs2⟩ := bs hs2
            refine J_callT (gr := [gMd d h0 a0_kept a0_tried a0_chosen r0_rows r0_line r0_good r0_work x0_shelf x0_rowSort x0_rowSize x0_moved x0_shown x0_tape x0_tapeSize x0_refused x0_lines x0_changes x0_coins x0_goods x0_works x0_years x0_gone x0_spent x0_at x0_token x0_from x0_figures x0_fault x0_numbers x0_statements x0_left x0_far x0_tons x0_way x0_steps x0_met x0_queue x0_totals]) (gs' := fun _ => [gMd d h0 a0_kept a0_tried a0_chosen r0_rows r0_line r0_good r0_work x0_shelf x0_rowSort x0_rowSize x0_moved x0_shown x0_tape x0_tapeSize x0_refused x0_lines x0_changes x0_coins x0_goods x0_works x0_years x0_gone x0_spent x0_at x0_token x0_from x0_figures x0_fault x0_numbers x0_statements x0_left x0_far x0_tons x0_way x0_steps x0_met x0_queue x0_totals]) (st' := fun _ => [.int v7, .int v6]) (st := [.int v6]) hK dX7_isWord_49 cv_RX7_183 iv_yJ0_charAt_5068e (As := [.int z3]) (kJ_charAt _ d p1 z3 ev7) rfl rfl (Nat.le_of_ble_eq_true rfl) (by decide) (hK.str (str_some_charAt ev7).choose_spec).1 [] [0] rfl rfl rfl rfl [0] rfl (fun _ => rfl) (fun _ => rfl) rfl rfl rfl (fun _ => rfl) (fun _ => ?_)
            refine J_icmp_eq (tg := 57) hK dX7_isWord_52 rfl rfl (fun hc52 => ?_) (fun hc52 => ?_)
            · have hs2 := ip hc52 hs2
              refine J_iinc (L' := [(2, .int (z3 + 1)), (0, .ref (h0 0)), (1, .ref (d.2.2.2.1 p1))]) (v := (z3 + 1)) hK dX7_isWord_57 rfl 2 rfl rfl (by decide) rfl ?_
              refine J_goto hK dX7_isWord_60 (n := 28) rfl ?_
              exact J_loc [1, 2, 0] rfl (ih2 (z3 + 1) (lpc hs2 hr2))
            · have hs2 := iq hc52 hs2
              exact J_loc [] rfl (hx2_55  (lpx hs2 hr2))
      exact J_loc [1, 2, 0] rfl (lo2 n (0) hl2)
    · have hf := iq hc21 hf
      refine J_iconst (v := 0) hK dX7_isWord_24 rfl (by decide) ?_
      obtain rfl := Option.some.inj hf
      exact J_zret hK hR dX7_isWord_25 () rfl rfl (by decide) (by decide)

def fX7_number (n : Nat) (X0 : MdT) (m1 : Nat) (p1 : (Nat → Int32)) (p2 : Int32) (p3 : Int32) (p4 : Int32) : Option (Int32 × (Int32 × Int32 × Int32 × Int64 × Int32) × (Nat → Int32)) :=
  u35 (fun (x0_shelf : (Nat → Int32)) (x0_rowSort : (Nat → Int32)) (x0_rowSize : (Nat → Int32)) (x0_rows : (Nat → Nat → Int64)) (x0_moved : (Nat → Int64)) (x0_shown : (Nat → Int32)) (x0_tape : (Nat → Int32)) (x0_tapeSize : Int32) (x0_refused : (Nat → Int32)) (x0_lines : Int32) (x0_line : (Nat → Nat → Int32)) (x0_changes : (Nat → Int32)) (x0_coins : (Nat → Int32)) (x0_goods : Int32) (x0_good : (Nat → Nat → Int32)) (x0_works : Int32) (x0_work : (Nat → Nat → Int32)) (x0_years : Int32) (x0_gone : Int32) (x0_spent : Int32) (x0_at : Int32) (x0_token : Int32) (x0_from : Int32) (x0_figures : Int64) (x0_fault : Int32) (x0_numbers : (Nat → Int32)) (x0_statements : Int32) (x0_left : (Nat → Int32)) (x0_far : (Nat → Int32)) (x0_tons : Int32) (x0_way : (Nat → Int32)) (x0_steps : Int32) (x0_met : Int64) (x0_queue : (Nat → Int32)) (x0_totals : (Nat → Int32)) => if x0_token = 2 then ((fX7_in x0_figures ((p3).toInt64) ((p4).toInt64)).bind (fun v5 => if v5 = 0 then ((fX7_wrong (x0_shelf, x0_rowSort, x0_rowSize, x0_rows, x0_moved, x0_shown, x0_tape, x0_tapeSize, x0_refused, x0_lines, x0_line, x0_changes, x0_coins, x0_goods, x0_good, x0_works, x0_work, x0_years, x0_gone, x0_spent, x0_at, x0_token, x0_from, x0_figures, x0_fault, x0_numbers, x0_statements, x0_left, x0_far, x0_tons, x0_way, x0_steps, x0_met, x0_queue, x0_totals)).bind (u2 fun v13 g14 => (zb v13).bind fun v16 => some (v16, (x0_at, x0_token, x0_from, x0_figures, g14), p1))) else ((wr m1 p1 p2 ((x0_figures).toInt32)).bind fun f7 => (fX7_look n (x0_shelf, x0_rowSort, x0_rowSize, x0_rows, x0_moved, x0_shown, x0_tape, x0_tapeSize, x0_refused, x0_lines, x0_line, x0_changes, x0_coins, x0_goods, x0_good, x0_works, x0_work, x0_years, x0_gone, x0_spent, x0_at, x0_token, x0_from, x0_figures, x0_fault, x0_numbers, x0_statements, x0_left, x0_far, x0_tons, x0_way, x0_steps, x0_met, x0_queue, x0_totals)).bind (u4 fun g8 g9 g10 g11 => some (1, (g8, g9, g10, g11, x0_fault), f7))))) else ((fX7_wrong (x0_shelf, x0_rowSort, x0_rowSize, x0_rows, x0_moved, x0_shown, x0_tape, x0_tapeSize, x0_refused, x0_lines, x0_line, x0_changes, x0_coins, x0_goods, x0_good, x0_works, x0_work, x0_years, x0_gone, x0_spent, x0_at, x0_token, x0_from, x0_figures, x0_fault, x0_numbers, x0_statements, x0_left, x0_far, x0_tons, x0_way, x0_steps, x0_met, x0_queue, x0_totals)).bind (u2 fun v1 g2 => (zb v1).bind fun v4 => some (v4, (x0_at, x0_token, x0_from, x0_figures, g2), p1)))) X0
set_option maxHeartbeats 4000000 in
set_option maxRecDepth 100000 in
theorem kX7_number (l : Launch) (d : DT) (h0 : Nat → Nat) (r0_rows : Nat → Nat) (r0_line : Nat → Nat) (r0_good : Nat → Nat) (r0_work : Nat → Nat) (a0_kept : Option Nat) (a0_tried : Option Nat) (a0_chosen : Option Nat) (b1 : Nat) (n : Nat) (x0_shelf : (Nat → Int32)) (x0_rowSort : (Nat → Int32)) (x0_rowSize : (Nat → Int32)) (x0_rows : (Nat → Nat → Int64)) (x0_moved : (Nat → Int64)) (x0_shown : (Nat → Int32)) (x0_tape : (Nat → Int32)) (x0_tapeSize : Int32) (x0_refused : (Nat → Int32)) (x0_lines : Int32) (x0_line : (Nat → Nat → Int32)) (x0_changes : (Nat → Int32)) (x0_coins : (Nat → Int32)) (x0_goods : Int32) (x0_good : (Nat → Nat → Int32)) (x0_works : Int32) (x0_work : (Nat → Nat → Int32)) (x0_years : Int32) (x0_gone : Int32) (x0_spent : Int32) (x0_at : Int32) (x0_token : Int32) (x0_from : Int32) (x0_figures : Int64) (x0_fault : Int32) (x0_numbers : (Nat → Int32)) (x0_statements : Int32) (x0_left : (Nat → Int32)) (x0_far : (Nat → Int32)) (x0_tons : Int32) (x0_way : (Nat → Int32)) (x0_steps : Int32) (x0_met : Int64) (x0_queue : (Nat → Int32)) (x0_totals : (Nat → Int32)) (m1 : Nat) (p1 : (Nat → Int32)) (p2 : Int32) (p3 : Int32) (p4 : Int32)  {out : Int32 × (Int32 × Int32 × Int32 × Int64 × Int32) × (Nat → Int32)} (hf : fX7_number n (x0_shelf, x0_rowSort, x0_rowSize, x0_rows, x0_moved, x0_shown, x0_tape, x0_tapeSize, x0_refused, x0_lines, x0_line, x0_changes, x0_coins, x0_goods, x0_good, x0_works, x0_work, x0_years, x0_gone, x0_spent, x0_at, x0_token, x0_from, x0_figures, x0_fault, x0_numbers, x0_statements, x0_left, x0_far, x0_tons, x0_way, x0_steps, x0_met, x0_queue, x0_totals) m1 p1 p2 p3 p4 = some out) : Ct l d yX7_number cX7_number 5 (some .boolean) { frames := 2, cells := 0, slots := 0, locals := 40 } [.ref (h0 0), .ref b1, .int p2, .int p3, .int p4] [gMd d h0 a0_kept a0_tried a0_chosen r0_rows r0_line r0_good r0_work x0_shelf x0_rowSort x0_rowSize x0_moved x0_shown x0_tape x0_tapeSize x0_refused x0_lines x0_changes x0_coins x0_goods x0_works x0_years x0_gone x0_spent x0_at x0_token x0_from x0_figures x0_fault x0_numbers x0_statements x0_left x0_far x0_tons x0_way x0_steps x0_met x0_queue x0_totals, [cI d b1 m1 p1]] (fun _ : Unit => (some (.int out.1), [gMd d h0 a0_kept a0_tried a0_chosen r0_rows r0_line r0_good r0_work x0_shelf x0_rowSort x0_rowSize x0_moved x0_shown x0_tape x0_tapeSize x0_refused x0_lines x0_changes x0_coins x0_goods x0_works x0_years x0_gone x0_spent (out.2.1.1) (out.2.1.2.1) (out.2.1.2.2.1) (out.2.1.2.2.2.1) (out.2.1.2.2.2.2) x0_numbers x0_statements x0_left x0_far x0_tons x0_way x0_steps x0_met x0_queue x0_totals, [cI d b1 m1 (out.2.2)]])) := by
  refine Ct.of (by decide) (Nat.le_of_ble_eq_true rfl) ?_
  intro Φ hl hK hR
  subst hl
  have hK : Ok d Φ RX7 "number" cX7_number 5 (some .boolean) { frames := 2, cells := 0, slots := 0, locals := 40 } := hK
  unfold fX7_number at hf
  have hf := un35 hf
  show J d Φ 5 [gMd d h0 a0_kept a0_tried a0_chosen r0_rows r0_line r0_good r0_work x0_shelf x0_rowSort x0_rowSize x0_moved x0_shown x0_tape x0_tapeSize x0_refused x0_lines x0_changes x0_coins x0_goods x0_works x0_years x0_gone x0_spent x0_at x0_token x0_from x0_figures x0_fault x0_numbers x0_statements x0_left x0_far x0_tons x0_way x0_steps x0_met x0_queue x0_totals, [cI d b1 m1 p1]] 0 0 0 [(0, .ref (h0 0)), (1, .ref b1), (2, .int p2), (3, .int p3), (4, .int p4)] []
  refine J_aload_n hK dX7_number_0 rfl 0 rfl rfl ?_
  refine J_get hK fo_RX7_159 dX7_number_1 rfl 0 0 rfl rfl rfl ?_
  refine J_iconst (v := 2) hK dX7_number_4 rfl (by decide) ?_
  refine J_icmp_ne (tg := 23) hK dX7_number_5 rfl rfl (fun hc5 => ?_) (fun hc5 => ?_)
  · have hf := iq hc5 hf
    refine J_aload_n hK dX7_number_23 rfl 0 rfl rfl ?_
    obtain ⟨⟨v1, g2⟩, e3, hf⟩ := bs hf
    have hf := un2 hf
    refine J_callV (m' := 2) (ce' := 0) (sl' := 0) (gr := [[cI d b1 m1 p1]]) (gs' := fun _ => [gMd d h0 a0_kept a0_tried a0_chosen r0_rows r0_line r0_good r0_work x0_shelf x0_rowSort x0_rowSize x0_moved x0_shown x0_tape x0_tapeSize x0_refused x0_lines x0_changes x0_coins x0_goods x0_works x0_years x0_gone x0_spent x0_at x0_token x0_from x0_figures g2 x0_numbers x0_statements x0_left x0_far x0_tons x0_way x0_steps x0_met x0_queue x0_totals, [cI d b1 m1 p1]]) (st' := fun _ => [.int v1]) (st := []) hK dX7_number_24 cv_RX7_187 iv_yX7_wrong (As := []) (kX7_wrong _ d h0 r0_rows r0_line r0_good r0_work a0_kept a0_tried a0_chosen x0_shelf x0_rowSort x0_rowSize x0_rows x0_moved x0_shown x0_tape x0_tapeSize x0_refused x0_lines x0_line x0_changes x0_coins x0_goods x0_good x0_works x0_work x0_years x0_gone x0_spent x0_at x0_token x0_from x0_figures x0_fault x0_numbers x0_statements x0_left x0_far x0_tons x0_way x0_steps x0_met x0_queue x0_totals e3) rfl rfl (Nat.le_of_ble_eq_true rfl) (by decide) 0 0 rfl rfl rfl [0] [1] rfl rfl rfl rfl [1, 0] rfl (fun _ => rfl) (fun _ => rfl) rfl rfl rfl (fun _ => rfl) (fun _ => ?_)
    obtain ⟨v4, ev4, hf⟩ := bs hf
    obtain rfl := Option.some.inj hf
    exact J_zret hK hR dX7_number_27 () (zb_ok ev4).2 (by rw [(zb_ok ev4).1]) (by decide) (by decide)
  · have hf := ip hc5 hf
    refine J_aload_n hK dX7_number_8 rfl 0 rfl rfl ?_
    refine J_get hK fo_RX7_155 dX7_number_9 rfl 0 0 rfl rfl rfl ?_
    refine J_iload_n hK dX7_number_12 rfl 3 rfl rfl ?_
    refine J_i2l hK dX7_number_13 rfl ?_
    refine J_iload hK dX7_number_14 rfl 4 rfl ?_
    refine J_i2l hK dX7_number_16 rfl ?_
    obtain ⟨v5, e6, hf⟩ := bs hf
    refine J_callS (m' := 2) (ce' := 0) (sl' := 0) (gr := [gMd d h0 a0_kept a0_tried a0_chosen r0_rows r0_line r0_good r0_work x0_shelf x0_rowSort x0_rowSize x0_moved x0_shown x0_tape x0_tapeSize x0_refused x0_lines x0_changes x0_coins x0_goods x0_works x0_years x0_gone x0_spent x0_at x0_token x0_from x0_figures x0_fault x0_numbers x0_statements x0_left x0_far x0_tons x0_way x0_steps x0_met x0_queue x0_totals, [cI d b1 m1 p1]]) (gs' := fun _ => [gMd d h0 a0_kept a0_tried a0_chosen r0_rows r0_line r0_good r0_work x0_shelf x0_rowSort x0_rowSize x0_moved x0_shown x0_tape x0_tapeSize x0_refused x0_lines x0_changes x0_coins x0_goods x0_works x0_years x0_gone x0_spent x0_at x0_token x0_from x0_figures x0_fault x0_numbers x0_statements x0_left x0_far x0_tons x0_way x0_steps x0_met x0_queue x0_totals, [cI d b1 m1 p1]]) (st' := fun _ => [.int v5]) (st := []) hK dX7_number_17 cv_RX7_78 ws_yX7_in (As := [.long x0_figures, .long ((p3).toInt64), .long ((p4).toInt64)]) (kX7_in _ d x0_figures ((p3).toInt64) ((p4).toInt64) e6) rfl rfl (Nat.le_of_ble_eq_true rfl) (by decide) [] [0, 1] rfl rfl rfl rfl [0, 1] rfl (fun _ => rfl) (fun _ => rfl) rfl rfl rfl (fun _ => rfl) (fun _ => ?_)
    refine J_if_ne (tg := 28) hK dX7_number_20 rfl rfl (fun hc20 => ?_) (fun hc20 => ?_)
    · have hf := iq hc20 hf
      refine J_aload_n hK dX7_number_28 rfl 1 rfl rfl ?_
      refine J_iload_n hK dX7_number_29 rfl 2 rfl rfl ?_
      refine J_aload_n hK dX7_number_30 rfl 0 rfl rfl ?_
      refine J_get hK fo_RX7_155 dX7_number_31 rfl 0 0 rfl rfl rfl ?_
      refine J_l2i hK dX7_number_34 rfl ?_
      obtain ⟨f7, ef7, hf⟩ := bs hf
      refine J_iast (g' := [cI d b1 m1 f7]) (gs' := [gMd d h0 a0_kept a0_tried a0_chosen r0_rows r0_line r0_good r0_work x0_shelf x0_rowSort x0_rowSize x0_moved x0_shown x0_tape x0_tapeSize x0_refused x0_lines x0_changes x0_coins x0_goods x0_works x0_years x0_gone x0_spent x0_at x0_token x0_from x0_figures x0_fault x0_numbers x0_statements x0_left x0_far x0_tons x0_way x0_steps x0_met x0_queue x0_totals, [cI d b1 m1 f7]]) hK dX7_number_35 rfl 1 0 rfl rfl ef7 rfl rfl ?_
      refine J_aload_n hK dX7_number_36 rfl 0 rfl rfl ?_
      obtain ⟨⟨g8, g9, g10, g11⟩, e12, hf⟩ := bs hf
      have hf := un4 hf
      refine J_callV (m' := 2) (ce' := 0) (sl' := 0) (gr := [[cI d b1 m1 f7]]) (gs' := fun _ => [gMd d h0 a0_kept a0_tried a0_chosen r0_rows r0_line r0_good r0_work x0_shelf x0_rowSort x0_rowSize x0_moved x0_shown x0_tape x0_tapeSize x0_refused x0_lines x0_changes x0_coins x0_goods x0_works x0_years x0_gone x0_spent g8 g9 g10 g11 x0_fault x0_numbers x0_statements x0_left x0_far x0_tons x0_way x0_steps x0_met x0_queue x0_totals, [cI d b1 m1 f7]]) (st' := fun _ => []) (st := []) hK dX7_number_37 cv_RX7_191 iv_yX7_look (As := []) (kX7_look _ d h0 r0_rows r0_line r0_good r0_work a0_kept a0_tried a0_chosen n x0_shelf x0_rowSort x0_rowSize x0_rows x0_moved x0_shown x0_tape x0_tapeSize x0_refused x0_lines x0_line x0_changes x0_coins x0_goods x0_good x0_works x0_work x0_years x0_gone x0_spent x0_at x0_token x0_from x0_figures x0_fault x0_numbers x0_statements x0_left x0_far x0_tons x0_way x0_steps x0_met x0_queue x0_totals e12) rfl rfl (Nat.le_of_ble_eq_true rfl) (by decide) 0 0 rfl rfl rfl [0] [1] rfl rfl rfl rfl [1, 0] rfl (fun _ => rfl) (fun _ => rfl) rfl rfl rfl (fun _ => rfl) (fun _ => ?_)
      refine J_iconst (v := 1) hK dX7_number_40 rfl (by decide) ?_
      obtain rfl := Option.some.inj hf
      exact J_zret hK hR dX7_number_41 () rfl rfl (by decide) (by decide)
    · have hf := ip hc20 hf
      refine J_aload_n hK dX7_number_23 rfl 0 rfl rfl ?_
      obtain ⟨⟨v13, g14⟩, e15, hf⟩ := bs hf
      have hf := un2 hf
      refine J_callV (m' := 2) (ce' := 0) (sl' := 0) (gr := [[cI d b1 m1 p1]]) (gs' := fun _ => [gMd d h0 a0_kept a0_tried a0_chosen r0_rows r0_line r0_good r0_work x0_shelf x0_rowSort x0_rowSize x0_moved x0_shown x0_tape x0_tapeSize x0_refused x0_lines x0_changes x0_coins x0_goods x0_works x0_years x0_gone x0_spent x0_at x0_token x0_from x0_figures g14 x0_numbers x0_statements x0_left x0_far x0_tons x0_way x0_steps x0_met x0_queue x0_totals, [cI d b1 m1 p1]]) (st' := fun _ => [.int v13]) (st := []) hK dX7_number_24 cv_RX7_187 iv_yX7_wrong (As := []) (kX7_wrong _ d h0 r0_rows r0_line r0_good r0_work a0_kept a0_tried a0_chosen x0_shelf x0_rowSort x0_rowSize x0_rows x0_moved x0_shown x0_tape x0_tapeSize x0_refused x0_lines x0_line x0_changes x0_coins x0_goods x0_good x0_works x0_work x0_years x0_gone x0_spent x0_at x0_token x0_from x0_figures x0_fault x0_numbers x0_statements x0_left x0_far x0_tons x0_way x0_steps x0_met x0_queue x0_totals e15) rfl rfl (Nat.le_of_ble_eq_true rfl) (by decide) 0 0 rfl rfl rfl [0] [1] rfl rfl rfl rfl [1, 0] rfl (fun _ => rfl) (fun _ => rfl) rfl rfl rfl (fun _ => rfl) (fun _ => ?_)
      obtain ⟨v16, ev16, hf⟩ := bs hf
      obtain rfl := Option.some.inj hf
      exact J_zret hK hR dX7_number_27 () (zb_ok ev16).2 (by rw [(zb_ok ev16).1]) (by decide) (by decide)

def fX7_told (n : Nat) (X0 : MdT) (p1 : Nat) (m2 : Nat) (p2 : (Nat → Int32)) (p3 : Int32) (p4 : Int32) (p5 : Int32) : Option (Int32 × (Int32 × Int32 × Int32 × Int64 × Int32) × (Nat → Int32)) :=
  u35 (fun (x0_shelf : (Nat → Int32)) (x0_rowSort : (Nat → Int32)) (x0_rowSize : (Nat → Int32)) (x0_rows : (Nat → Nat → Int64)) (x0_moved : (Nat → Int64)) (x0_shown : (Nat → Int32)) (x0_tape : (Nat → Int32)) (x0_tapeSize : Int32) (x0_refused : (Nat → Int32)) (x0_lines : Int32) (x0_line : (Nat → Nat → Int32)) (x0_changes : (Nat → Int32)) (x0_coins : (Nat → Int32)) (x0_goods : Int32) (x0_good : (Nat → Nat → Int32)) (x0_works : Int32) (x0_work : (Nat → Nat → Int32)) (x0_years : Int32) (x0_gone : Int32) (x0_spent : Int32) (x0_at : Int32) (x0_token : Int32) (x0_from : Int32) (x0_figures : Int64) (x0_fault : Int32) (x0_numbers : (Nat → Int32)) (x0_statements : Int32) (x0_left : (Nat → Int32)) (x0_far : (Nat → Int32)) (x0_tons : Int32) (x0_way : (Nat → Int32)) (x0_steps : Int32) (x0_met : Int64) (x0_queue : (Nat → Int32)) (x0_totals : (Nat → Int32)) => (fX7_isWord n (x0_shelf, x0_rowSort, x0_rowSize, x0_rows, x0_moved, x0_shown, x0_tape, x0_tapeSize, x0_refused, x0_lines, x0_line, x0_changes, x0_coins, x0_goods, x0_good, x0_works, x0_work, x0_years, x0_gone, x0_spent, x0_at, x0_token, x0_from, x0_figures, x0_fault, x0_numbers, x0_statements, x0_left, x0_far, x0_tons, x0_way, x0_steps, x0_met, x0_queue, x0_totals) p1).bind (fun v1 => if v1 = 0 then ((fX7_wrong (x0_shelf, x0_rowSort, x0_rowSize, x0_rows, x0_moved, x0_shown, x0_tape, x0_tapeSize, x0_refused, x0_lines, x0_line, x0_changes, x0_coins, x0_goods, x0_good, x0_works, x0_work, x0_years, x0_gone, x0_spent, x0_at, x0_token, x0_from, x0_figures, x0_fault, x0_numbers, x0_statements, x0_left, x0_far, x0_tons, x0_way, x0_steps, x0_met, x0_queue, x0_totals)).bind (u2 fun v18 g19 => (zb v18).bind fun v21 => some (v21, (x0_at, x0_token, x0_from, x0_figures, g19), p2))) else ((fX7_look n (x0_shelf, x0_rowSort, x0_rowSize, x0_rows, x0_moved, x0_shown, x0_tape, x0_tapeSize, x0_refused, x0_lines, x0_line, x0_changes, x0_coins, x0_goods, x0_good, x0_works, x0_work, x0_years, x0_gone, x0_spent, x0_at, x0_token, x0_from, x0_figures, x0_fault, x0_numbers, x0_statements, x0_left, x0_far, x0_tons, x0_way, x0_steps, x0_met, x0_queue, x0_totals)).bind (u4 fun g3 g4 g5 g6 => (fX7_number n (x0_shelf, x0_rowSort, x0_rowSize, x0_rows, x0_moved, x0_shown, x0_tape, x0_tapeSize, x0_refused, x0_lines, x0_line, x0_changes, x0_coins, x0_goods, x0_good, x0_works, x0_work, x0_years, x0_gone, x0_spent, g3, g4, g5, g6, x0_fault, x0_numbers, x0_statements, x0_left, x0_far, x0_tons, x0_way, x0_steps, x0_met, x0_queue, x0_totals) m2 p2 p3 p4 p5).bind (u3 fun v8 G9 g15 => u5 (fun g10 g11 g12 g13 g14 => (zb v8).bind fun v17 => some (v17, (g10, g11, g12, g13, g14), g15)) G9))))) X0
set_option maxHeartbeats 4000000 in
set_option maxRecDepth 100000 in
theorem kX7_told (l : Launch) (d : DT) (h0 : Nat → Nat) (r0_rows : Nat → Nat) (r0_line : Nat → Nat) (r0_good : Nat → Nat) (r0_work : Nat → Nat) (a0_kept : Option Nat) (a0_tried : Option Nat) (a0_chosen : Option Nat) (b2 : Nat) (n : Nat) (x0_shelf : (Nat → Int32)) (x0_rowSort : (Nat → Int32)) (x0_rowSize : (Nat → Int32)) (x0_rows : (Nat → Nat → Int64)) (x0_moved : (Nat → Int64)) (x0_shown : (Nat → Int32)) (x0_tape : (Nat → Int32)) (x0_tapeSize : Int32) (x0_refused : (Nat → Int32)) (x0_lines : Int32) (x0_line : (Nat → Nat → Int32)) (x0_changes : (Nat → Int32)) (x0_coins : (Nat → Int32)) (x0_goods : Int32) (x0_good : (Nat → Nat → Int32)) (x0_works : Int32) (x0_work : (Nat → Nat → Int32)) (x0_years : Int32) (x0_gone : Int32) (x0_spent : Int32) (x0_at : Int32) (x0_token : Int32) (x0_from : Int32) (x0_figures : Int64) (x0_fault : Int32) (x0_numbers : (Nat → Int32)) (x0_statements : Int32) (x0_left : (Nat → Int32)) (x0_far : (Nat → Int32)) (x0_tons : Int32) (x0_way : (Nat → Int32)) (x0_steps : Int32) (x0_met : Int64) (x0_queue : (Nat → Int32)) (x0_totals : (Nat → Int32)) (p1 : Nat) (m2 : Nat) (p2 : (Nat → Int32)) (p3 : Int32) (p4 : Int32) (p5 : Int32)  {out : Int32 × (Int32 × Int32 × Int32 × Int64 × Int32) × (Nat → Int32)} (hf : fX7_told n (x0_shelf, x0_rowSort, x0_rowSize, x0_rows, x0_moved, x0_shown, x0_tape, x0_tapeSize, x0_refused, x0_lines, x0_line, x0_changes, x0_coins, x0_goods, x0_good, x0_works, x0_work, x0_years, x0_gone, x0_spent, x0_at, x0_token, x0_from, x0_figures, x0_fault, x0_numbers, x0_statements, x0_left, x0_far, x0_tons, x0_way, x0_steps, x0_met, x0_queue, x0_totals) p1 m2 p2 p3 p4 p5 = some out) : Ct l d yX7_told cX7_told 6 (some .boolean) { frames := 5, cells := 0, slots := 0, locals := 107 } [.ref (h0 0), .ref (d.2.2.2.1 p1), .ref b2, .int p3, .int p4, .int p5] [gMd d h0 a0_kept a0_tried a0_chosen r0_rows r0_line r0_good r0_work x0_shelf x0_rowSort x0_rowSize x0_moved x0_shown x0_tape x0_tapeSize x0_refused x0_lines x0_changes x0_coins x0_goods x0_works x0_years x0_gone x0_spent x0_at x0_token x0_from x0_figures x0_fault x0_numbers x0_statements x0_left x0_far x0_tons x0_way x0_steps x0_met x0_queue x0_totals, [cI d b2 m2 p2]] (fun _ : Unit => (some (.int out.1), [gMd d h0 a0_kept a0_tried a0_chosen r0_rows r0_line r0_good r0_work x0_shelf x0_rowSort x0_rowSize x0_moved x0_shown x0_tape x0_tapeSize x0_refused x0_lines x0_changes x0_coins x0_goods x0_works x0_years x0_gone x0_spent (out.2.1.1) (out.2.1.2.1) (out.2.1.2.2.1) (out.2.1.2.2.2.1) (out.2.1.2.2.2.2) x0_numbers x0_statements x0_left x0_far x0_tons x0_way x0_steps x0_met x0_queue x0_totals, [cI d b2 m2 (out.2.2)]])) := by
  refine Ct.of (by decide) (Nat.le_of_ble_eq_true rfl) ?_
  intro Φ hl hK hR
  subst hl
  have hK : Ok d Φ RX7 "told" cX7_told 6 (some .boolean) { frames := 5, cells := 0, slots := 0, locals := 107 } := hK
  unfold fX7_told at hf
  have hf := un35 hf
  show J d Φ 6 [gMd d h0 a0_kept a0_tried a0_chosen r0_rows r0_line r0_good r0_work x0_shelf x0_rowSort x0_rowSize x0_moved x0_shown x0_tape x0_tapeSize x0_refused x0_lines x0_changes x0_coins x0_goods x0_works x0_years x0_gone x0_spent x0_at x0_token x0_from x0_figures x0_fault x0_numbers x0_statements x0_left x0_far x0_tons x0_way x0_steps x0_met x0_queue x0_totals, [cI d b2 m2 p2]] 0 0 0 [(0, .ref (h0 0)), (1, .ref (d.2.2.2.1 p1)), (2, .ref b2), (3, .int p3), (4, .int p4), (5, .int p5)] []
  refine J_aload_n hK dX7_told_0 rfl 0 rfl rfl ?_
  refine J_aload_n hK dX7_told_1 rfl 1 rfl rfl ?_
  obtain ⟨v1, e2, hf⟩ := bs hf
  refine J_callV (m' := 2) (ce' := 0) (sl' := 0) (gr := [[cI d b2 m2 p2]]) (gs' := fun _ => [gMd d h0 a0_kept a0_tried a0_chosen r0_rows r0_line r0_good r0_work x0_shelf x0_rowSort x0_rowSize x0_moved x0_shown x0_tape x0_tapeSize x0_refused x0_lines x0_changes x0_coins x0_goods x0_works x0_years x0_gone x0_spent x0_at x0_token x0_from x0_figures x0_fault x0_numbers x0_statements x0_left x0_far x0_tons x0_way x0_steps x0_met x0_queue x0_totals, [cI d b2 m2 p2]]) (st' := fun _ => [.int v1]) (st := []) hK dX7_told_2 cv_RX7_194 iv_yX7_isWord (As := [.ref (d.2.2.2.1 p1)]) (kX7_isWord _ d h0 r0_rows r0_line r0_good r0_work a0_kept a0_tried a0_chosen n x0_shelf x0_rowSort x0_rowSize x0_rows x0_moved x0_shown x0_tape x0_tapeSize x0_refused x0_lines x0_line x0_changes x0_coins x0_goods x0_good x0_works x0_work x0_years x0_gone x0_spent x0_at x0_token x0_from x0_figures x0_fault x0_numbers x0_statements x0_left x0_far x0_tons x0_way x0_steps x0_met x0_queue x0_totals p1 e2) rfl rfl (Nat.le_of_ble_eq_true rfl) (by decide) 0 0 rfl rfl rfl [0] [1] rfl rfl rfl rfl [1, 0] rfl (fun _ => rfl) (fun _ => rfl) rfl rfl rfl (fun _ => rfl) (fun _ => ?_)
  refine J_if_ne (tg := 13) hK dX7_told_5 rfl rfl (fun hc5 => ?_) (fun hc5 => ?_)
  · have hf := iq hc5 hf
    refine J_aload_n hK dX7_told_13 rfl 0 rfl rfl ?_
    obtain ⟨⟨g3, g4, g5, g6⟩, e7, hf⟩ := bs hf
    have hf := un4 hf
    refine J_callV (m' := 2) (ce' := 0) (sl' := 0) (gr := [[cI d b2 m2 p2]]) (gs' := fun _ => [gMd d h0 a0_kept a0_tried a0_chosen r0_rows r0_line r0_good r0_work x0_shelf x0_rowSort x0_rowSize x0_moved x0_shown x0_tape x0_tapeSize x0_refused x0_lines x0_changes x0_coins x0_goods x0_works x0_years x0_gone x0_spent g3 g4 g5 g6 x0_fault x0_numbers x0_statements x0_left x0_far x0_tons x0_way x0_steps x0_met x0_queue x0_totals, [cI d b2 m2 p2]]) (st' := fun _ => []) (st := []) hK dX7_told_14 cv_RX7_191 iv_yX7_look (As := []) (kX7_look _ d h0 r0_rows r0_line r0_good r0_work a0_kept a0_tried a0_chosen n x0_shelf x0_rowSort x0_rowSize x0_rows x0_moved x0_shown x0_tape x0_tapeSize x0_refused x0_lines x0_line x0_changes x0_coins x0_goods x0_good x0_works x0_work x0_years x0_gone x0_spent x0_at x0_token x0_from x0_figures x0_fault x0_numbers x0_statements x0_left x0_far x0_tons x0_way x0_steps x0_met x0_queue x0_totals e7) rfl rfl (Nat.le_of_ble_eq_true rfl) (by decide) 0 0 rfl rfl rfl [0] [1] rfl rfl rfl rfl [1, 0] rfl (fun _ => rfl) (fun _ => rfl) rfl rfl rfl (fun _ => rfl) (fun _ => ?_)
    refine J_aload_n hK dX7_told_17 rfl 0 rfl rfl ?_
    refine J_aload_n hK dX7_told_18 rfl 2 rfl rfl ?_
    refine J_iload_n hK dX7_told_19 rfl 3 rfl rfl ?_
    refine J_iload hK dX7_told_20 rfl 4 rfl ?_
    refine J_iload hK dX7_told_22 rfl 5 rfl ?_
    obtain ⟨⟨v8, ⟨g10, g11, g12, g13, g14⟩, g15⟩, e16, hf⟩ := bs hf
    have hf := un3 hf
    have hf := un5 hf
    refine J_callV (m' := 2) (ce' := 0) (sl' := 0) (gr := []) (gs' := fun _ => [gMd d h0 a0_kept a0_tried a0_chosen r0_rows r0_line r0_good r0_work x0_shelf x0_rowSort x0_rowSize x0_moved x0_shown x0_tape x0_tapeSize x0_refused x0_lines x0_changes x0_coins x0_goods x0_works x0_years x0_gone x0_spent g10 g11 g12 g13 g14 x0_numbers x0_statements x0_left x0_far x0_tons x0_way x0_steps x0_met x0_queue x0_totals, [cI d b2 m2 g15]]) (st' := fun _ => [.int v8]) (st := []) hK dX7_told_24 cv_RX7_198 iv_yX7_number (As := [.ref b2, .int p3, .int p4, .int p5]) (kX7_number _ d h0 r0_rows r0_line r0_good r0_work a0_kept a0_tried a0_chosen b2 n x0_shelf x0_rowSort x0_rowSize x0_rows x0_moved x0_shown x0_tape x0_tapeSize x0_refused x0_lines x0_line x0_changes x0_coins x0_goods x0_good x0_works x0_work x0_years x0_gone x0_spent g3 g4 g5 g6 x0_fault x0_numbers x0_statements x0_left x0_far x0_tons x0_way x0_steps x0_met x0_queue x0_totals m2 p2 p3 p4 p5 e16) rfl rfl (Nat.le_of_ble_eq_true rfl) (by decide) 0 0 rfl rfl rfl [0, 1] [] rfl rfl rfl rfl [0, 1] rfl (fun _ => rfl) (fun _ => rfl) rfl rfl rfl (fun _ => rfl) (fun _ => ?_)
    obtain ⟨v17, ev17, hf⟩ := bs hf
    obtain rfl := Option.some.inj hf
    exact J_zret hK hR dX7_told_27 () (zb_ok ev17).2 (by rw [(zb_ok ev17).1]) (by decide) (by decide)
  · have hf := ip hc5 hf
    refine J_aload_n hK dX7_told_8 rfl 0 rfl rfl ?_
    obtain ⟨⟨v18, g19⟩, e20, hf⟩ := bs hf
    have hf := un2 hf
    refine J_callV (m' := 2) (ce' := 0) (sl' := 0) (gr := [[cI d b2 m2 p2]]) (gs' := fun _ => [gMd d h0 a0_kept a0_tried a0_chosen r0_rows r0_line r0_good r0_work x0_shelf x0_rowSort x0_rowSize x0_moved x0_shown x0_tape x0_tapeSize x0_refused x0_lines x0_changes x0_coins x0_goods x0_works x0_years x0_gone x0_spent x0_at x0_token x0_from x0_figures g19 x0_numbers x0_statements x0_left x0_far x0_tons x0_way x0_steps x0_met x0_queue x0_totals, [cI d b2 m2 p2]]) (st' := fun _ => [.int v18]) (st := []) hK dX7_told_9 cv_RX7_187 iv_yX7_wrong (As := []) (kX7_wrong _ d h0 r0_rows r0_line r0_good r0_work a0_kept a0_tried a0_chosen x0_shelf x0_rowSort x0_rowSize x0_rows x0_moved x0_shown x0_tape x0_tapeSize x0_refused x0_lines x0_line x0_changes x0_coins x0_goods x0_good x0_works x0_work x0_years x0_gone x0_spent x0_at x0_token x0_from x0_figures x0_fault x0_numbers x0_statements x0_left x0_far x0_tons x0_way x0_steps x0_met x0_queue x0_totals e20) rfl rfl (Nat.le_of_ble_eq_true rfl) (by decide) 0 0 rfl rfl rfl [0] [1] rfl rfl rfl rfl [1, 0] rfl (fun _ => rfl) (fun _ => rfl) rfl rfl rfl (fun _ => rfl) (fun _ => ?_)
    obtain ⟨v21, ev21, hf⟩ := bs hf
    obtain rfl := Option.some.inj hf
    exact J_zret hK hR dX7_told_12 () (zb_ok ev21).2 (by rw [(zb_ok ev21).1]) (by decide) (by decide)

def fX7_perhaps (n : Nat) (X0 : MdT) (p1 : Nat) (m2 : Nat) (p2 : (Nat → Int32)) (p3 : Int32) (p4 : Int32) (p5 : Int32) : Option (Int32 × (Int32 × Int32 × Int32 × Int64 × Int32) × (Nat → Int32)) :=
  u35 (fun (x0_shelf : (Nat → Int32)) (x0_rowSort : (Nat → Int32)) (x0_rowSize : (Nat → Int32)) (x0_rows : (Nat → Nat → Int64)) (x0_moved : (Nat → Int64)) (x0_shown : (Nat → Int32)) (x0_tape : (Nat → Int32)) (x0_tapeSize : Int32) (x0_refused : (Nat → Int32)) (x0_lines : Int32) (x0_line : (Nat → Nat → Int32)) (x0_changes : (Nat → Int32)) (x0_coins : (Nat → Int32)) (x0_goods : Int32) (x0_good : (Nat → Nat → Int32)) (x0_works : Int32) (x0_work : (Nat → Nat → Int32)) (x0_years : Int32) (x0_gone : Int32) (x0_spent : Int32) (x0_at : Int32) (x0_token : Int32) (x0_from : Int32) (x0_figures : Int64) (x0_fault : Int32) (x0_numbers : (Nat → Int32)) (x0_statements : Int32) (x0_left : (Nat → Int32)) (x0_far : (Nat → Int32)) (x0_tons : Int32) (x0_way : (Nat → Int32)) (x0_steps : Int32) (x0_met : Int64) (x0_queue : (Nat → Int32)) (x0_totals : (Nat → Int32)) => (fX7_isWord n (x0_shelf, x0_rowSort, x0_rowSize, x0_rows, x0_moved, x0_shown, x0_tape, x0_tapeSize, x0_refused, x0_lines, x0_line, x0_changes, x0_coins, x0_goods, x0_good, x0_works, x0_work, x0_years, x0_gone, x0_spent, x0_at, x0_token, x0_from, x0_figures, x0_fault, x0_numbers, x0_statements, x0_left, x0_far, x0_tons, x0_way, x0_steps, x0_met, x0_queue, x0_totals) p1).bind (fun v1 => if v1 = 0 then (some (1, (x0_at, x0_token, x0_from, x0_figures, x0_fault), p2)) else ((fX7_told n (x0_shelf, x0_rowSort, x0_rowSize, x0_rows, x0_moved, x0_shown, x0_tape, x0_tapeSize, x0_refused, x0_lines, x0_line, x0_changes, x0_coins, x0_goods, x0_good, x0_works, x0_work, x0_years, x0_gone, x0_spent, x0_at, x0_token, x0_from, x0_figures, x0_fault, x0_numbers, x0_statements, x0_left, x0_far, x0_tons, x0_way, x0_steps, x0_met, x0_queue, x0_totals) p1 m2 p2 p3 p4 p5).bind (u3 fun v3 G4 g10 => u5 (fun g5 g6 g7 g8 g9 => if v3 = 0 then (some (0, (g5, g6, g7, g8, g9), g10)) else (some (1, (g5, g6, g7, g8, g9), g10))) G4)))) X0
set_option maxHeartbeats 4000000 in
set_option maxRecDepth 100000 in
theorem kX7_perhaps (l : Launch) (d : DT) (h0 : Nat → Nat) (r0_rows : Nat → Nat) (r0_line : Nat → Nat) (r0_good : Nat → Nat) (r0_work : Nat → Nat) (a0_kept : Option Nat) (a0_tried : Option Nat) (a0_chosen : Option Nat) (b2 : Nat) (n : Nat) (x0_shelf : (Nat → Int32)) (x0_rowSort : (Nat → Int32)) (x0_rowSize : (Nat → Int32)) (x0_rows : (Nat → Nat → Int64)) (x0_moved : (Nat → Int64)) (x0_shown : (Nat → Int32)) (x0_tape : (Nat → Int32)) (x0_tapeSize : Int32) (x0_refused : (Nat → Int32)) (x0_lines : Int32) (x0_line : (Nat → Nat → Int32)) (x0_changes : (Nat → Int32)) (x0_coins : (Nat → Int32)) (x0_goods : Int32) (x0_good : (Nat → Nat → Int32)) (x0_works : Int32) (x0_work : (Nat → Nat → Int32)) (x0_years : Int32) (x0_gone : Int32) (x0_spent : Int32) (x0_at : Int32) (x0_token : Int32) (x0_from : Int32) (x0_figures : Int64) (x0_fault : Int32) (x0_numbers : (Nat → Int32)) (x0_statements : Int32) (x0_left : (Nat → Int32)) (x0_far : (Nat → Int32)) (x0_tons : Int32) (x0_way : (Nat → Int32)) (x0_steps : Int32) (x0_met : Int64) (x0_queue : (Nat → Int32)) (x0_totals : (Nat → Int32)) (p1 : Nat) (m2 : Nat) (p2 : (Nat → Int32)) (p3 : Int32) (p4 : Int32) (p5 : Int32)  {out : Int32 × (Int32 × Int32 × Int32 × Int64 × Int32) × (Nat → Int32)} (hf : fX7_perhaps n (x0_shelf, x0_rowSort, x0_rowSize, x0_rows, x0_moved, x0_shown, x0_tape, x0_tapeSize, x0_refused, x0_lines, x0_line, x0_changes, x0_coins, x0_goods, x0_good, x0_works, x0_work, x0_years, x0_gone, x0_spent, x0_at, x0_token, x0_from, x0_figures, x0_fault, x0_numbers, x0_statements, x0_left, x0_far, x0_tons, x0_way, x0_steps, x0_met, x0_queue, x0_totals) p1 m2 p2 p3 p4 p5 = some out) : Ct l d yX7_perhaps cX7_perhaps 6 (some .boolean) { frames := 6, cells := 0, slots := 0, locals := 132 } [.ref (h0 0), .ref (d.2.2.2.1 p1), .ref b2, .int p3, .int p4, .int p5] [gMd d h0 a0_kept a0_tried a0_chosen r0_rows r0_line r0_good r0_work x0_shelf x0_rowSort x0_rowSize x0_moved x0_shown x0_tape x0_tapeSize x0_refused x0_lines x0_changes x0_coins x0_goods x0_works x0_years x0_gone x0_spent x0_at x0_token x0_from x0_figures x0_fault x0_numbers x0_statements x0_left x0_far x0_tons x0_way x0_steps x0_met x0_queue x0_totals, [cI d b2 m2 p2]] (fun _ : Unit => (some (.int out.1), [gMd d h0 a0_kept a0_tried a0_chosen r0_rows r0_line r0_good r0_work x0_shelf x0_rowSort x0_rowSize x0_moved x0_shown x0_tape x0_tapeSize x0_refused x0_lines x0_changes x0_coins x0_goods x0_works x0_years x0_gone x0_spent (out.2.1.1) (out.2.1.2.1) (out.2.1.2.2.1) (out.2.1.2.2.2.1) (out.2.1.2.2.2.2) x0_numbers x0_statements x0_left x0_far x0_tons x0_way x0_steps x0_met x0_queue x0_totals, [cI d b2 m2 (out.2.2)]])) := by
  refine Ct.of (by decide) (Nat.le_of_ble_eq_true rfl) ?_
  intro Φ hl hK hR
  subst hl
  have hK : Ok d Φ RX7 "perhaps" cX7_perhaps 6 (some .boolean) { frames := 6, cells := 0, slots := 0, locals := 132 } := hK
  unfold fX7_perhaps at hf
  have hf := un35 hf
  show J d Φ 6 [gMd d h0 a0_kept a0_tried a0_chosen r0_rows r0_line r0_good r0_work x0_shelf x0_rowSort x0_rowSize x0_moved x0_shown x0_tape x0_tapeSize x0_refused x0_lines x0_changes x0_coins x0_goods x0_works x0_years x0_gone x0_spent x0_at x0_token x0_from x0_figures x0_fault x0_numbers x0_statements x0_left x0_far x0_tons x0_way x0_steps x0_met x0_queue x0_totals, [cI d b2 m2 p2]] 0 0 0 [(0, .ref (h0 0)), (1, .ref (d.2.2.2.1 p1)), (2, .ref b2), (3, .int p3), (4, .int p4), (5, .int p5)] []
  refine J_aload_n hK dX7_perhaps_0 rfl 0 rfl rfl ?_
  refine J_aload_n hK dX7_perhaps_1 rfl 1 rfl rfl ?_
  obtain ⟨v1, e2, hf⟩ := bs hf
  refine J_callV (m' := 2) (ce' := 0) (sl' := 0) (gr := [[cI d b2 m2 p2]]) (gs' := fun _ => [gMd d h0 a0_kept a0_tried a0_chosen r0_rows r0_line r0_good r0_work x0_shelf x0_rowSort x0_rowSize x0_moved x0_shown x0_tape x0_tapeSize x0_refused x0_lines x0_changes x0_coins x0_goods x0_works x0_years x0_gone x0_spent x0_at x0_token x0_from x0_figures x0_fault x0_numbers x0_statements x0_left x0_far x0_tons x0_way x0_steps x0_met x0_queue x0_totals, [cI d b2 m2 p2]]) (st' := fun _ => [.int v1]) (st := []) hK dX7_perhaps_2 cv_RX7_194 iv_yX7_isWord (As := [.ref (d.2.2.2.1 p1)]) (kX7_isWord _ d h0 r0_rows r0_line r0_good r0_work a0_kept a0_tried a0_chosen n x0_shelf x0_rowSort x0_rowSize x0_rows x0_moved x0_shown x0_tape x0_tapeSize x0_refused x0_lines x0_line x0_changes x0_coins x0_goods x0_good x0_works x0_work x0_years x0_gone x0_spent x0_at x0_token x0_from x0_figures x0_fault x0_numbers x0_statements x0_left x0_far x0_tons x0_way x0_steps x0_met x0_queue x0_totals p1 e2) rfl rfl (Nat.le_of_ble_eq_true rfl) (by decide) 0 0 rfl rfl rfl [0] [1] rfl rfl rfl rfl [1, 0] rfl (fun _ => rfl) (fun _ => rfl) rfl rfl rfl (fun _ => rfl) (fun _ => ?_)
  refine J_if_eq (tg := 22) hK dX7_perhaps_5 rfl rfl (fun hc5 => ?_) (fun hc5 => ?_)
  · have hf := ip hc5 hf
    refine J_iconst (v := 1) hK dX7_perhaps_22 rfl (by decide) ?_
    refine J_goto hK dX7_perhaps_23 (n := 27) rfl ?_
    obtain rfl := Option.some.inj hf
    exact J_zret hK hR dX7_perhaps_27 () rfl rfl (by decide) (by decide)
  · have hf := iq hc5 hf
    refine J_aload_n hK dX7_perhaps_8 rfl 0 rfl rfl ?_
    refine J_aload_n hK dX7_perhaps_9 rfl 1 rfl rfl ?_
    refine J_aload_n hK dX7_perhaps_10 rfl 2 rfl rfl ?_
    refine J_iload_n hK dX7_perhaps_11 rfl 3 rfl rfl ?_
    refine J_iload hK dX7_perhaps_12 rfl 4 rfl ?_
    refine J_iload hK dX7_perhaps_14 rfl 5 rfl ?_
    obtain ⟨⟨v3, ⟨g5, g6, g7, g8, g9⟩, g10⟩, e11, hf⟩ := bs hf
    have hf := un3 hf
    have hf := un5 hf
    refine J_callV (m' := 2) (ce' := 0) (sl' := 0) (gr := []) (gs' := fun _ => [gMd d h0 a0_kept a0_tried a0_chosen r0_rows r0_line r0_good r0_work x0_shelf x0_rowSort x0_rowSize x0_moved x0_shown x0_tape x0_tapeSize x0_refused x0_lines x0_changes x0_coins x0_goods x0_works x0_years x0_gone x0_spent g5 g6 g7 g8 g9 x0_numbers x0_statements x0_left x0_far x0_tons x0_way x0_steps x0_met x0_queue x0_totals, [cI d b2 m2 g10]]) (st' := fun _ => [.int v3]) (st := []) hK dX7_perhaps_16 cv_RX7_202 iv_yX7_told (As := [.ref (d.2.2.2.1 p1), .ref b2, .int p3, .int p4, .int p5]) (kX7_told _ d h0 r0_rows r0_line r0_good r0_work a0_kept a0_tried a0_chosen b2 n x0_shelf x0_rowSort x0_rowSize x0_rows x0_moved x0_shown x0_tape x0_tapeSize x0_refused x0_lines x0_line x0_changes x0_coins x0_goods x0_good x0_works x0_work x0_years x0_gone x0_spent x0_at x0_token x0_from x0_figures x0_fault x0_numbers x0_statements x0_left x0_far x0_tons x0_way x0_steps x0_met x0_queue x0_totals p1 m2 p2 p3 p4 p5 e11) rfl rfl (Nat.le_of_ble_eq_true rfl) (by decide) 0 0 rfl rfl rfl [0, 1] [] rfl rfl rfl rfl [0, 1] rfl (fun _ => rfl) (fun _ => rfl) rfl rfl rfl (fun _ => rfl) (fun _ => ?_)
    refine J_if_eq (tg := 26) hK dX7_perhaps_19 rfl rfl (fun hc19 => ?_) (fun hc19 => ?_)
    · have hf := ip hc19 hf
      refine J_iconst (v := 0) hK dX7_perhaps_26 rfl (by decide) ?_
      obtain rfl := Option.some.inj hf
      exact J_zret hK hR dX7_perhaps_27 () rfl rfl (by decide) (by decide)
    · have hf := iq hc19 hf
      refine J_iconst (v := 1) hK dX7_perhaps_22 rfl (by decide) ?_
      refine J_goto hK dX7_perhaps_23 (n := 27) rfl ?_
      obtain rfl := Option.some.inj hf
      exact J_zret hK hR dX7_perhaps_27 () rfl rfl (by decide) (by decide)

def fX7_two_j43 (n : Nat) (m1 : Nat) (x0_shelf : (Nat → Int32)) (x0_rowSort : (Nat → Int32)) (x0_rowSize : (Nat → Int32)) (x0_rows : (Nat → Nat → Int64)) (x0_moved : (Nat → Int64)) (x0_shown : (Nat → Int32)) (x0_tape : (Nat → Int32)) (x0_tapeSize : Int32) (x0_refused : (Nat → Int32)) (x0_lines : Int32) (x0_line : (Nat → Nat → Int32)) (x0_changes : (Nat → Int32)) (x0_coins : (Nat → Int32)) (x0_goods : Int32) (x0_good : (Nat → Nat → Int32)) (x0_works : Int32) (x0_work : (Nat → Nat → Int32)) (x0_years : Int32) (x0_gone : Int32) (x0_spent : Int32) (x0_numbers : (Nat → Int32)) (x0_statements : Int32) (x0_left : (Nat → Int32)) (x0_far : (Nat → Int32)) (x0_tons : Int32) (x0_way : (Nat → Int32)) (x0_steps : Int32) (x0_met : Int64) (x0_queue : (Nat → Int32)) (x0_totals : (Nat → Int32)) (g8 : Int32) (g9 : Int32) (g10 : Int32) (g11 : Int64) (g12 : Int32) (g13 : (Nat → Int32)) : Option (Int32 × (Int32 × Int32 × Int32 × Int64 × Int32) × (Nat → Int32)) :=
  (fX7_number n (x0_shelf, x0_rowSort, x0_rowSize, x0_rows, x0_moved, x0_shown, x0_tape, x0_tapeSize, x0_refused, x0_lines, x0_line, x0_changes, x0_coins, x0_goods, x0_good, x0_works, x0_work, x0_years, x0_gone, x0_spent, g8, g9, g10, g11, g12, x0_numbers, x0_statements, x0_left, x0_far, x0_tons, x0_way, x0_steps, x0_met, x0_queue, x0_totals) m1 g13 (1) (0) (11)).bind (u3 fun v15 G16 g22 => u5 (fun g17 g18 g19 g20 g21 => (zb v15).bind fun v24 => some (v24, (g17, g18, g19, g20, g21), g22)) G16)
def fX7_two (n : Nat) (X0 : MdT) (m1 : Nat) (p1 : (Nat → Int32)) : Option (Int32 × (Int32 × Int32 × Int32 × Int64 × Int32) × (Nat → Int32)) :=
  u35 (fun (x0_shelf : (Nat → Int32)) (x0_rowSort : (Nat → Int32)) (x0_rowSize : (Nat → Int32)) (x0_rows : (Nat → Nat → Int64)) (x0_moved : (Nat → Int64)) (x0_shown : (Nat → Int32)) (x0_tape : (Nat → Int32)) (x0_tapeSize : Int32) (x0_refused : (Nat → Int32)) (x0_lines : Int32) (x0_line : (Nat → Nat → Int32)) (x0_changes : (Nat → Int32)) (x0_coins : (Nat → Int32)) (x0_goods : Int32) (x0_good : (Nat → Nat → Int32)) (x0_works : Int32) (x0_work : (Nat → Nat → Int32)) (x0_years : Int32) (x0_gone : Int32) (x0_spent : Int32) (x0_at : Int32) (x0_token : Int32) (x0_from : Int32) (x0_figures : Int64) (x0_fault : Int32) (x0_numbers : (Nat → Int32)) (x0_statements : Int32) (x0_left : (Nat → Int32)) (x0_far : (Nat → Int32)) (x0_tons : Int32) (x0_way : (Nat → Int32)) (x0_steps : Int32) (x0_met : Int64) (x0_queue : (Nat → Int32)) (x0_totals : (Nat → Int32)) => (fX7_look n (x0_shelf, x0_rowSort, x0_rowSize, x0_rows, x0_moved, x0_shown, x0_tape, x0_tapeSize, x0_refused, x0_lines, x0_line, x0_changes, x0_coins, x0_goods, x0_good, x0_works, x0_work, x0_years, x0_gone, x0_spent, x0_at, x0_token, x0_from, x0_figures, x0_fault, x0_numbers, x0_statements, x0_left, x0_far, x0_tons, x0_way, x0_steps, x0_met, x0_queue, x0_totals)).bind (u4 fun g1 g2 g3 g4 => (fX7_number n (x0_shelf, x0_rowSort, x0_rowSize, x0_rows, x0_moved, x0_shown, x0_tape, x0_tapeSize, x0_refused, x0_lines, x0_line, x0_changes, x0_coins, x0_goods, x0_good, x0_works, x0_work, x0_years, x0_gone, x0_spent, g1, g2, g3, g4, x0_fault, x0_numbers, x0_statements, x0_left, x0_far, x0_tons, x0_way, x0_steps, x0_met, x0_queue, x0_totals) m1 p1 (0) (0) (11)).bind (u3 fun v6 G7 g13 => u5 (fun g8 g9 g10 g11 g12 => if v6 = 0 then (some (0, (g8, g9, g10, g11, g12), g13)) else (if g9 = 2 then ((rd m1 g13 (0)).bind fun v25 => if (lg_cmp g11 ((v25).toInt64)) = 0 then ((fX7_wrong (x0_shelf, x0_rowSort, x0_rowSize, x0_rows, x0_moved, x0_shown, x0_tape, x0_tapeSize, x0_refused, x0_lines, x0_line, x0_changes, x0_coins, x0_goods, x0_good, x0_works, x0_work, x0_years, x0_gone, x0_spent, g8, g9, g10, g11, g12, x0_numbers, x0_statements, x0_left, x0_far, x0_tons, x0_way, x0_steps, x0_met, x0_queue, x0_totals)).bind (u2 fun v26 g27 => (zb v26).bind fun v29 => some (v29, (g8, g9, g10, g11, g27), g13))) else (fX7_two_j43 n m1 x0_shelf x0_rowSort x0_rowSize x0_rows x0_moved x0_shown x0_tape x0_tapeSize x0_refused x0_lines x0_line x0_changes x0_coins x0_goods x0_good x0_works x0_work x0_years x0_gone x0_spent x0_numbers x0_statements x0_left x0_far x0_tons x0_way x0_steps x0_met x0_queue x0_totals g8 g9 g10 g11 g12 g13)) else (fX7_two_j43 n m1 x0_shelf x0_rowSort x0_rowSize x0_rows x0_moved x0_shown x0_tape x0_tapeSize x0_refused x0_lines x0_line x0_changes x0_coins x0_goods x0_good x0_works x0_work x0_years x0_gone x0_spent x0_numbers x0_statements x0_left x0_far x0_tons x0_way x0_steps x0_met x0_queue x0_totals g8 g9 g10 g11 g12 g13))) G7))) X0
set_option maxHeartbeats 4000000 in
set_option maxRecDepth 100000 in
theorem kX7_two (l : Launch) (d : DT) (h0 : Nat → Nat) (r0_rows : Nat → Nat) (r0_line : Nat → Nat) (r0_good : Nat → Nat) (r0_work : Nat → Nat) (a0_kept : Option Nat) (a0_tried : Option Nat) (a0_chosen : Option Nat) (b1 : Nat) (n : Nat) (x0_shelf : (Nat → Int32)) (x0_rowSort : (Nat → Int32)) (x0_rowSize : (Nat → Int32)) (x0_rows : (Nat → Nat → Int64)) (x0_moved : (Nat → Int64)) (x0_shown : (Nat → Int32)) (x0_tape : (Nat → Int32)) (x0_tapeSize : Int32) (x0_refused : (Nat → Int32)) (x0_lines : Int32) (x0_line : (Nat → Nat → Int32)) (x0_changes : (Nat → Int32)) (x0_coins : (Nat → Int32)) (x0_goods : Int32) (x0_good : (Nat → Nat → Int32)) (x0_works : Int32) (x0_work : (Nat → Nat → Int32)) (x0_years : Int32) (x0_gone : Int32) (x0_spent : Int32) (x0_at : Int32) (x0_token : Int32) (x0_from : Int32) (x0_figures : Int64) (x0_fault : Int32) (x0_numbers : (Nat → Int32)) (x0_statements : Int32) (x0_left : (Nat → Int32)) (x0_far : (Nat → Int32)) (x0_tons : Int32) (x0_way : (Nat → Int32)) (x0_steps : Int32) (x0_met : Int64) (x0_queue : (Nat → Int32)) (x0_totals : (Nat → Int32)) (m1 : Nat) (p1 : (Nat → Int32))  {out : Int32 × (Int32 × Int32 × Int32 × Int64 × Int32) × (Nat → Int32)} (hf : fX7_two n (x0_shelf, x0_rowSort, x0_rowSize, x0_rows, x0_moved, x0_shown, x0_tape, x0_tapeSize, x0_refused, x0_lines, x0_line, x0_changes, x0_coins, x0_goods, x0_good, x0_works, x0_work, x0_years, x0_gone, x0_spent, x0_at, x0_token, x0_from, x0_figures, x0_fault, x0_numbers, x0_statements, x0_left, x0_far, x0_tons, x0_way, x0_steps, x0_met, x0_queue, x0_totals) m1 p1 = some out) : Ct l d yX7_two cX7_two 2 (some .boolean) { frames := 3, cells := 0, slots := 0, locals := 64 } [.ref (h0 0), .ref b1] [gMd d h0 a0_kept a0_tried a0_chosen r0_rows r0_line r0_good r0_work x0_shelf x0_rowSort x0_rowSize x0_moved x0_shown x0_tape x0_tapeSize x0_refused x0_lines x0_changes x0_coins x0_goods x0_works x0_years x0_gone x0_spent x0_at x0_token x0_from x0_figures x0_fault x0_numbers x0_statements x0_left x0_far x0_tons x0_way x0_steps x0_met x0_queue x0_totals, [cI d b1 m1 p1]] (fun _ : Unit => (some (.int out.1), [gMd d h0 a0_kept a0_tried a0_chosen r0_rows r0_line r0_good r0_work x0_shelf x0_rowSort x0_rowSize x0_moved x0_shown x0_tape x0_tapeSize x0_refused x0_lines x0_changes x0_coins x0_goods x0_works x0_years x0_gone x0_spent (out.2.1.1) (out.2.1.2.1) (out.2.1.2.2.1) (out.2.1.2.2.2.1) (out.2.1.2.2.2.2) x0_numbers x0_statements x0_left x0_far x0_tons x0_way x0_steps x0_met x0_queue x0_totals, [cI d b1 m1 (out.2.2)]])) := by
  refine Ct.of (by decide) (Nat.le_of_ble_eq_true rfl) ?_
  intro Φ hl hK hR
  subst hl
  have hK : Ok d Φ RX7 "two" cX7_two 2 (some .boolean) { frames := 3, cells := 0, slots := 0, locals := 64 } := hK
  unfold fX7_two at hf
  have hf := un35 hf
  show J d Φ 2 [gMd d h0 a0_kept a0_tried a0_chosen r0_rows r0_line r0_good r0_work x0_shelf x0_rowSort x0_rowSize x0_moved x0_shown x0_tape x0_tapeSize x0_refused x0_lines x0_changes x0_coins x0_goods x0_works x0_years x0_gone x0_spent x0_at x0_token x0_from x0_figures x0_fault x0_numbers x0_statements x0_left x0_far x0_tons x0_way x0_steps x0_met x0_queue x0_totals, [cI d b1 m1 p1]] 0 0 0 [(0, .ref (h0 0)), (1, .ref b1)] []
  refine J_aload_n hK dX7_two_0 rfl 0 rfl rfl ?_
  obtain ⟨⟨g1, g2, g3, g4⟩, e5, hf⟩ := bs hf
  have hf := un4 hf
  refine J_callV (m' := 2) (ce' := 0) (sl' := 0) (gr := [[cI d b1 m1 p1]]) (gs' := fun _ => [gMd d h0 a0_kept a0_tried a0_chosen r0_rows r0_line r0_good r0_work x0_shelf x0_rowSort x0_rowSize x0_moved x0_shown x0_tape x0_tapeSize x0_refused x0_lines x0_changes x0_coins x0_goods x0_works x0_years x0_gone x0_spent g1 g2 g3 g4 x0_fault x0_numbers x0_statements x0_left x0_far x0_tons x0_way x0_steps x0_met x0_queue x0_totals, [cI d b1 m1 p1]]) (st' := fun _ => []) (st := []) hK dX7_two_1 cv_RX7_191 iv_yX7_look (As := []) (kX7_look _ d h0 r0_rows r0_line r0_good r0_work a0_kept a0_tried a0_chosen n x0_shelf x0_rowSort x0_rowSize x0_rows x0_moved x0_shown x0_tape x0_tapeSize x0_refused x0_lines x0_line x0_changes x0_coins x0_goods x0_good x0_works x0_work x0_years x0_gone x0_spent x0_at x0_token x0_from x0_figures x0_fault x0_numbers x0_statements x0_left x0_far x0_tons x0_way x0_steps x0_met x0_queue x0_totals e5) rfl rfl (Nat.le_of_ble_eq_true rfl) (by decide) 0 0 rfl rfl rfl [0] [1] rfl rfl rfl rfl [1, 0] rfl (fun _ => rfl) (fun _ => rfl) rfl rfl rfl (fun _ => rfl) (fun _ => ?_)
  refine J_aload_n hK dX7_two_4 rfl 0 rfl rfl ?_
  refine J_aload_n hK dX7_two_5 rfl 1 rfl rfl ?_
  refine J_iconst (v := 0) hK dX7_two_6 rfl (by decide) ?_
  refine J_iconst (v := 0) hK dX7_two_7 rfl (by decide) ?_
  refine J_bipush (v := 11) hK dX7_two_8 rfl (by decide) ?_
  obtain ⟨⟨v6, ⟨g8, g9, g10, g11, g12⟩, g13⟩, e14, hf⟩ := bs hf
  have hf := un3 hf
  have hf := un5 hf
  refine J_callV (m' := 2) (ce' := 0) (sl' := 0) (gr := []) (gs' := fun _ => [gMd d h0 a0_kept a0_tried a0_chosen r0_rows r0_line r0_good r0_work x0_shelf x0_rowSort x0_rowSize x0_moved x0_shown x0_tape x0_tapeSize x0_refused x0_lines x0_changes x0_coins x0_goods x0_works x0_years x0_gone x0_spent g8 g9 g10 g11 g12 x0_numbers x0_statements x0_left x0_far x0_tons x0_way x0_steps x0_met x0_queue x0_totals, [cI d b1 m1 g13]]) (st' := fun _ => [.int v6]) (st := []) hK dX7_two_10 cv_RX7_198 iv_yX7_number (As := [.ref b1, .int (0), .int (0), .int (11)]) (kX7_number _ d h0 r0_rows r0_line r0_good r0_work a0_kept a0_tried a0_chosen b1 n x0_shelf x0_rowSort x0_rowSize x0_rows x0_moved x0_shown x0_tape x0_tapeSize x0_refused x0_lines x0_line x0_changes x0_coins x0_goods x0_good x0_works x0_work x0_years x0_gone x0_spent g1 g2 g3 g4 x0_fault x0_numbers x0_statements x0_left x0_far x0_tons x0_way x0_steps x0_met x0_queue x0_totals m1 p1 (0) (0) (11) e14) rfl rfl (Nat.le_of_ble_eq_true rfl) (by decide) 0 0 rfl rfl rfl [0, 1] [] rfl rfl rfl rfl [0, 1] rfl (fun _ => rfl) (fun _ => rfl) rfl rfl rfl (fun _ => rfl) (fun _ => ?_)
  refine J_if_ne (tg := 18) hK dX7_two_13 rfl rfl (fun hc13 => ?_) (fun hc13 => ?_)
  · have hf := iq hc13 hf
    refine J_aload_n hK dX7_two_18 rfl 0 rfl rfl ?_
    refine J_get hK fo_RX7_159 dX7_two_19 rfl 0 0 rfl rfl rfl ?_
    refine J_iconst (v := 2) hK dX7_two_22 rfl (by decide) ?_
    have j43 : fX7_two_j43 n m1 x0_shelf x0_rowSort x0_rowSize x0_rows x0_moved x0_shown x0_tape x0_tapeSize x0_refused x0_lines x0_line x0_changes x0_coins x0_goods x0_good x0_works x0_work x0_years x0_gone x0_spent x0_numbers x0_statements x0_left x0_far x0_tons x0_way x0_steps x0_met x0_queue x0_totals g8 g9 g10 g11 g12 g13 = some out → J d Φ 2 [gMd d h0 a0_kept a0_tried a0_chosen r0_rows r0_line r0_good r0_work x0_shelf x0_rowSort x0_rowSize x0_moved x0_shown x0_tape x0_tapeSize x0_refused x0_lines x0_changes x0_coins x0_goods x0_works x0_years x0_gone x0_spent g8 g9 g10 g11 g12 x0_numbers x0_statements x0_left x0_far x0_tons x0_way x0_steps x0_met x0_queue x0_totals, [cI d b1 m1 g13]] 0 0 43 [(0, .ref (h0 0)), (1, .ref b1)] [] := by
      intro  hf
      unfold fX7_two_j43 at hf
      refine J_aload_n hK dX7_two_43 rfl 0 rfl rfl ?_
      refine J_aload_n hK dX7_two_44 rfl 1 rfl rfl ?_
      refine J_iconst (v := 1) hK dX7_two_45 rfl (by decide) ?_
      refine J_iconst (v := 0) hK dX7_two_46 rfl (by decide) ?_
      refine J_bipush (v := 11) hK dX7_two_47 rfl (by decide) ?_
      obtain ⟨⟨v15, ⟨g17, g18, g19, g20, g21⟩, g22⟩, e23, hf⟩ := bs hf
      have hf := un3 hf
      have hf := un5 hf
      refine J_callV (m' := 2) (ce' := 0) (sl' := 0) (gr := []) (gs' := fun _ => [gMd d h0 a0_kept a0_tried a0_chosen r0_rows r0_line r0_good r0_work x0_shelf x0_rowSort x0_rowSize x0_moved x0_shown x0_tape x0_tapeSize x0_refused x0_lines x0_changes x0_coins x0_goods x0_works x0_years x0_gone x0_spent g17 g18 g19 g20 g21 x0_numbers x0_statements x0_left x0_far x0_tons x0_way x0_steps x0_met x0_queue x0_totals, [cI d b1 m1 g22]]) (st' := fun _ => [.int v15]) (st := []) hK dX7_two_49 cv_RX7_198 iv_yX7_number (As := [.ref b1, .int (1), .int (0), .int (11)]) (kX7_number _ d h0 r0_rows r0_line r0_good r0_work a0_kept a0_tried a0_chosen b1 n x0_shelf x0_rowSort x0_rowSize x0_rows x0_moved x0_shown x0_tape x0_tapeSize x0_refused x0_lines x0_line x0_changes x0_coins x0_goods x0_good x0_works x0_work x0_years x0_gone x0_spent g8 g9 g10 g11 g12 x0_numbers x0_statements x0_left x0_far x0_tons x0_way x0_steps x0_met x0_queue x0_totals m1 g13 (1) (0) (11) e23) rfl rfl (Nat.le_of_ble_eq_true rfl) (by decide) 0 0 rfl rfl rfl [0, 1] [] rfl rfl rfl rfl [0, 1] rfl (fun _ => rfl) (fun _ => rfl) rfl rfl rfl (fun _ => rfl) (fun _ => ?_)
      obtain ⟨v24, ev24, hf⟩ := bs hf
      obtain rfl := Option.some.inj hf
      exact J_zret hK hR dX7_two_52 () (zb_ok ev24).2 (by rw [(zb_ok ev24).1]) (by decide) (by decide)
    refine J_icmp_ne (tg := 43) hK dX7_two_23 rfl rfl (fun hc23 => ?_) (fun hc23 => ?_)
    · have hf := iq hc23 hf
      exact (j43  hf)
    · have hf := ip hc23 hf
      refine J_aload_n hK dX7_two_26 rfl 0 rfl rfl ?_
      refine J_get hK fo_RX7_155 dX7_two_27 rfl 0 0 rfl rfl rfl ?_
      refine J_aload_n hK dX7_two_30 rfl 1 rfl rfl ?_
      refine J_iconst (v := 0) hK dX7_two_31 rfl (by decide) ?_
      obtain ⟨v25, ev25, hf⟩ := bs hf
      refine J_iald hK dX7_two_32 rfl 1 0 rfl rfl ev25 ?_
      refine J_i2l hK dX7_two_33 rfl ?_
      refine J_lcmp hK dX7_two_34 rfl ?_
      refine J_if_ne (tg := 43) hK dX7_two_35 rfl rfl (fun hc35 => ?_) (fun hc35 => ?_)
      · have hf := iq hc35 hf
        exact (j43  hf)
      · have hf := ip hc35 hf
        refine J_aload_n hK dX7_two_38 rfl 0 rfl rfl ?_
        obtain ⟨⟨v26, g27⟩, e28, hf⟩ := bs hf
        have hf := un2 hf
        refine J_callV (m' := 2) (ce' := 0) (sl' := 0) (gr := [[cI d b1 m1 g13]]) (gs' := fun _ => [gMd d h0 a0_kept a0_tried a0_chosen r0_rows r0_line r0_good r0_work x0_shelf x0_rowSort x0_rowSize x0_moved x0_shown x0_tape x0_tapeSize x0_refused x0_lines x0_changes x0_coins x0_goods x0_works x0_years x0_gone x0_spent g8 g9 g10 g11 g27 x0_numbers x0_statements x0_left x0_far x0_tons x0_way x0_steps x0_met x0_queue x0_totals, [cI d b1 m1 g13]]) (st' := fun _ => [.int v26]) (st := []) hK dX7_two_39 cv_RX7_187 iv_yX7_wrong (As := []) (kX7_wrong _ d h0 r0_rows r0_line r0_good r0_work a0_kept a0_tried a0_chosen x0_shelf x0_rowSort x0_rowSize x0_rows x0_moved x0_shown x0_tape x0_tapeSize x0_refused x0_lines x0_line x0_changes x0_coins x0_goods x0_good x0_works x0_work x0_years x0_gone x0_spent g8 g9 g10 g11 g12 x0_numbers x0_statements x0_left x0_far x0_tons x0_way x0_steps x0_met x0_queue x0_totals e28) rfl rfl (Nat.le_of_ble_eq_true rfl) (by decide) 0 0 rfl rfl rfl [0] [1] rfl rfl rfl rfl [1, 0] rfl (fun _ => rfl) (fun _ => rfl) rfl rfl rfl (fun _ => rfl) (fun _ => ?_)
        obtain ⟨v29, ev29, hf⟩ := bs hf
        obtain rfl := Option.some.inj hf
        exact J_zret hK hR dX7_two_42 () (zb_ok ev29).2 (by rw [(zb_ok ev29).1]) (by decide) (by decide)
  · have hf := ip hc13 hf
    refine J_iconst (v := 0) hK dX7_two_16 rfl (by decide) ?_
    obtain rfl := Option.some.inj hf
    exact J_zret hK hR dX7_two_17 () rfl rfl (by decide) (by decide)

def fX7_workTold (n : Nat) (X0 : MdT) (m1 : Nat) (p1 : (Nat → Int32)) : Option (Int32 × (Int32 × Int32 × Int32 × Int32 × Int64 × Int32) × (Nat → Int32)) :=
  u35 (fun (x0_shelf : (Nat → Int32)) (x0_rowSort : (Nat → Int32)) (x0_rowSize : (Nat → Int32)) (x0_rows : (Nat → Nat → Int64)) (x0_moved : (Nat → Int64)) (x0_shown : (Nat → Int32)) (x0_tape : (Nat → Int32)) (x0_tapeSize : Int32) (x0_refused : (Nat → Int32)) (x0_lines : Int32) (x0_line : (Nat → Nat → Int32)) (x0_changes : (Nat → Int32)) (x0_coins : (Nat → Int32)) (x0_goods : Int32) (x0_good : (Nat → Nat → Int32)) (x0_works : Int32) (x0_work : (Nat → Nat → Int32)) (x0_years : Int32) (x0_gone : Int32) (x0_spent : Int32) (x0_at : Int32) (x0_token : Int32) (x0_from : Int32) (x0_figures : Int64) (x0_fault : Int32) (x0_numbers : (Nat → Int32)) (x0_statements : Int32) (x0_left : (Nat → Int32)) (x0_far : (Nat → Int32)) (x0_tons : Int32) (x0_way : (Nat → Int32)) (x0_steps : Int32) (x0_met : Int64) (x0_queue : (Nat → Int32)) (x0_totals : (Nat → Int32)) => (wr m1 p1 (4) (0)).bind fun f1 => (fX7_told n (x0_shelf, x0_rowSort, x0_rowSize, x0_rows, x0_moved, x0_shown, x0_tape, x0_tapeSize, x0_refused, x0_lines, x0_line, x0_changes, x0_coins, x0_goods, x0_good, x0_works, x0_work, x0_years, x0_gone, x0_spent, x0_at, x0_token, x0_from, x0_figures, x0_fault, x0_numbers, x0_statements, x0_left, x0_far, x0_tons, x0_way, x0_steps, x0_met, x0_queue, x0_totals) 16 m1 f1 (0) (1) (5)).bind (u3 fun v2 G3 g9 => u5 (fun g4 g5 g6 g7 g8 => if v2 = 0 then (some (0, (x0_works, g4, g5, g6, g7, g8), g9)) else (if g5 = 2 then ((fX7_in g7 (0 : Int64) (99 : Int64)).bind (fun v15 => if v15 = 0 then ((fX7_wrong (x0_shelf, x0_rowSort, x0_rowSize, x0_rows, x0_moved, x0_shown, x0_tape, x0_tapeSize, x0_refused, x0_lines, x0_line, x0_changes, x0_coins, x0_goods, x0_good, x0_works, x0_work, x0_years, x0_gone, x0_spent, g4, g5, g6, g7, g8, x0_numbers, x0_statements, x0_left, x0_far, x0_tons, x0_way, x0_steps, x0_met, x0_queue, x0_totals)).bind (u2 fun v17 g18 => (zb v17).bind fun v20 => some (v20, (x0_works, g4, g5, g6, g7, g18), g9))) else ((rd m1 g9 (0)).bind fun v21 => (fX7_mayBeFirst (x0_shelf, x0_rowSort, x0_rowSize, x0_rows, x0_moved, x0_shown, x0_tape, x0_tapeSize, x0_refused, x0_lines, x0_line, x0_changes, x0_coins, x0_goods, x0_good, x0_works, x0_work, x0_years, x0_gone, x0_spent, g4, g5, g6, g7, g8, x0_numbers, x0_statements, x0_left, x0_far, x0_tons, x0_way, x0_steps, x0_met, x0_queue, x0_totals) v21 ((g7).toInt32)).bind (fun v22 => if v22 = 0 then ((fX7_wrong (x0_shelf, x0_rowSort, x0_rowSize, x0_rows, x0_moved, x0_shown, x0_tape, x0_tapeSize, x0_refused, x0_lines, x0_line, x0_changes, x0_coins, x0_goods, x0_good, x0_works, x0_work, x0_years, x0_gone, x0_spent, g4, g5, g6, g7, g8, x0_numbers, x0_statements, x0_left, x0_far, x0_tons, x0_way, x0_steps, x0_met, x0_queue, x0_totals)).bind (u2 fun v69 g70 => (zb v69).bind fun v72 => some (v72, (x0_works, g4, g5, g6, g7, g70), g9))) else ((fX7_number n (x0_shelf, x0_rowSort, x0_rowSize, x0_rows, x0_moved, x0_shown, x0_tape, x0_tapeSize, x0_refused, x0_lines, x0_line, x0_changes, x0_coins, x0_goods, x0_good, x0_works, x0_work, x0_years, x0_gone, x0_spent, g4, g5, g6, g7, g8, x0_numbers, x0_statements, x0_left, x0_far, x0_tons, x0_way, x0_steps, x0_met, x0_queue, x0_totals) m1 g9 (1) (0) (99)).bind (u3 fun v24 G25 g31 => u5 (fun g26 g27 g28 g29 g30 => if g27 = 2 then ((fX7_in g29 (0 : Int64) (99 : Int64)).bind (fun v37 => if v37 = 0 then ((fX7_wrong (x0_shelf, x0_rowSort, x0_rowSize, x0_rows, x0_moved, x0_shown, x0_tape, x0_tapeSize, x0_refused, x0_lines, x0_line, x0_changes, x0_coins, x0_goods, x0_good, x0_works, x0_work, x0_years, x0_gone, x0_spent, g26, g27, g28, g29, g30, x0_numbers, x0_statements, x0_left, x0_far, x0_tons, x0_way, x0_steps, x0_met, x0_queue, x0_totals)).bind (u2 fun v39 g40 => (zb v39).bind fun v42 => some (v42, (x0_works, g26, g27, g28, g29, g40), g31))) else ((rd m1 g31 (0)).bind fun v43 => (rd m1 g31 (1)).bind fun v44 => (fX7_mayBeSecond v43 v44 ((g29).toInt32)).bind (fun v45 => if v45 = 0 then ((fX7_wrong (x0_shelf, x0_rowSort, x0_rowSize, x0_rows, x0_moved, x0_shown, x0_tape, x0_tapeSize, x0_refused, x0_lines, x0_line, x0_changes, x0_coins, x0_goods, x0_good, x0_works, x0_work, x0_years, x0_gone, x0_spent, g26, g27, g28, g29, g30, x0_numbers, x0_statements, x0_left, x0_far, x0_tons, x0_way, x0_steps, x0_met, x0_queue, x0_totals)).bind (u2 fun v65 g66 => (zb v65).bind fun v68 => some (v68, (x0_works, g26, g27, g28, g29, g66), g31))) else ((fX7_number n (x0_shelf, x0_rowSort, x0_rowSize, x0_rows, x0_moved, x0_shown, x0_tape, x0_tapeSize, x0_refused, x0_lines, x0_line, x0_changes, x0_coins, x0_goods, x0_good, x0_works, x0_work, x0_years, x0_gone, x0_spent, g26, g27, g28, g29, g30, x0_numbers, x0_statements, x0_left, x0_far, x0_tons, x0_way, x0_steps, x0_met, x0_queue, x0_totals) m1 g31 (2) (0) (99)).bind (u3 fun v47 G48 g54 => u5 (fun g49 g50 g51 g52 g53 => (fX7_number n (x0_shelf, x0_rowSort, x0_rowSize, x0_rows, x0_moved, x0_shown, x0_tape, x0_tapeSize, x0_refused, x0_lines, x0_line, x0_changes, x0_coins, x0_goods, x0_good, x0_works, x0_work, x0_years, x0_gone, x0_spent, g49, g50, g51, g52, g53, x0_numbers, x0_statements, x0_left, x0_far, x0_tons, x0_way, x0_steps, x0_met, x0_queue, x0_totals) m1 g54 (3) (0) (999)).bind (u3 fun v56 G57 g63 => u5 (fun g58 g59 g60 g61 g62 => if v56 = 0 then (some (0, (x0_works, g58, g59, g60, g61, g62), g63)) else (some (1, ((x0_works + 1), g58, g59, g60, g61, g62), g63))) G57)) G48)))))) else ((fX7_wrong (x0_shelf, x0_rowSort, x0_rowSize, x0_rows, x0_moved, x0_shown, x0_tape, x0_tapeSize, x0_refused, x0_lines, x0_line, x0_changes, x0_coins, x0_goods, x0_good, x0_works, x0_work, x0_years, x0_gone, x0_spent, g26, g27, g28, g29, g30, x0_numbers, x0_statements, x0_left, x0_far, x0_tons, x0_way, x0_steps, x0_met, x0_queue, x0_totals)).bind (u2 fun v33 g34 => (zb v33).bind fun v36 => some (v36, (x0_works, g26, g27, g28, g29, g34), g31)))) G25)))))) else ((fX7_wrong (x0_shelf, x0_rowSort, x0_rowSize, x0_rows, x0_moved, x0_shown, x0_tape, x0_tapeSize, x0_refused, x0_lines, x0_line, x0_changes, x0_coins, x0_goods, x0_good, x0_works, x0_work, x0_years, x0_gone, x0_spent, g4, g5, g6, g7, g8, x0_numbers, x0_statements, x0_left, x0_far, x0_tons, x0_way, x0_steps, x0_met, x0_queue, x0_totals)).bind (u2 fun v11 g12 => (zb v11).bind fun v14 => some (v14, (x0_works, g4, g5, g6, g7, g12), g9))))) G3)) X0
set_option maxHeartbeats 4000000 in
set_option maxRecDepth 100000 in
theorem kX7_workTold (l : Launch) (d : DT) (h0 : Nat → Nat) (r0_rows : Nat → Nat) (r0_line : Nat → Nat) (r0_good : Nat → Nat) (r0_work : Nat → Nat) (a0_kept : Option Nat) (a0_tried : Option Nat) (a0_chosen : Option Nat) (b1 : Nat) (n : Nat) (x0_shelf : (Nat → Int32)) (x0_rowSort : (Nat → Int32)) (x0_rowSize : (Nat → Int32)) (x0_rows : (Nat → Nat → Int64)) (x0_moved : (Nat → Int64)) (x0_shown : (Nat → Int32)) (x0_tape : (Nat → Int32)) (x0_tapeSize : Int32) (x0_refused : (Nat → Int32)) (x0_lines : Int32) (x0_line : (Nat → Nat → Int32)) (x0_changes : (Nat → Int32)) (x0_coins : (Nat → Int32)) (x0_goods : Int32) (x0_good : (Nat → Nat → Int32)) (x0_works : Int32) (x0_work : (Nat → Nat → Int32)) (x0_years : Int32) (x0_gone : Int32) (x0_spent : Int32) (x0_at : Int32) (x0_token : Int32) (x0_from : Int32) (x0_figures : Int64) (x0_fault : Int32) (x0_numbers : (Nat → Int32)) (x0_statements : Int32) (x0_left : (Nat → Int32)) (x0_far : (Nat → Int32)) (x0_tons : Int32) (x0_way : (Nat → Int32)) (x0_steps : Int32) (x0_met : Int64) (x0_queue : (Nat → Int32)) (x0_totals : (Nat → Int32)) (m1 : Nat) (p1 : (Nat → Int32))  {out : Int32 × (Int32 × Int32 × Int32 × Int32 × Int64 × Int32) × (Nat → Int32)} (hf : fX7_workTold n (x0_shelf, x0_rowSort, x0_rowSize, x0_rows, x0_moved, x0_shown, x0_tape, x0_tapeSize, x0_refused, x0_lines, x0_line, x0_changes, x0_coins, x0_goods, x0_good, x0_works, x0_work, x0_years, x0_gone, x0_spent, x0_at, x0_token, x0_from, x0_figures, x0_fault, x0_numbers, x0_statements, x0_left, x0_far, x0_tons, x0_way, x0_steps, x0_met, x0_queue, x0_totals) m1 p1 = some out) : Ct l d yX7_workTold cX7_workTold 2 (some .boolean) { frames := 6, cells := 0, slots := 0, locals := 132 } [.ref (h0 0), .ref b1] [gMd d h0 a0_kept a0_tried a0_chosen r0_rows r0_line r0_good r0_work x0_shelf x0_rowSort x0_rowSize x0_moved x0_shown x0_tape x0_tapeSize x0_refused x0_lines x0_changes x0_coins x0_goods x0_works x0_years x0_gone x0_spent x0_at x0_token x0_from x0_figures x0_fault x0_numbers x0_statements x0_left x0_far x0_tons x0_way x0_steps x0_met x0_queue x0_totals, [cI d b1 m1 p1]] (fun _ : Unit => (some (.int out.1), [gMd d h0 a0_kept a0_tried a0_chosen r0_rows r0_line r0_good r0_work x0_shelf x0_rowSort x0_rowSize x0_moved x0_shown x0_tape x0_tapeSize x0_refused x0_lines x0_changes x0_coins x0_goods (out.2.1.1) x0_years x0_gone x0_spent (out.2.1.2.1) (out.2.1.2.2.1) (out.2.1.2.2.2.1) (out.2.1.2.2.2.2.1) (out.2.1.2.2.2.2.2) x0_numbers x0_statements x0_left x0_far x0_tons x0_way x0_steps x0_met x0_queue x0_totals, [cI d b1 m1 (out.2.2)]])) := by
  refine Ct.of (by decide) (Nat.le_of_ble_eq_true rfl) ?_
  intro Φ hl hK hR
  subst hl
  have hK : Ok d Φ RX7 "workTold" cX7_workTold 2 (some .boolean) { frames := 6, cells := 0, slots := 0, locals := 132 } := hK
  unfold fX7_workTold at hf
  have hf := un35 hf
  show J d Φ 2 [gMd d h0 a0_kept a0_tried a0_chosen r0_rows r0_line r0_good r0_work x0_shelf x0_rowSort x0_rowSize x0_moved x0_shown x0_tape x0_tapeSize x0_refused x0_lines x0_changes x0_coins x0_goods x0_works x0_years x0_gone x0_spent x0_at x0_token x0_from x0_figures x0_fault x0_numbers x0_statements x0_left x0_far x0_tons x0_way x0_steps x0_met x0_queue x0_totals, [cI d b1 m1 p1]] 0 0 0 [(0, .ref (h0 0)), (1, .ref b1)] []
  refine J_aload_n hK dX7_workTold_0 rfl 1 rfl rfl ?_
  refine J_iconst (v := 4) hK dX7_workTold_1 rfl (by decide) ?_
  refine J_iconst (v := 0) hK dX7_workTold_2 rfl (by decide) ?_
  obtain ⟨f1, ef1, hf⟩ := bs hf
  refine J_iast (g' := [cI d b1 m1 f1]) (gs' := [gMd d h0 a0_kept a0_tried a0_chosen r0_rows r0_line r0_good r0_work x0_shelf x0_rowSort x0_rowSize x0_moved x0_shown x0_tape x0_tapeSize x0_refused x0_lines x0_changes x0_coins x0_goods x0_works x0_years x0_gone x0_spent x0_at x0_token x0_from x0_figures x0_fault x0_numbers x0_statements x0_left x0_far x0_tons x0_way x0_steps x0_met x0_queue x0_totals, [cI d b1 m1 f1]]) hK dX7_workTold_3 rfl 1 0 rfl rfl ef1 rfl rfl ?_
  refine J_aload_n hK dX7_workTold_4 rfl 0 rfl rfl ?_
  refine J_str hK dX7_workTold_5 rfl 16 rfl rfl rfl ?_
  refine J_aload_n hK dX7_workTold_7 rfl 1 rfl rfl ?_
  refine J_iconst (v := 0) hK dX7_workTold_8 rfl (by decide) ?_
  refine J_iconst (v := 1) hK dX7_workTold_9 rfl (by decide) ?_
  refine J_iconst (v := 5) hK dX7_workTold_10 rfl (by decide) ?_
  obtain ⟨⟨v2, ⟨g4, g5, g6, g7, g8⟩, g9⟩, e10, hf⟩ := bs hf
  have hf := un3 hf
  have hf := un5 hf
  refine J_callV (m' := 2) (ce' := 0) (sl' := 0) (gr := []) (gs' := fun _ => [gMd d h0 a0_kept a0_tried a0_chosen r0_rows r0_line r0_good r0_work x0_shelf x0_rowSort x0_rowSize x0_moved x0_shown x0_tape x0_tapeSize x0_refused x0_lines x0_changes x0_coins x0_goods x0_works x0_years x0_gone x0_spent g4 g5 g6 g7 g8 x0_numbers x0_statements x0_left x0_far x0_tons x0_way x0_steps x0_met x0_queue x0_totals, [cI d b1 m1 g9]]) (st' := fun _ => [.int v2]) (st := []) hK dX7_workTold_11 cv_RX7_202 iv_yX7_told (As := [.ref (d.2.2.2.1 16), .ref b1, .int (0), .int (1), .int (5)]) (kX7_told _ d h0 r0_rows r0_line r0_good r0_work a0_kept a0_tried a0_chosen b1 n x0_shelf x0_rowSort x0_rowSize x0_rows x0_moved x0_shown x0_tape x0_tapeSize x0_refused x0_lines x0_line x0_changes x0_coins x0_goods x0_good x0_works x0_work x0_years x0_gone x0_spent x0_at x0_token x0_from x0_figures x0_fault x0_numbers x0_statements x0_left x0_far x0_tons x0_way x0_steps x0_met x0_queue x0_totals 16 m1 f1 (0) (1) (5) e10) rfl rfl (Nat.le_of_ble_eq_true rfl) (by decide) 0 0 rfl rfl rfl [0, 1] [] rfl rfl rfl rfl [0, 1] rfl (fun _ => rfl) (fun _ => rfl) rfl rfl rfl (fun _ => rfl) (fun _ => ?_)
  refine J_if_ne (tg := 19) hK dX7_workTold_14 rfl rfl (fun hc14 => ?_) (fun hc14 => ?_)
  · have hf := iq hc14 hf
    refine J_aload_n hK dX7_workTold_19 rfl 0 rfl rfl ?_
    refine J_get hK fo_RX7_159 dX7_workTold_20 rfl 0 0 rfl rfl rfl ?_
    refine J_iconst (v := 2) hK dX7_workTold_23 rfl (by decide) ?_
    refine J_icmp_ne (tg := 56) hK dX7_workTold_24 rfl rfl (fun hc24 => ?_) (fun hc24 => ?_)
    · have hf := iq hc24 hf
      refine J_aload_n hK dX7_workTold_56 rfl 0 rfl rfl ?_
      obtain ⟨⟨v11, g12⟩, e13, hf⟩ := bs hf
      have hf := un2 hf
      refine J_callV (m' := 2) (ce' := 0) (sl' := 0) (gr := [[cI d b1 m1 g9]]) (gs' := fun _ => [gMd d h0 a0_kept a0_tried a0_chosen r0_rows r0_line r0_good r0_work x0_shelf x0_rowSort x0_rowSize x0_moved x0_shown x0_tape x0_tapeSize x0_refused x0_lines x0_changes x0_coins x0_goods x0_works x0_years x0_gone x0_spent g4 g5 g6 g7 g12 x0_numbers x0_statements x0_left x0_far x0_tons x0_way x0_steps x0_met x0_queue x0_totals, [cI d b1 m1 g9]]) (st' := fun _ => [.int v11]) (st := []) hK dX7_workTold_57 cv_RX7_187 iv_yX7_wrong (As := []) (kX7_wrong _ d h0 r0_rows r0_line r0_good r0_work a0_kept a0_tried a0_chosen x0_shelf x0_rowSort x0_rowSize x0_rows x0_moved x0_shown x0_tape x0_tapeSize x0_refused x0_lines x0_line x0_changes x0_coins x0_goods x0_good x0_works x0_work x0_years x0_gone x0_spent g4 g5 g6 g7 g8 x0_numbers x0_statements x0_left x0_far x0_tons x0_way x0_steps x0_met x0_queue x0_totals e13) rfl rfl (Nat.le_of_ble_eq_true rfl) (by decide) 0 0 rfl rfl rfl [0] [1] rfl rfl rfl rfl [1, 0] rfl (fun _ => rfl) (fun _ => rfl) rfl rfl rfl (fun _ => rfl) (fun _ => ?_)
      obtain ⟨v14, ev14, hf⟩ := bs hf
      obtain rfl := Option.some.inj hf
      exact J_zret hK hR dX7_workTold_60 () (zb_ok ev14).2 (by rw [(zb_ok ev14).1]) (by decide) (by decide)
    · have hf := ip hc24 hf
      refine J_aload_n hK dX7_workTold_27 rfl 0 rfl rfl ?_
      refine J_get hK fo_RX7_155 dX7_workTold_28 rfl 0 0 rfl rfl rfl ?_
      refine J_lconst (v := 0) hK dX7_workTold_31 rfl (by decide) ?_
      refine J_ldc2 (v := (99 : Int64)) hK dX7_workTold_32 rfl wk_RX7_123 ?_
      obtain ⟨v15, e16, hf⟩ := bs hf
      refine J_callS (m' := 2) (ce' := 0) (sl' := 0) (gr := [gMd d h0 a0_kept a0_tried a0_chosen r0_rows r0_line r0_good r0_work x0_shelf x0_rowSort x0_rowSize x0_moved x0_shown x0_tape x0_tapeSize x0_refused x0_lines x0_changes x0_coins x0_goods x0_works x0_years x0_gone x0_spent g4 g5 g6 g7 g8 x0_numbers x0_statements x0_left x0_far x0_tons x0_way x0_steps x0_met x0_queue x0_totals, [cI d b1 m1 g9]]) (gs' := fun _ => [gMd d h0 a0_kept a0_tried a0_chosen r0_rows r0_line r0_good r0_work x0_shelf x0_rowSort x0_rowSize x0_moved x0_shown x0_tape x0_tapeSize x0_refused x0_lines x0_changes x0_coins x0_goods x0_works x0_years x0_gone x0_spent g4 g5 g6 g7 g8 x0_numbers x0_statements x0_left x0_far x0_tons x0_way x0_steps x0_met x0_queue x0_totals, [cI d b1 m1 g9]]) (st' := fun _ => [.int v15]) (st := []) hK dX7_workTold_35 cv_RX7_78 ws_yX7_in (As := [.long g7, .long (0 : Int64), .long (99 : Int64)]) (kX7_in _ d g7 (0 : Int64) (99 : Int64) e16) rfl rfl (Nat.le_of_ble_eq_true rfl) (by decide) [] [0, 1] rfl rfl rfl rfl [0, 1] rfl (fun _ => rfl) (fun _ => rfl) rfl rfl rfl (fun _ => rfl) (fun _ => ?_)
      refine J_if_eq (tg := 56) hK dX7_workTold_38 rfl rfl (fun hc38 => ?_) (fun hc38 => ?_)
      · have hf := ip hc38 hf
        refine J_aload_n hK dX7_workTold_56 rfl 0 rfl rfl ?_
        obtain ⟨⟨v17, g18⟩, e19, hf⟩ := bs hf
        have hf := un2 hf
        refine J_callV (m' := 2) (ce' := 0) (sl' := 0) (gr := [[cI d b1 m1 g9]]) (gs' := fun _ => [gMd d h0 a0_kept a0_tried a0_chosen r0_rows r0_line r0_good r0_work x0_shelf x0_rowSort x0_rowSize x0_moved x0_shown x0_tape x0_tapeSize x0_refused x0_lines x0_changes x0_coins x0_goods x0_works x0_years x0_gone x0_spent g4 g5 g6 g7 g18 x0_numbers x0_statements x0_left x0_far x0_tons x0_way x0_steps x0_met x0_queue x0_totals, [cI d b1 m1 g9]]) (st' := fun _ => [.int v17]) (st := []) hK dX7_workTold_57 cv_RX7_187 iv_yX7_wrong (As := []) (kX7_wrong _ d h0 r0_rows r0_line r0_good r0_work a0_kept a0_tried a0_chosen x0_shelf x0_rowSort x0_rowSize x0_rows x0_moved x0_shown x0_tape x0_tapeSize x0_refused x0_lines x0_line x0_changes x0_coins x0_goods x0_good x0_works x0_work x0_years x0_gone x0_spent g4 g5 g6 g7 g8 x0_numbers x0_statements x0_left x0_far x0_tons x0_way x0_steps x0_met x0_queue x0_totals e19) rfl rfl (Nat.le_of_ble_eq_true rfl) (by decide) 0 0 rfl rfl rfl [0] [1] rfl rfl rfl rfl [1, 0] rfl (fun _ => rfl) (fun _ => rfl) rfl rfl rfl (fun _ => rfl) (fun _ => ?_)
        obtain ⟨v20, ev20, hf⟩ := bs hf
        obtain rfl := Option.some.inj hf
        exact J_zret hK hR dX7_workTold_60 () (zb_ok ev20).2 (by rw [(zb_ok ev20).1]) (by decide) (by decide)
      · have hf := iq hc38 hf
        refine J_aload_n hK dX7_workTold_41 rfl 0 rfl rfl ?_
        refine J_aload_n hK dX7_workTold_42 rfl 1 rfl rfl ?_
        refine J_iconst (v := 0) hK dX7_workTold_43 rfl (by decide) ?_
        obtain ⟨v21, ev21, hf⟩ := bs hf
        refine J_iald hK dX7_workTold_44 rfl 1 0 rfl rfl ev21 ?_
        refine J_aload_n hK dX7_workTold_45 rfl 0 rfl rfl ?_
        refine J_get hK fo_RX7_155 dX7_workTold_46 rfl 0 0 rfl rfl rfl ?_
        refine J_l2i hK dX7_workTold_49 rfl ?_
        obtain ⟨v22, e23, hf⟩ := bs hf
        refine J_callV (m' := 2) (ce' := 0) (sl' := 0) (gr := [[cI d b1 m1 g9]]) (gs' := fun _ => [gMd d h0 a0_kept a0_tried a0_chosen r0_rows r0_line r0_good r0_work x0_shelf x0_rowSort x0_rowSize x0_moved x0_shown x0_tape x0_tapeSize x0_refused x0_lines x0_changes x0_coins x0_goods x0_works x0_years x0_gone x0_spent g4 g5 g6 g7 g8 x0_numbers x0_statements x0_left x0_far x0_tons x0_way x0_steps x0_met x0_queue x0_totals, [cI d b1 m1 g9]]) (st' := fun _ => [.int v22]) (st := []) hK dX7_workTold_50 cv_RX7_133 iv_yX7_mayBeFirst (As := [.int v21, .int ((g7).toInt32)]) (kX7_mayBeFirst _ d h0 r0_rows r0_line r0_good r0_work a0_kept a0_tried a0_chosen x0_shelf x0_rowSort x0_rowSize x0_rows x0_moved x0_shown x0_tape x0_tapeSize x0_refused x0_lines x0_line x0_changes x0_coins x0_goods x0_good x0_works x0_work x0_years x0_gone x0_spent g4 g5 g6 g7 g8 x0_numbers x0_statements x0_left x0_far x0_tons x0_way x0_steps x0_met x0_queue x0_totals v21 ((g7).toInt32) e23) rfl rfl (Nat.le_of_ble_eq_true rfl) (by decide) 0 0 rfl rfl rfl [0] [1] rfl rfl rfl rfl [1, 0] rfl (fun _ => rfl) (fun _ => rfl) rfl rfl rfl (fun _ => rfl) (fun _ => ?_)
        refine J_if_ne (tg := 61) hK dX7_workTold_53 rfl rfl (fun hc53 => ?_) (fun hc53 => ?_)
        · have hf := iq hc53 hf
          refine J_aload_n hK dX7_workTold_61 rfl 0 rfl rfl ?_
          refine J_aload_n hK dX7_workTold_62 rfl 1 rfl rfl ?_
          refine J_iconst (v := 1) hK dX7_workTold_63 rfl (by decide) ?_
          refine J_iconst (v := 0) hK dX7_workTold_64 rfl (by decide) ?_
          refine J_bipush (v := 99) hK dX7_workTold_65 rfl (by decide) ?_
          obtain ⟨⟨v24, ⟨g26, g27, g28, g29, g30⟩, g31⟩, e32, hf⟩ := bs hf
          have hf := un3 hf
          have hf := un5 hf
          refine J_callV (m' := 2) (ce' := 0) (sl' := 0) (gr := []) (gs' := fun _ => [gMd d h0 a0_kept a0_tried a0_chosen r0_rows r0_line r0_good r0_work x0_shelf x0_rowSort x0_rowSize x0_moved x0_shown x0_tape x0_tapeSize x0_refused x0_lines x0_changes x0_coins x0_goods x0_works x0_years x0_gone x0_spent g26 g27 g28 g29 g30 x0_numbers x0_statements x0_left x0_far x0_tons x0_way x0_steps x0_met x0_queue x0_totals, [cI d b1 m1 g31]]) (st' := fun _ => [.int v24]) (st := []) hK dX7_workTold_67 cv_RX7_198 iv_yX7_number (As := [.ref b1, .int (1), .int (0), .int (99)]) (kX7_number _ d h0 r0_rows r0_line r0_good r0_work a0_kept a0_tried a0_chosen b1 n x0_shelf x0_rowSort x0_rowSize x0_rows x0_moved x0_shown x0_tape x0_tapeSize x0_refused x0_lines x0_line x0_changes x0_coins x0_goods x0_good x0_works x0_work x0_years x0_gone x0_spent g4 g5 g6 g7 g8 x0_numbers x0_statements x0_left x0_far x0_tons x0_way x0_steps x0_met x0_queue x0_totals m1 g9 (1) (0) (99) e32) rfl rfl (Nat.le_of_ble_eq_true rfl) (by decide) 0 0 rfl rfl rfl [0, 1] [] rfl rfl rfl rfl [0, 1] rfl (fun _ => rfl) (fun _ => rfl) rfl rfl rfl (fun _ => rfl) (fun _ => ?_)
          refine J_pop hK dX7_workTold_70 rfl rfl ?_
          refine J_aload_n hK dX7_workTold_71 rfl 0 rfl rfl ?_
          refine J_get hK fo_RX7_159 dX7_workTold_72 rfl 0 0 rfl rfl rfl ?_
          refine J_iconst (v := 2) hK dX7_workTold_75 rfl (by decide) ?_
          refine J_icmp_ne (tg := 111) hK dX7_workTold_76 rfl rfl (fun hc76 => ?_) (fun hc76 => ?_)
          · have hf := iq hc76 hf
            refine J_aload_n hK dX7_workTold_111 rfl 0 rfl rfl ?_
            obtain ⟨⟨v33, g34⟩, e35, hf⟩ := bs hf
            have hf := un2 hf
            refine J_callV (m' := 2) (ce' := 0) (sl' := 0) (gr := [[cI d b1 m1 g31]]) (gs' := fun _ => [gMd d h0 a0_kept a0_tried a0_chosen r0_rows r0_line r0_good r0_work x0_shelf x0_rowSort x0_rowSize x0_moved x0_shown x0_tape x0_tapeSize x0_refused x0_lines x0_changes x0_coins x0_goods x0_works x0_years x0_gone x0_spent g26 g27 g28 g29 g34 x0_numbers x0_statements x0_left x0_far x0_tons x0_way x0_steps x0_met x0_queue x0_totals, [cI d b1 m1 g31]]) (st' := fun _ => [.int v33]) (st := []) hK dX7_workTold_112 cv_RX7_187 iv_yX7_wrong (As := []) (kX7_wrong _ d h0 r0_rows r0_line r0_good r0_work a0_kept a0_tried a0_chosen x0_shelf x0_rowSort x0_rowSize x0_rows x0_moved x0_shown x0_tape x0_tapeSize x0_refused x0_lines x0_line x0_changes x0_coins x0_goods x0_good x0_works x0_work x0_years x0_gone x0_spent g26 g27 g28 g29 g30 x0_numbers x0_statements x0_left x0_far x0_tons x0_way x0_steps x0_met x0_queue x0_totals e35) rfl rfl (Nat.le_of_ble_eq_true rfl) (by decide) 0 0 rfl rfl rfl [0] [1] rfl rfl rfl rfl [1, 0] rfl (fun _ => rfl) (fun _ => rfl) rfl rfl rfl (fun _ => rfl) (fun _ => ?_)
            obtain ⟨v36, ev36, hf⟩ := bs hf
            obtain rfl := Option.some.inj hf
            exact J_zret hK hR dX7_workTold_115 () (zb_ok ev36).2 (by rw [(zb_ok ev36).1]) (by decide) (by decide)
          · have hf := ip hc76 hf
            refine J_aload_n hK dX7_workTold_79 rfl 0 rfl rfl ?_
            refine J_get hK fo_RX7_155 dX7_workTold_80 rfl 0 0 rfl rfl rfl ?_
            refine J_lconst (v := 0) hK dX7_workTold_83 rfl (by decide) ?_
            refine J_ldc2 (v := (99 : Int64)) hK dX7_workTold_84 rfl wk_RX7_123 ?_
            obtain ⟨v37, e38, hf⟩ := bs hf
            refine J_callS (m' := 2) (ce' := 0) (sl' := 0) (gr := [gMd d h0 a0_kept a0_tried a0_chosen r0_rows r0_line r0_good r0_work x0_shelf x0_rowSort x0_rowSize x0_moved x0_shown x0_tape x0_tapeSize x0_refused x0_lines x0_changes x0_coins x0_goods x0_works x0_years x0_gone x0_spent g26 g27 g28 g29 g30 x0_numbers x0_statements x0_left x0_far x0_tons x0_way x0_steps x0_met x0_queue x0_totals, [cI d b1 m1 g31]]) (gs' := fun _ => [gMd d h0 a0_kept a0_tried a0_chosen r0_rows r0_line r0_good r0_work x0_shelf x0_rowSort x0_rowSize x0_moved x0_shown x0_tape x0_tapeSize x0_refused x0_lines x0_changes x0_coins x0_goods x0_works x0_years x0_gone x0_spent g26 g27 g28 g29 g30 x0_numbers x0_statements x0_left x0_far x0_tons x0_way x0_steps x0_met x0_queue x0_totals, [cI d b1 m1 g31]]) (st' := fun _ => [.int v37]) (st := []) hK dX7_workTold_87 cv_RX7_78 ws_yX7_in (As := [.long g29, .long (0 : Int64), .long (99 : Int64)]) (kX7_in _ d g29 (0 : Int64) (99 : Int64) e38) rfl rfl (Nat.le_of_ble_eq_true rfl) (by decide) [] [0, 1] rfl rfl rfl rfl [0, 1] rfl (fun _ => rfl) (fun _ => rfl) rfl rfl rfl (fun _ => rfl) (fun _ => ?_)
            refine J_if_eq (tg := 111) hK dX7_workTold_90 rfl rfl (fun hc90 => ?_) (fun hc90 => ?_)
            · have hf := ip hc90 hf
              refine J_aload_n hK dX7_workTold_111 rfl 0 rfl rfl ?_
              obtain ⟨⟨v39, g40⟩, e41, hf⟩ := bs hf
              have hf := un2 hf
              refine J_callV (m' := 2) (ce' := 0) (sl' := 0) (gr := [[cI d b1 m1 g31]]) (gs' := fun _ => [gMd d h0 a0_kept a0_tried a0_chosen r0_rows r0_line r0_good r0_work x0_shelf x0_rowSort x0_rowSize x0_moved x0_shown x0_tape x0_tapeSize x0_refused x0_lines x0_changes x0_coins x0_goods x0_works x0_years x0_gone x0_spent g26 g27 g28 g29 g40 x0_numbers x0_statements x0_left x0_far x0_tons x0_way x0_steps x0_met x0_queue x0_totals, [cI d b1 m1 g31]]) (st' := fun _ => [.int v39]) (st := []) hK dX7_workTold_112 cv_RX7_187 iv_yX7_wrong (As := []) (kX7_wrong _ d h0 r0_rows r0_line r0_good r0_work a0_kept a0_tried a0_chosen x0_shelf x0_rowSort x0_rowSize x0_rows x0_moved x0_shown x0_tape x0_tapeSize x0_refused x0_lines x0_line x0_changes x0_coins x0_goods x0_good x0_works x0_work x0_years x0_gone x0_spent g26 g27 g28 g29 g30 x0_numbers x0_statements x0_left x0_far x0_tons x0_way x0_steps x0_met x0_queue x0_totals e41) rfl rfl (Nat.le_of_ble_eq_true rfl) (by decide) 0 0 rfl rfl rfl [0] [1] rfl rfl rfl rfl [1, 0] rfl (fun _ => rfl) (fun _ => rfl) rfl rfl rfl (fun _ => rfl) (fun _ => ?_)
              obtain ⟨v42, ev42, hf⟩ := bs hf
              obtain rfl := Option.some.inj hf
              exact J_zret hK hR dX7_workTold_115 () (zb_ok ev42).2 (by rw [(zb_ok ev42).1]) (by decide) (by decide)
            · have hf := iq hc90 hf
              refine J_aload_n hK dX7_workTold_93 rfl 0 rfl rfl ?_
              refine J_aload_n hK dX7_workTold_94 rfl 1 rfl rfl ?_
              refine J_iconst (v := 0) hK dX7_workTold_95 rfl (by decide) ?_
              obtain ⟨v43, ev43, hf⟩ := bs hf
              refine J_iald hK dX7_workTold_96 rfl 1 0 rfl rfl ev43 ?_
              refine J_aload_n hK dX7_workTold_97 rfl 1 rfl rfl ?_
              refine J_iconst (v := 1) hK dX7_workTold_98 rfl (by decide) ?_
              obtain ⟨v44, ev44, hf⟩ := bs hf
              refine J_iald hK dX7_workTold_99 rfl 1 0 rfl rfl ev44 ?_
              refine J_aload_n hK dX7_workTold_100 rfl 0 rfl rfl ?_
              refine J_get hK fo_RX7_155 dX7_workTold_101 rfl 0 0 rfl rfl rfl ?_
              refine J_l2i hK dX7_workTold_104 rfl ?_
              obtain ⟨v45, e46, hf⟩ := bs hf
              refine J_callV (m' := 2) (ce' := 0) (sl' := 0) (gr := [gMd d h0 a0_kept a0_tried a0_chosen r0_rows r0_line r0_good r0_work x0_shelf x0_rowSort x0_rowSize x0_moved x0_shown x0_tape x0_tapeSize x0_refused x0_lines x0_changes x0_coins x0_goods x0_works x0_years x0_gone x0_spent g26 g27 g28 g29 g30 x0_numbers x0_statements x0_left x0_far x0_tons x0_way x0_steps x0_met x0_queue x0_totals, [cI d b1 m1 g31]]) (gs' := fun _ => [gMd d h0 a0_kept a0_tried a0_chosen r0_rows r0_line r0_good r0_work x0_shelf x0_rowSort x0_rowSize x0_moved x0_shown x0_tape x0_tapeSize x0_refused x0_lines x0_changes x0_coins x0_goods x0_works x0_years x0_gone x0_spent g26 g27 g28 g29 g30 x0_numbers x0_statements x0_left x0_far x0_tons x0_way x0_steps x0_met x0_queue x0_totals, [cI d b1 m1 g31]]) (st' := fun _ => [.int v45]) (st := []) hK dX7_workTold_105 cv_RX7_136 iv_yX7_mayBeSecond (As := [.int v43, .int v44, .int ((g29).toInt32)]) (kX7_mayBeSecond _ d (h0 0) v43 v44 ((g29).toInt32) e46) rfl rfl (Nat.le_of_ble_eq_true rfl) (by decide) 0 0 rfl rfl rfl [] [0, 1] rfl rfl rfl rfl [0, 1] rfl (fun _ => rfl) (fun _ => rfl) rfl rfl rfl (fun _ => rfl) (fun _ => ?_)
              refine J_if_ne (tg := 116) hK dX7_workTold_108 rfl rfl (fun hc108 => ?_) (fun hc108 => ?_)
              · have hf := iq hc108 hf
                refine J_aload_n hK dX7_workTold_116 rfl 0 rfl rfl ?_
                refine J_aload_n hK dX7_workTold_117 rfl 1 rfl rfl ?_
                refine J_iconst (v := 2) hK dX7_workTold_118 rfl (by decide) ?_
                refine J_iconst (v := 0) hK dX7_workTold_119 rfl (by decide) ?_
                refine J_bipush (v := 99) hK dX7_workTold_120 rfl (by decide) ?_
                obtain ⟨⟨v47, ⟨g49, g50, g51, g52, g53⟩, g54⟩, e55, hf⟩ := bs hf
                have hf := un3 hf
                have hf := un5 hf
                refine J_callV (m' := 2) (ce' := 0) (sl' := 0) (gr := []) (gs' := fun _ => [gMd d h0 a0_kept a0_tried a0_chosen r0_rows r0_line r0_good r0_work x0_shelf x0_rowSort x0_rowSize x0_moved x0_shown x0_tape x0_tapeSize x0_refused x0_lines x0_changes x0_coins x0_goods x0_works x0_years x0_gone x0_spent g49 g50 g51 g52 g53 x0_numbers x0_statements x0_left x0_far x0_tons x0_way x0_steps x0_met x0_queue x0_totals, [cI d b1 m1 g54]]) (st' := fun _ => [.int v47]) (st := []) hK dX7_workTold_122 cv_RX7_198 iv_yX7_number (As := [.ref b1, .int (2), .int (0), .int (99)]) (kX7_number _ d h0 r0_rows r0_line r0_good r0_work a0_kept a0_tried a0_chosen b1 n x0_shelf x0_rowSort x0_rowSize x0_rows x0_moved x0_shown x0_tape x0_tapeSize x0_refused x0_lines x0_line x0_changes x0_coins x0_goods x0_good x0_works x0_work x0_years x0_gone x0_spent g26 g27 g28 g29 g30 x0_numbers x0_statements x0_left x0_far x0_tons x0_way x0_steps x0_met x0_queue x0_totals m1 g31 (2) (0) (99) e55) rfl rfl (Nat.le_of_ble_eq_true rfl) (by decide) 0 0 rfl rfl rfl [0, 1] [] rfl rfl rfl rfl [0, 1] rfl (fun _ => rfl) (fun _ => rfl) rfl rfl rfl (fun _ => rfl) (fun _ => ?_)
                refine J_pop hK dX7_workTold_125 rfl rfl ?_
                refine J_aload_n hK dX7_workTold_126 rfl 0 rfl rfl ?_
                refine J_aload_n hK dX7_workTold_127 rfl 1 rfl rfl ?_
                refine J_iconst (v := 3) hK dX7_workTold_128 rfl (by decide) ?_
                refine J_iconst (v := 0) hK dX7_workTold_129 rfl (by decide) ?_
                refine J_sipush (v := 999) hK dX7_workTold_130 rfl (by decide) ?_
                obtain ⟨⟨v56, ⟨g58, g59, g60, g61, g62⟩, g63⟩, e64, hf⟩ := bs hf
                have hf := un3 hf
                have hf := un5 hf
                refine J_callV (m' := 2) (ce' := 0) (sl' := 0) (gr := []) (gs' := fun _ => [gMd d h0 a0_kept a0_tried a0_chosen r0_rows r0_line r0_good r0_work x0_shelf x0_rowSort x0_rowSize x0_moved x0_shown x0_tape x0_tapeSize x0_refused x0_lines x0_changes x0_coins x0_goods x0_works x0_years x0_gone x0_spent g58 g59 g60 g61 g62 x0_numbers x0_statements x0_left x0_far x0_tons x0_way x0_steps x0_met x0_queue x0_totals, [cI d b1 m1 g63]]) (st' := fun _ => [.int v56]) (st := []) hK dX7_workTold_133 cv_RX7_198 iv_yX7_number (As := [.ref b1, .int (3), .int (0), .int (999)]) (kX7_number _ d h0 r0_rows r0_line r0_good r0_work a0_kept a0_tried a0_chosen b1 n x0_shelf x0_rowSort x0_rowSize x0_rows x0_moved x0_shown x0_tape x0_tapeSize x0_refused x0_lines x0_line x0_changes x0_coins x0_goods x0_good x0_works x0_work x0_years x0_gone x0_spent g49 g50 g51 g52 g53 x0_numbers x0_statements x0_left x0_far x0_tons x0_way x0_steps x0_met x0_queue x0_totals m1 g54 (3) (0) (999) e64) rfl rfl (Nat.le_of_ble_eq_true rfl) (by decide) 0 0 rfl rfl rfl [0, 1] [] rfl rfl rfl rfl [0, 1] rfl (fun _ => rfl) (fun _ => rfl) rfl rfl rfl (fun _ => rfl) (fun _ => ?_)
                refine J_if_ne (tg := 141) hK dX7_workTold_136 rfl rfl (fun hc136 => ?_) (fun hc136 => ?_)
                · have hf := iq hc136 hf
                  refine J_aload_n hK dX7_workTold_141 rfl 0 rfl rfl ?_
                  refine J_dup hK dX7_workTold_142 rfl rfl ?_
                  refine J_get hK fo_RX7_85 dX7_workTold_143 rfl 0 0 rfl rfl rfl ?_
                  refine J_iconst (v := 1) hK dX7_workTold_146 rfl (by decide) ?_
                  refine J_iadd hK dX7_workTold_147 rfl ?_
                  refine J_put (g' := gMd d h0 a0_kept a0_tried a0_chosen r0_rows r0_line r0_good r0_work x0_shelf x0_rowSort x0_rowSize x0_moved x0_shown x0_tape x0_tapeSize x0_refused x0_lines x0_changes x0_coins x0_goods (x0_works + 1) x0_years x0_gone x0_spent g58 g59 g60 g61 g62 x0_numbers x0_statements x0_left x0_far x0_tons x0_way x0_steps x0_met x0_queue x0_totals) (gs' := [gMd d h0 a0_kept a0_tried a0_chosen r0_rows r0_line r0_good r0_work x0_shelf x0_rowSort x0_rowSize x0_moved x0_shown x0_tape x0_tapeSize x0_refused x0_lines x0_changes x0_coins x0_goods (x0_works + 1) x0_years x0_gone x0_spent g58 g59 g60 g61 g62 x0_numbers x0_statements x0_left x0_far x0_tons x0_way x0_steps x0_met x0_queue x0_totals, [cI d b1 m1 g63]]) hK fp_RX7_85 dX7_workTold_148 rfl 0 0 rfl rfl rfl rfl (Nat.le_of_ble_eq_true rfl) rfl rfl ?_
                  refine J_iconst (v := 1) hK dX7_workTold_151 rfl (by decide) ?_
                  obtain rfl := Option.some.inj hf
                  exact J_zret hK hR dX7_workTold_152 () rfl rfl (by decide) (by decide)
                · have hf := ip hc136 hf
                  refine J_iconst (v := 0) hK dX7_workTold_139 rfl (by decide) ?_
                  obtain rfl := Option.some.inj hf
                  exact J_zret hK hR dX7_workTold_140 () rfl rfl (by decide) (by decide)
              · have hf := ip hc108 hf
                refine J_aload_n hK dX7_workTold_111 rfl 0 rfl rfl ?_
                obtain ⟨⟨v65, g66⟩, e67, hf⟩ := bs hf
                have hf := un2 hf
                refine J_callV (m' := 2) (ce' := 0) (sl' := 0) (gr := [[cI d b1 m1 g31]]) (gs' := fun _ => [gMd d h0 a0_kept a0_tried a0_chosen r0_rows r0_line r0_good r0_work x0_shelf x0_rowSort x0_rowSize x0_moved x0_shown x0_tape x0_tapeSize x0_refused x0_lines x0_changes x0_coins x0_goods x0_works x0_years x0_gone x0_spent g26 g27 g28 g29 g66 x0_numbers x0_statements x0_left x0_far x0_tons x0_way x0_steps x0_met x0_queue x0_totals, [cI d b1 m1 g31]]) (st' := fun _ => [.int v65]) (st := []) hK dX7_workTold_112 cv_RX7_187 iv_yX7_wrong (As := []) (kX7_wrong _ d h0 r0_rows r0_line r0_good r0_work a0_kept a0_tried a0_chosen x0_shelf x0_rowSort x0_rowSize x0_rows x0_moved x0_shown x0_tape x0_tapeSize x0_refused x0_lines x0_line x0_changes x0_coins x0_goods x0_good x0_works x0_work x0_years x0_gone x0_spent g26 g27 g28 g29 g30 x0_numbers x0_statements x0_left x0_far x0_tons x0_way x0_steps x0_met x0_queue x0_totals e67) rfl rfl (Nat.le_of_ble_eq_true rfl) (by decide) 0 0 rfl rfl rfl [0] [1] rfl rfl rfl rfl [1, 0] rfl (fun _ => rfl) (fun _ => rfl) rfl rfl rfl (fun _ => rfl) (fun _ => ?_)
                obtain ⟨v68, ev68, hf⟩ := bs hf
                obtain rfl := Option.some.inj hf
                exact J_zret hK hR dX7_workTold_115 () (zb_ok ev68).2 (by rw [(zb_ok ev68).1]) (by decide) (by decide)
        · have hf := ip hc53 hf
          refine J_aload_n hK dX7_workTold_56 rfl 0 rfl rfl ?_
          obtain ⟨⟨v69, g70⟩, e71, hf⟩ := bs hf
          have hf := un2 hf
          refine J_callV (m' := 2) (ce' := 0) (sl' := 0) (gr := [[cI d b1 m1 g9]]) (gs' := fun _ => [gMd d h0 a0_kept a0_tried a0_chosen r0_rows r0_line r0_good r0_work x0_shelf x0_rowSort x0_rowSize x0_moved x0_shown x0_tape x0_tapeSize x0_refused x0_lines x0_changes x0_coins x0_goods x0_works x0_years x0_gone x0_spent g4 g5 g6 g7 g70 x0_numbers x0_statements x0_left x0_far x0_tons x0_way x0_steps x0_met x0_queue x0_totals, [cI d b1 m1 g9]]) (st' := fun _ => [.int v69]) (st := []) hK dX7_workTold_57 cv_RX7_187 iv_yX7_wrong (As := []) (kX7_wrong _ d h0 r0_rows r0_line r0_good r0_work a0_kept a0_tried a0_chosen x0_shelf x0_rowSort x0_rowSize x0_rows x0_moved x0_shown x0_tape x0_tapeSize x0_refused x0_lines x0_line x0_changes x0_coins x0_goods x0_good x0_works x0_work x0_years x0_gone x0_spent g4 g5 g6 g7 g8 x0_numbers x0_statements x0_left x0_far x0_tons x0_way x0_steps x0_met x0_queue x0_totals e71) rfl rfl (Nat.le_of_ble_eq_true rfl) (by decide) 0 0 rfl rfl rfl [0] [1] rfl rfl rfl rfl [1, 0] rfl (fun _ => rfl) (fun _ => rfl) rfl rfl rfl (fun _ => rfl) (fun _ => ?_)
          obtain ⟨v72, ev72, hf⟩ := bs hf
          obtain rfl := Option.some.inj hf
          exact J_zret hK hR dX7_workTold_60 () (zb_ok ev72).2 (by rw [(zb_ok ev72).1]) (by decide) (by decide)
  · have hf := ip hc14 hf
    refine J_iconst (v := 0) hK dX7_workTold_17 rfl (by decide) ?_
    obtain rfl := Option.some.inj hf
    exact J_zret hK hR dX7_workTold_18 () rfl rfl (by decide) (by decide)

def fX7_refuse (X0 : MdT) (p1 : Int32) : Option (Int32 × (Nat → Int32)) :=
  u35 (fun (x0_shelf : (Nat → Int32)) (x0_rowSort : (Nat → Int32)) (x0_rowSize : (Nat → Int32)) (x0_rows : (Nat → Nat → Int64)) (x0_moved : (Nat → Int64)) (x0_shown : (Nat → Int32)) (x0_tape : (Nat → Int32)) (x0_tapeSize : Int32) (x0_refused : (Nat → Int32)) (x0_lines : Int32) (x0_line : (Nat → Nat → Int32)) (x0_changes : (Nat → Int32)) (x0_coins : (Nat → Int32)) (x0_goods : Int32) (x0_good : (Nat → Nat → Int32)) (x0_works : Int32) (x0_work : (Nat → Nat → Int32)) (x0_years : Int32) (x0_gone : Int32) (x0_spent : Int32) (x0_at : Int32) (x0_token : Int32) (x0_from : Int32) (x0_figures : Int64) (x0_fault : Int32) (x0_numbers : (Nat → Int32)) (x0_statements : Int32) (x0_left : (Nat → Int32)) (x0_far : (Nat → Int32)) (x0_tons : Int32) (x0_way : (Nat → Int32)) (x0_steps : Int32) (x0_met : Int64) (x0_queue : (Nat → Int32)) (x0_totals : (Nat → Int32)) => (rd 8 x0_refused (-p1)).bind fun v1 => (wr 8 x0_refused (-p1) (v1 + 1)).bind fun f2 => some (p1, f2)) X0
set_option maxHeartbeats 4000000 in
set_option maxRecDepth 100000 in
theorem kX7_refuse (l : Launch) (d : DT) (h0 : Nat → Nat) (r0_rows : Nat → Nat) (r0_line : Nat → Nat) (r0_good : Nat → Nat) (r0_work : Nat → Nat) (a0_kept : Option Nat) (a0_tried : Option Nat) (a0_chosen : Option Nat) (x0_shelf : (Nat → Int32)) (x0_rowSort : (Nat → Int32)) (x0_rowSize : (Nat → Int32)) (x0_rows : (Nat → Nat → Int64)) (x0_moved : (Nat → Int64)) (x0_shown : (Nat → Int32)) (x0_tape : (Nat → Int32)) (x0_tapeSize : Int32) (x0_refused : (Nat → Int32)) (x0_lines : Int32) (x0_line : (Nat → Nat → Int32)) (x0_changes : (Nat → Int32)) (x0_coins : (Nat → Int32)) (x0_goods : Int32) (x0_good : (Nat → Nat → Int32)) (x0_works : Int32) (x0_work : (Nat → Nat → Int32)) (x0_years : Int32) (x0_gone : Int32) (x0_spent : Int32) (x0_at : Int32) (x0_token : Int32) (x0_from : Int32) (x0_figures : Int64) (x0_fault : Int32) (x0_numbers : (Nat → Int32)) (x0_statements : Int32) (x0_left : (Nat → Int32)) (x0_far : (Nat → Int32)) (x0_tons : Int32) (x0_way : (Nat → Int32)) (x0_steps : Int32) (x0_met : Int64) (x0_queue : (Nat → Int32)) (x0_totals : (Nat → Int32)) (p1 : Int32)  {out : Int32 × (Nat → Int32)} (hf : fX7_refuse (x0_shelf, x0_rowSort, x0_rowSize, x0_rows, x0_moved, x0_shown, x0_tape, x0_tapeSize, x0_refused, x0_lines, x0_line, x0_changes, x0_coins, x0_goods, x0_good, x0_works, x0_work, x0_years, x0_gone, x0_spent, x0_at, x0_token, x0_from, x0_figures, x0_fault, x0_numbers, x0_statements, x0_left, x0_far, x0_tons, x0_way, x0_steps, x0_met, x0_queue, x0_totals) p1 = some out) : Ct l d yX7_refuse cX7_refuse 2 (some .int) { frames := 0, cells := 0, slots := 0, locals := 0 } [.ref (h0 0), .int p1] [gMd d h0 a0_kept a0_tried a0_chosen r0_rows r0_line r0_good r0_work x0_shelf x0_rowSort x0_rowSize x0_moved x0_shown x0_tape x0_tapeSize x0_refused x0_lines x0_changes x0_coins x0_goods x0_works x0_years x0_gone x0_spent x0_at x0_token x0_from x0_figures x0_fault x0_numbers x0_statements x0_left x0_far x0_tons x0_way x0_steps x0_met x0_queue x0_totals] (fun _ : Unit => (some (.int out.1), [gMd d h0 a0_kept a0_tried a0_chosen r0_rows r0_line r0_good r0_work x0_shelf x0_rowSort x0_rowSize x0_moved x0_shown x0_tape x0_tapeSize (out.2) x0_lines x0_changes x0_coins x0_goods x0_works x0_years x0_gone x0_spent x0_at x0_token x0_from x0_figures x0_fault x0_numbers x0_statements x0_left x0_far x0_tons x0_way x0_steps x0_met x0_queue x0_totals])) := by
  refine Ct.of (by decide) (Nat.le_of_ble_eq_true rfl) ?_
  intro Φ hl hK hR
  subst hl
  have hK : Ok d Φ RX7 "refuse" cX7_refuse 2 (some .int) { frames := 0, cells := 0, slots := 0, locals := 0 } := hK
  unfold fX7_refuse at hf
  have hf := un35 hf
  show J d Φ 2 [gMd d h0 a0_kept a0_tried a0_chosen r0_rows r0_line r0_good r0_work x0_shelf x0_rowSort x0_rowSize x0_moved x0_shown x0_tape x0_tapeSize x0_refused x0_lines x0_changes x0_coins x0_goods x0_works x0_years x0_gone x0_spent x0_at x0_token x0_from x0_figures x0_fault x0_numbers x0_statements x0_left x0_far x0_tons x0_way x0_steps x0_met x0_queue x0_totals] 0 0 0 [(0, .ref (h0 0)), (1, .int p1)] []
  refine J_aload_n hK dX7_refuse_0 rfl 0 rfl rfl ?_
  refine J_get hK fo_RX7_34 dX7_refuse_1 rfl 0 0 rfl rfl rfl ?_
  refine J_iload_n hK dX7_refuse_4 rfl 1 rfl rfl ?_
  refine J_ineg hK dX7_refuse_5 rfl ?_
  refine J_dup2 hK dX7_refuse_6 rfl rfl rfl ?_
  obtain ⟨v1, ev1, hf⟩ := bs hf
  refine J_iald hK dX7_refuse_7 rfl 0 8 rfl rfl ev1 ?_
  refine J_iconst (v := 1) hK dX7_refuse_8 rfl (by decide) ?_
  refine J_iadd hK dX7_refuse_9 rfl ?_
  obtain ⟨f2, ef2, hf⟩ := bs hf
  refine J_iast (g' := gMd d h0 a0_kept a0_tried a0_chosen r0_rows r0_line r0_good r0_work x0_shelf x0_rowSort x0_rowSize x0_moved x0_shown x0_tape x0_tapeSize f2 x0_lines x0_changes x0_coins x0_goods x0_works x0_years x0_gone x0_spent x0_at x0_token x0_from x0_figures x0_fault x0_numbers x0_statements x0_left x0_far x0_tons x0_way x0_steps x0_met x0_queue x0_totals) (gs' := [gMd d h0 a0_kept a0_tried a0_chosen r0_rows r0_line r0_good r0_work x0_shelf x0_rowSort x0_rowSize x0_moved x0_shown x0_tape x0_tapeSize f2 x0_lines x0_changes x0_coins x0_goods x0_works x0_years x0_gone x0_spent x0_at x0_token x0_from x0_figures x0_fault x0_numbers x0_statements x0_left x0_far x0_tons x0_way x0_steps x0_met x0_queue x0_totals]) hK dX7_refuse_10 rfl 0 8 rfl rfl ef2 rfl rfl ?_
  refine J_iload_n hK dX7_refuse_11 rfl 1 rfl rfl ?_
  obtain rfl := Option.some.inj hf
  exact J_iret hK hR dX7_refuse_12 () rfl (by decide) (by decide)

def fX7_in (p0 : Int64) (p1 : Int64) (p2 : Int64) : Option (Int32) :=
  if (lg_cmp p0 p1) < 0 then (some (0)) else (if 0 < (lg_cmp p0 p2) then (some (0)) else (some (1)))
set_option maxHeartbeats 4000000 in
set_option maxRecDepth 100000 in
theorem kX7_in (l : Launch) (d : DT)  (p0 : Int64) (p1 : Int64) (p2 : Int64)  {out : Int32} (hf : fX7_in p0 p1 p2 = some out) : Ct l d yX7_in cX7_in 6 (some .boolean) { frames := 0, cells := 0, slots := 0, locals := 0 } [.long p0, .long p1, .long p2] [] (fun _ : Unit => (some (.int out), [])) := by
  refine Ct.of (by decide) (Nat.le_of_ble_eq_true rfl) ?_
  intro Φ hl hK hR
  subst hl
  have hK : Ok d Φ RX7 "in" cX7_in 6 (some .boolean) { frames := 0, cells := 0, slots := 0, locals := 0 } := hK
  unfold fX7_in at hf
  show J d Φ 6 [] 0 0 0 [(0, .long p0), (2, .long p1), (4, .long p2)] []
  refine J_lload_n hK dX7_in_0 rfl 0 rfl rfl ?_
  refine J_lload_n hK dX7_in_1 rfl 1 rfl rfl ?_
  refine J_lcmp hK dX7_in_2 rfl ?_
  refine J_if_lt (tg := 17) hK dX7_in_3 rfl rfl (fun hc3 => ?_) (fun hc3 => ?_)
  · have hf := ip hc3 hf
    refine J_iconst (v := 0) hK dX7_in_17 rfl (by decide) ?_
    obtain rfl := Option.some.inj hf
    exact J_zret hK hR dX7_in_18 () rfl rfl (by decide) (by decide)
  · have hf := iq hc3 hf
    refine J_lload_n hK dX7_in_6 rfl 0 rfl rfl ?_
    refine J_lload hK dX7_in_7 rfl 2 rfl ?_
    refine J_lcmp hK dX7_in_9 rfl ?_
    refine J_if_gt (tg := 17) hK dX7_in_10 rfl rfl (fun hc10 => ?_) (fun hc10 => ?_)
    · have hf := ip hc10 hf
      refine J_iconst (v := 0) hK dX7_in_17 rfl (by decide) ?_
      obtain rfl := Option.some.inj hf
      exact J_zret hK hR dX7_in_18 () rfl rfl (by decide) (by decide)
    · have hf := iq hc10 hf
      refine J_iconst (v := 1) hK dX7_in_13 rfl (by decide) ?_
      refine J_goto hK dX7_in_14 (n := 18) rfl ?_
      obtain rfl := Option.some.inj hf
      exact J_zret hK hR dX7_in_18 () rfl rfl (by decide) (by decide)

def fX7_isPlace (p0 : Int32) : Option (Int32) :=
  (fX7_in ((p0).toInt64) (0 : Int64) (11 : Int64)).bind (fun v1 => (zb v1).bind fun v3 => some v3)
set_option maxHeartbeats 4000000 in
set_option maxRecDepth 100000 in
theorem kX7_isPlace (l : Launch) (d : DT)  (p0 : Int32)  {out : Int32} (hf : fX7_isPlace p0 = some out) : Ct l d yX7_isPlace cX7_isPlace 1 (some .boolean) { frames := 1, cells := 0, slots := 0, locals := 25 } [.int p0] [] (fun _ : Unit => (some (.int out), [])) := by
  refine Ct.of (by decide) (Nat.le_of_ble_eq_true rfl) ?_
  intro Φ hl hK hR
  subst hl
  have hK : Ok d Φ RX7 "isPlace" cX7_isPlace 1 (some .boolean) { frames := 1, cells := 0, slots := 0, locals := 25 } := hK
  unfold fX7_isPlace at hf
  show J d Φ 1 [] 0 0 0 [(0, .int p0)] []
  refine J_iload_n hK dX7_isPlace_0 rfl 0 rfl rfl ?_
  refine J_i2l hK dX7_isPlace_1 rfl ?_
  refine J_lconst (v := 0) hK dX7_isPlace_2 rfl (by decide) ?_
  refine J_ldc2 (v := (11 : Int64)) hK dX7_isPlace_3 rfl wk_RX7_76 ?_
  obtain ⟨v1, e2, hf⟩ := bs hf
  refine J_callS (m' := 0) (ce' := 0) (sl' := 0) (gr := []) (gs' := fun _ => []) (st' := fun _ => [.int v1]) (st := []) hK dX7_isPlace_6 cv_RX7_78 ws_yX7_in (As := [.long ((p0).toInt64), .long (0 : Int64), .long (11 : Int64)]) (kX7_in _ d ((p0).toInt64) (0 : Int64) (11 : Int64) e2) rfl rfl (Nat.le_of_ble_eq_true rfl) (by decide) [] [] rfl rfl rfl rfl [] rfl (fun _ => rfl) (fun _ => rfl) rfl rfl rfl (fun _ => rfl) (fun _ => ?_)
  obtain ⟨v3, ev3, hf⟩ := bs hf
  obtain rfl := Option.some.inj hf
  exact J_zret hK hR dX7_isPlace_9 () (zb_ok ev3).2 (by rw [(zb_ok ev3).1]) (by decide) (by decide)

def fX7_isLine (X0 : MdT) (p1 : Int32) : Option (Int32) :=
  u35 (fun (x0_shelf : (Nat → Int32)) (x0_rowSort : (Nat → Int32)) (x0_rowSize : (Nat → Int32)) (x0_rows : (Nat → Nat → Int64)) (x0_moved : (Nat → Int64)) (x0_shown : (Nat → Int32)) (x0_tape : (Nat → Int32)) (x0_tapeSize : Int32) (x0_refused : (Nat → Int32)) (x0_lines : Int32) (x0_line : (Nat → Nat → Int32)) (x0_changes : (Nat → Int32)) (x0_coins : (Nat → Int32)) (x0_goods : Int32) (x0_good : (Nat → Nat → Int32)) (x0_works : Int32) (x0_work : (Nat → Nat → Int32)) (x0_years : Int32) (x0_gone : Int32) (x0_spent : Int32) (x0_at : Int32) (x0_token : Int32) (x0_from : Int32) (x0_figures : Int64) (x0_fault : Int32) (x0_numbers : (Nat → Int32)) (x0_statements : Int32) (x0_left : (Nat → Int32)) (x0_far : (Nat → Int32)) (x0_tons : Int32) (x0_way : (Nat → Int32)) (x0_steps : Int32) (x0_met : Int64) (x0_queue : (Nat → Int32)) (x0_totals : (Nat → Int32)) => (fX7_in ((p1).toInt64) (0 : Int64) (((x0_lines - 1)).toInt64)).bind (fun v1 => (zb v1).bind fun v3 => some v3)) X0
set_option maxHeartbeats 4000000 in
set_option maxRecDepth 100000 in
theorem kX7_isLine (l : Launch) (d : DT) (h0 : Nat → Nat) (r0_rows : Nat → Nat) (r0_line : Nat → Nat) (r0_good : Nat → Nat) (r0_work : Nat → Nat) (a0_kept : Option Nat) (a0_tried : Option Nat) (a0_chosen : Option Nat) (x0_shelf : (Nat → Int32)) (x0_rowSort : (Nat → Int32)) (x0_rowSize : (Nat → Int32)) (x0_rows : (Nat → Nat → Int64)) (x0_moved : (Nat → Int64)) (x0_shown : (Nat → Int32)) (x0_tape : (Nat → Int32)) (x0_tapeSize : Int32) (x0_refused : (Nat → Int32)) (x0_lines : Int32) (x0_line : (Nat → Nat → Int32)) (x0_changes : (Nat → Int32)) (x0_coins : (Nat → Int32)) (x0_goods : Int32) (x0_good : (Nat → Nat → Int32)) (x0_works : Int32) (x0_work : (Nat → Nat → Int32)) (x0_years : Int32) (x0_gone : Int32) (x0_spent : Int32) (x0_at : Int32) (x0_token : Int32) (x0_from : Int32) (x0_figures : Int64) (x0_fault : Int32) (x0_numbers : (Nat → Int32)) (x0_statements : Int32) (x0_left : (Nat → Int32)) (x0_far : (Nat → Int32)) (x0_tons : Int32) (x0_way : (Nat → Int32)) (x0_steps : Int32) (x0_met : Int64) (x0_queue : (Nat → Int32)) (x0_totals : (Nat → Int32)) (p1 : Int32)  {out : Int32} (hf : fX7_isLine (x0_shelf, x0_rowSort, x0_rowSize, x0_rows, x0_moved, x0_shown, x0_tape, x0_tapeSize, x0_refused, x0_lines, x0_line, x0_changes, x0_coins, x0_goods, x0_good, x0_works, x0_work, x0_years, x0_gone, x0_spent, x0_at, x0_token, x0_from, x0_figures, x0_fault, x0_numbers, x0_statements, x0_left, x0_far, x0_tons, x0_way, x0_steps, x0_met, x0_queue, x0_totals) p1 = some out) : Ct l d yX7_isLine cX7_isLine 2 (some .boolean) { frames := 1, cells := 0, slots := 0, locals := 25 } [.ref (h0 0), .int p1] [gMd d h0 a0_kept a0_tried a0_chosen r0_rows r0_line r0_good r0_work x0_shelf x0_rowSort x0_rowSize x0_moved x0_shown x0_tape x0_tapeSize x0_refused x0_lines x0_changes x0_coins x0_goods x0_works x0_years x0_gone x0_spent x0_at x0_token x0_from x0_figures x0_fault x0_numbers x0_statements x0_left x0_far x0_tons x0_way x0_steps x0_met x0_queue x0_totals] (fun _ : Unit => (some (.int out), [gMd d h0 a0_kept a0_tried a0_chosen r0_rows r0_line r0_good r0_work x0_shelf x0_rowSort x0_rowSize x0_moved x0_shown x0_tape x0_tapeSize x0_refused x0_lines x0_changes x0_coins x0_goods x0_works x0_years x0_gone x0_spent x0_at x0_token x0_from x0_figures x0_fault x0_numbers x0_statements x0_left x0_far x0_tons x0_way x0_steps x0_met x0_queue x0_totals])) := by
  refine Ct.of (by decide) (Nat.le_of_ble_eq_true rfl) ?_
  intro Φ hl hK hR
  subst hl
  have hK : Ok d Φ RX7 "isLine" cX7_isLine 2 (some .boolean) { frames := 1, cells := 0, slots := 0, locals := 25 } := hK
  unfold fX7_isLine at hf
  have hf := un35 hf
  show J d Φ 2 [gMd d h0 a0_kept a0_tried a0_chosen r0_rows r0_line r0_good r0_work x0_shelf x0_rowSort x0_rowSize x0_moved x0_shown x0_tape x0_tapeSize x0_refused x0_lines x0_changes x0_coins x0_goods x0_works x0_years x0_gone x0_spent x0_at x0_token x0_from x0_figures x0_fault x0_numbers x0_statements x0_left x0_far x0_tons x0_way x0_steps x0_met x0_queue x0_totals] 0 0 0 [(0, .ref (h0 0)), (1, .int p1)] []
  refine J_iload_n hK dX7_isLine_0 rfl 1 rfl rfl ?_
  refine J_i2l hK dX7_isLine_1 rfl ?_
  refine J_lconst (v := 0) hK dX7_isLine_2 rfl (by decide) ?_
  refine J_aload_n hK dX7_isLine_3 rfl 0 rfl rfl ?_
  refine J_get hK fo_RX7_82 dX7_isLine_4 rfl 0 0 rfl rfl rfl ?_
  refine J_iconst (v := 1) hK dX7_isLine_7 rfl (by decide) ?_
  refine J_isub hK dX7_isLine_8 rfl ?_
  refine J_i2l hK dX7_isLine_9 rfl ?_
  obtain ⟨v1, e2, hf⟩ := bs hf
  refine J_callS (m' := 1) (ce' := 0) (sl' := 0) (gr := [gMd d h0 a0_kept a0_tried a0_chosen r0_rows r0_line r0_good r0_work x0_shelf x0_rowSort x0_rowSize x0_moved x0_shown x0_tape x0_tapeSize x0_refused x0_lines x0_changes x0_coins x0_goods x0_works x0_years x0_gone x0_spent x0_at x0_token x0_from x0_figures x0_fault x0_numbers x0_statements x0_left x0_far x0_tons x0_way x0_steps x0_met x0_queue x0_totals]) (gs' := fun _ => [gMd d h0 a0_kept a0_tried a0_chosen r0_rows r0_line r0_good r0_work x0_shelf x0_rowSort x0_rowSize x0_moved x0_shown x0_tape x0_tapeSize x0_refused x0_lines x0_changes x0_coins x0_goods x0_works x0_years x0_gone x0_spent x0_at x0_token x0_from x0_figures x0_fault x0_numbers x0_statements x0_left x0_far x0_tons x0_way x0_steps x0_met x0_queue x0_totals]) (st' := fun _ => [.int v1]) (st := []) hK dX7_isLine_10 cv_RX7_78 ws_yX7_in (As := [.long ((p1).toInt64), .long (0 : Int64), .long (((x0_lines - 1)).toInt64)]) (kX7_in _ d ((p1).toInt64) (0 : Int64) (((x0_lines - 1)).toInt64) e2) rfl rfl (Nat.le_of_ble_eq_true rfl) (by decide) [] [0] rfl rfl rfl rfl [0] rfl (fun _ => rfl) (fun _ => rfl) rfl rfl rfl (fun _ => rfl) (fun _ => ?_)
  obtain ⟨v3, ev3, hf⟩ := bs hf
  obtain rfl := Option.some.inj hf
  exact J_zret hK hR dX7_isLine_13 () (zb_ok ev3).2 (by rw [(zb_ok ev3).1]) (by decide) (by decide)

def fX7_isWork (X0 : MdT) (p1 : Int32) : Option (Int32) :=
  u35 (fun (x0_shelf : (Nat → Int32)) (x0_rowSort : (Nat → Int32)) (x0_rowSize : (Nat → Int32)) (x0_rows : (Nat → Nat → Int64)) (x0_moved : (Nat → Int64)) (x0_shown : (Nat → Int32)) (x0_tape : (Nat → Int32)) (x0_tapeSize : Int32) (x0_refused : (Nat → Int32)) (x0_lines : Int32) (x0_line : (Nat → Nat → Int32)) (x0_changes : (Nat → Int32)) (x0_coins : (Nat → Int32)) (x0_goods : Int32) (x0_good : (Nat → Nat → Int32)) (x0_works : Int32) (x0_work : (Nat → Nat → Int32)) (x0_years : Int32) (x0_gone : Int32) (x0_spent : Int32) (x0_at : Int32) (x0_token : Int32) (x0_from : Int32) (x0_figures : Int64) (x0_fault : Int32) (x0_numbers : (Nat → Int32)) (x0_statements : Int32) (x0_left : (Nat → Int32)) (x0_far : (Nat → Int32)) (x0_tons : Int32) (x0_way : (Nat → Int32)) (x0_steps : Int32) (x0_met : Int64) (x0_queue : (Nat → Int32)) (x0_totals : (Nat → Int32)) => (fX7_in ((p1).toInt64) (0 : Int64) (((x0_works - 1)).toInt64)).bind (fun v1 => (zb v1).bind fun v3 => some v3)) X0
set_option maxHeartbeats 4000000 in
set_option maxRecDepth 100000 in
theorem kX7_isWork (l : Launch) (d : DT) (h0 : Nat → Nat) (r0_rows : Nat → Nat) (r0_line : Nat → Nat) (r0_good : Nat → Nat) (r0_work : Nat → Nat) (a0_kept : Option Nat) (a0_tried : Option Nat) (a0_chosen : Option Nat) (x0_shelf : (Nat → Int32)) (x0_rowSort : (Nat → Int32)) (x0_rowSize : (Nat → Int32)) (x0_rows : (Nat → Nat → Int64)) (x0_moved : (Nat → Int64)) (x0_shown : (Nat → Int32)) (x0_tape : (Nat → Int32)) (x0_tapeSize : Int32) (x0_refused : (Nat → Int32)) (x0_lines : Int32) (x0_line : (Nat → Nat → Int32)) (x0_changes : (Nat → Int32)) (x0_coins : (Nat → Int32)) (x0_goods : Int32) (x0_good : (Nat → Nat → Int32)) (x0_works : Int32) (x0_work : (Nat → Nat → Int32)) (x0_years : Int32) (x0_gone : Int32) (x0_spent : Int32) (x0_at : Int32) (x0_token : Int32) (x0_from : Int32) (x0_figures : Int64) (x0_fault : Int32) (x0_numbers : (Nat → Int32)) (x0_statements : Int32) (x0_left : (Nat → Int32)) (x0_far : (Nat → Int32)) (x0_tons : Int32) (x0_way : (Nat → Int32)) (x0_steps : Int32) (x0_met : Int64) (x0_queue : (Nat → Int32)) (x0_totals : (Nat → Int32)) (p1 : Int32)  {out : Int32} (hf : fX7_isWork (x0_shelf, x0_rowSort, x0_rowSize, x0_rows, x0_moved, x0_shown, x0_tape, x0_tapeSize, x0_refused, x0_lines, x0_line, x0_changes, x0_coins, x0_goods, x0_good, x0_works, x0_work, x0_years, x0_gone, x0_spent, x0_at, x0_token, x0_from, x0_figures, x0_fault, x0_numbers, x0_statements, x0_left, x0_far, x0_tons, x0_way, x0_steps, x0_met, x0_queue, x0_totals) p1 = some out) : Ct l d yX7_isWork cX7_isWork 2 (some .boolean) { frames := 1, cells := 0, slots := 0, locals := 25 } [.ref (h0 0), .int p1] [gMd d h0 a0_kept a0_tried a0_chosen r0_rows r0_line r0_good r0_work x0_shelf x0_rowSort x0_rowSize x0_moved x0_shown x0_tape x0_tapeSize x0_refused x0_lines x0_changes x0_coins x0_goods x0_works x0_years x0_gone x0_spent x0_at x0_token x0_from x0_figures x0_fault x0_numbers x0_statements x0_left x0_far x0_tons x0_way x0_steps x0_met x0_queue x0_totals] (fun _ : Unit => (some (.int out), [gMd d h0 a0_kept a0_tried a0_chosen r0_rows r0_line r0_good r0_work x0_shelf x0_rowSort x0_rowSize x0_moved x0_shown x0_tape x0_tapeSize x0_refused x0_lines x0_changes x0_coins x0_goods x0_works x0_years x0_gone x0_spent x0_at x0_token x0_from x0_figures x0_fault x0_numbers x0_statements x0_left x0_far x0_tons x0_way x0_steps x0_met x0_queue x0_totals])) := by
  refine Ct.of (by decide) (Nat.le_of_ble_eq_true rfl) ?_
  intro Φ hl hK hR
  subst hl
  have hK : Ok d Φ RX7 "isWork" cX7_isWork 2 (some .boolean) { frames := 1, cells := 0, slots := 0, locals := 25 } := hK
  unfold fX7_isWork at hf
  have hf := un35 hf
  show J d Φ 2 [gMd d h0 a0_kept a0_tried a0_chosen r0_rows r0_line r0_good r0_work x0_shelf x0_rowSort x0_rowSize x0_moved x0_shown x0_tape x0_tapeSize x0_refused x0_lines x0_changes x0_coins x0_goods x0_works x0_years x0_gone x0_spent x0_at x0_token x0_from x0_figures x0_fault x0_numbers x0_statements x0_left x0_far x0_tons x0_way x0_steps x0_met x0_queue x0_totals] 0 0 0 [(0, .ref (h0 0)), (1, .int p1)] []
  refine J_iload_n hK dX7_isWork_0 rfl 1 rfl rfl ?_
  refine J_i2l hK dX7_isWork_1 rfl ?_
  refine J_lconst (v := 0) hK dX7_isWork_2 rfl (by decide) ?_
  refine J_aload_n hK dX7_isWork_3 rfl 0 rfl rfl ?_
  refine J_get hK fo_RX7_85 dX7_isWork_4 rfl 0 0 rfl rfl rfl ?_
  refine J_iconst (v := 1) hK dX7_isWork_7 rfl (by decide) ?_
  refine J_isub hK dX7_isWork_8 rfl ?_
  refine J_i2l hK dX7_isWork_9 rfl ?_
  obtain ⟨v1, e2, hf⟩ := bs hf
  refine J_callS (m' := 1) (ce' := 0) (sl' := 0) (gr := [gMd d h0 a0_kept a0_tried a0_chosen r0_rows r0_line r0_good r0_work x0_shelf x0_rowSort x0_rowSize x0_moved x0_shown x0_tape x0_tapeSize x0_refused x0_lines x0_changes x0_coins x0_goods x0_works x0_years x0_gone x0_spent x0_at x0_token x0_from x0_figures x0_fault x0_numbers x0_statements x0_left x0_far x0_tons x0_way x0_steps x0_met x0_queue x0_totals]) (gs' := fun _ => [gMd d h0 a0_kept a0_tried a0_chosen r0_rows r0_line r0_good r0_work x0_shelf x0_rowSort x0_rowSize x0_moved x0_shown x0_tape x0_tapeSize x0_refused x0_lines x0_changes x0_coins x0_goods x0_works x0_years x0_gone x0_spent x0_at x0_token x0_from x0_figures x0_fault x0_numbers x0_statements x0_left x0_far x0_tons x0_way x0_steps x0_met x0_queue x0_totals]) (st' := fun _ => [.int v1]) (st := []) hK dX7_isWork_10 cv_RX7_78 ws_yX7_in (As := [.long ((p1).toInt64), .long (0 : Int64), .long (((x0_works - 1)).toInt64)]) (kX7_in _ d ((p1).toInt64) (0 : Int64) (((x0_works - 1)).toInt64) e2) rfl rfl (Nat.le_of_ble_eq_true rfl) (by decide) [] [0] rfl rfl rfl rfl [0] rfl (fun _ => rfl) (fun _ => rfl) rfl rfl rfl (fun _ => rfl) (fun _ => ?_)
  obtain ⟨v3, ev3, hf⟩ := bs hf
  obtain rfl := Option.some.inj hf
  exact J_zret hK hR dX7_isWork_13 () (zb_ok ev3).2 (by rw [(zb_ok ev3).1]) (by decide) (by decide)

def fX7_row_s67 (p1 : Int32) (z17 : Int32) (z18 : (Nat → Nat → Int64)) : Option ((Int32 × (Nat → Nat → Int64)) ⊕ ((Nat → Nat → Int64))) :=
  if 40 ≤ z17 then (some (.inr z18)) else ((ck p1 8).bind fun q21 => (wr 40 (z18 q21) z17 (0 : Int64)).bind fun f22 => some (.inl ((z17 + 1), (va_up z18 q21 f22))))
def fX7_row (n : Nat) (X0 : MdT) (p1 : Int32) (p2 : Int32) (p3 : Int32) : Option (Int32 × ((Nat → Int32) × (Nat → Int32) × (Nat → Int32) × (Nat → Nat → Int64) × (Nat → Int32))) :=
  u35 (fun (x0_shelf : (Nat → Int32)) (x0_rowSort : (Nat → Int32)) (x0_rowSize : (Nat → Int32)) (x0_rows : (Nat → Nat → Int64)) (x0_moved : (Nat → Int64)) (x0_shown : (Nat → Int32)) (x0_tape : (Nat → Int32)) (x0_tapeSize : Int32) (x0_refused : (Nat → Int32)) (x0_lines : Int32) (x0_line : (Nat → Nat → Int32)) (x0_changes : (Nat → Int32)) (x0_coins : (Nat → Int32)) (x0_goods : Int32) (x0_good : (Nat → Nat → Int32)) (x0_works : Int32) (x0_work : (Nat → Nat → Int32)) (x0_years : Int32) (x0_gone : Int32) (x0_spent : Int32) (x0_at : Int32) (x0_token : Int32) (x0_from : Int32) (x0_figures : Int64) (x0_fault : Int32) (x0_numbers : (Nat → Int32)) (x0_statements : Int32) (x0_left : (Nat → Int32)) (x0_far : (Nat → Int32)) (x0_tons : Int32) (x0_way : (Nat → Int32)) (x0_steps : Int32) (x0_met : Int64) (x0_queue : (Nat → Int32)) (x0_totals : (Nat → Int32)) => (fX7_in ((p1).toInt64) (0 : Int64) (7 : Int64)).bind (fun v1 => if v1 = 0 then ((fX7_refuse (x0_shelf, x0_rowSort, x0_rowSize, x0_rows, x0_moved, x0_shown, x0_tape, x0_tapeSize, x0_refused, x0_lines, x0_line, x0_changes, x0_coins, x0_goods, x0_good, x0_works, x0_work, x0_years, x0_gone, x0_spent, x0_at, x0_token, x0_from, x0_figures, x0_fault, x0_numbers, x0_statements, x0_left, x0_far, x0_tons, x0_way, x0_steps, x0_met, x0_queue, x0_totals) (-2)).bind (u2 fun v3 g4 => some (v3, (x0_shelf, x0_rowSort, x0_rowSize, x0_rows, g4)))) else ((fX7_in ((p2).toInt64) (0 : Int64) (4 : Int64)).bind (fun v6 => if v6 = 0 then ((fX7_refuse (x0_shelf, x0_rowSort, x0_rowSize, x0_rows, x0_moved, x0_shown, x0_tape, x0_tapeSize, x0_refused, x0_lines, x0_line, x0_changes, x0_coins, x0_goods, x0_good, x0_works, x0_work, x0_years, x0_gone, x0_spent, x0_at, x0_token, x0_from, x0_figures, x0_fault, x0_numbers, x0_statements, x0_left, x0_far, x0_tons, x0_way, x0_steps, x0_met, x0_queue, x0_totals) (-2)).bind (u2 fun v8 g9 => some (v8, (x0_shelf, x0_rowSort, x0_rowSize, x0_rows, g9)))) else ((fX7_in ((p3).toInt64) (0 : Int64) (40 : Int64)).bind (fun v11 => if v11 = 0 then ((fX7_refuse (x0_shelf, x0_rowSort, x0_rowSize, x0_rows, x0_moved, x0_shown, x0_tape, x0_tapeSize, x0_refused, x0_lines, x0_line, x0_changes, x0_coins, x0_goods, x0_good, x0_works, x0_work, x0_years, x0_gone, x0_spent, x0_at, x0_token, x0_from, x0_figures, x0_fault, x0_numbers, x0_statements, x0_left, x0_far, x0_tons, x0_way, x0_steps, x0_met, x0_queue, x0_totals) (-2)).bind (u2 fun v23 g24 => some (v23, (x0_shelf, x0_rowSort, x0_rowSize, x0_rows, g24)))) else ((wr 8 x0_shelf p1 (1)).bind fun f13 => (wr 8 x0_rowSort p1 p2).bind fun f14 => (wr 8 x0_rowSize p1 p3).bind fun f15 => (lp (u2 (fX7_row_s67 p1)) n (0, x0_rows)).bind (fun w20 => some (1, (f13, f14, f15, w20, x0_refused)))))))))) X0
set_option maxHeartbeats 4000000 in
set_option maxRecDepth 100000 in
theorem kX7_row (l : Launch) (d : DT) (h0 : Nat → Nat) (r0_rows : Nat → Nat) (r0_line : Nat → Nat) (r0_good : Nat → Nat) (r0_work : Nat → Nat) (a0_kept : Option Nat) (a0_tried : Option Nat) (a0_chosen : Option Nat) (n : Nat) (x0_shelf : (Nat → Int32)) (x0_rowSort : (Nat → Int32)) (x0_rowSize : (Nat → Int32)) (x0_rows : (Nat → Nat → Int64)) (x0_moved : (Nat → Int64)) (x0_shown : (Nat → Int32)) (x0_tape : (Nat → Int32)) (x0_tapeSize : Int32) (x0_refused : (Nat → Int32)) (x0_lines : Int32) (x0_line : (Nat → Nat → Int32)) (x0_changes : (Nat → Int32)) (x0_coins : (Nat → Int32)) (x0_goods : Int32) (x0_good : (Nat → Nat → Int32)) (x0_works : Int32) (x0_work : (Nat → Nat → Int32)) (x0_years : Int32) (x0_gone : Int32) (x0_spent : Int32) (x0_at : Int32) (x0_token : Int32) (x0_from : Int32) (x0_figures : Int64) (x0_fault : Int32) (x0_numbers : (Nat → Int32)) (x0_statements : Int32) (x0_left : (Nat → Int32)) (x0_far : (Nat → Int32)) (x0_tons : Int32) (x0_way : (Nat → Int32)) (x0_steps : Int32) (x0_met : Int64) (x0_queue : (Nat → Int32)) (x0_totals : (Nat → Int32)) (p1 : Int32) (p2 : Int32) (p3 : Int32)  {out : Int32 × ((Nat → Int32) × (Nat → Int32) × (Nat → Int32) × (Nat → Nat → Int64) × (Nat → Int32))} (hf : fX7_row n (x0_shelf, x0_rowSort, x0_rowSize, x0_rows, x0_moved, x0_shown, x0_tape, x0_tapeSize, x0_refused, x0_lines, x0_line, x0_changes, x0_coins, x0_goods, x0_good, x0_works, x0_work, x0_years, x0_gone, x0_spent, x0_at, x0_token, x0_from, x0_figures, x0_fault, x0_numbers, x0_statements, x0_left, x0_far, x0_tons, x0_way, x0_steps, x0_met, x0_queue, x0_totals) p1 p2 p3 = some out) : Ct l d yX7_row cX7_row 5 (some .int) { frames := 1, cells := 0, slots := 0, locals := 25 } [.ref (h0 0), .int p1, .int p2, .int p3] [gMd d h0 a0_kept a0_tried a0_chosen r0_rows r0_line r0_good r0_work x0_shelf x0_rowSort x0_rowSize x0_moved x0_shown x0_tape x0_tapeSize x0_refused x0_lines x0_changes x0_coins x0_goods x0_works x0_years x0_gone x0_spent x0_at x0_token x0_from x0_figures x0_fault x0_numbers x0_statements x0_left x0_far x0_tons x0_way x0_steps x0_met x0_queue x0_totals, gridJ d r0_rows 8 40 x0_rows] (fun _ : Unit => (some (.int out.1), [gMd d h0 a0_kept a0_tried a0_chosen r0_rows r0_line r0_good r0_work (out.2.1) (out.2.2.1) (out.2.2.2.1) x0_moved x0_shown x0_tape x0_tapeSize (out.2.2.2.2.2) x0_lines x0_changes x0_coins x0_goods x0_works x0_years x0_gone x0_spent x0_at x0_token x0_from x0_figures x0_fault x0_numbers x0_statements x0_left x0_far x0_tons x0_way x0_steps x0_met x0_queue x0_totals, gridJ d r0_rows 8 40 (out.2.2.2.2.1)])) := by
  refine Ct.of (by decide) (Nat.le_of_ble_eq_true rfl) ?_
  intro Φ hl hK hR
  subst hl
  have hK : Ok d Φ RX7 "row" cX7_row 5 (some .int) { frames := 1, cells := 0, slots := 0, locals := 25 } := hK
  unfold fX7_row at hf
  have hf := un35 hf
  show J d Φ 5 [gMd d h0 a0_kept a0_tried a0_chosen r0_rows r0_line r0_good r0_work x0_shelf x0_rowSort x0_rowSize x0_moved x0_shown x0_tape x0_tapeSize x0_refused x0_lines x0_changes x0_coins x0_goods x0_works x0_years x0_gone x0_spent x0_at x0_token x0_from x0_figures x0_fault x0_numbers x0_statements x0_left x0_far x0_tons x0_way x0_steps x0_met x0_queue x0_totals, gridJ d r0_rows 8 40 x0_rows] 0 0 0 [(0, .ref (h0 0)), (1, .int p1), (2, .int p2), (3, .int p3)] []
  refine J_iload_n hK dX7_row_0 rfl 1 rfl rfl ?_
  refine J_i2l hK dX7_row_1 rfl ?_
  refine J_lconst (v := 0) hK dX7_row_2 rfl (by decide) ?_
  refine J_ldc2 (v := (7 : Int64)) hK dX7_row_3 rfl wk_RX7_88 ?_
  obtain ⟨v1, e2, hf⟩ := bs hf
  refine J_callS (m' := 2) (ce' := 0) (sl' := 0) (gr := [gMd d h0 a0_kept a0_tried a0_chosen r0_rows r0_line r0_good r0_work x0_shelf x0_rowSort x0_rowSize x0_moved x0_shown x0_tape x0_tapeSize x0_refused x0_lines x0_changes x0_coins x0_goods x0_works x0_years x0_gone x0_spent x0_at x0_token x0_from x0_figures x0_fault x0_numbers x0_statements x0_left x0_far x0_tons x0_way x0_steps x0_met x0_queue x0_totals, gridJ d r0_rows 8 40 x0_rows]) (gs' := fun _ => [gMd d h0 a0_kept a0_tried a0_chosen r0_rows r0_line r0_good r0_work x0_shelf x0_rowSort x0_rowSize x0_moved x0_shown x0_tape x0_tapeSize x0_refused x0_lines x0_changes x0_coins x0_goods x0_works x0_years x0_gone x0_spent x0_at x0_token x0_from x0_figures x0_fault x0_numbers x0_statements x0_left x0_far x0_tons x0_way x0_steps x0_met x0_queue x0_totals, gridJ d r0_rows 8 40 x0_rows]) (st' := fun _ => [.int v1]) (st := []) hK dX7_row_6 cv_RX7_78 ws_yX7_in (As := [.long ((p1).toInt64), .long (0 : Int64), .long (7 : Int64)]) (kX7_in _ d ((p1).toInt64) (0 : Int64) (7 : Int64) e2) rfl rfl (Nat.le_of_ble_eq_true rfl) (by decide) [] [0, 1] rfl rfl rfl rfl [0, 1] rfl (fun _ => rfl) (fun _ => rfl) rfl rfl rfl (fun _ => rfl) (fun _ => ?_)
  refine J_if_eq (tg := 36) hK dX7_row_9 rfl rfl (fun hc9 => ?_) (fun hc9 => ?_)
  · have hf := ip hc9 hf
    refine J_aload_n hK dX7_row_36 rfl 0 rfl rfl ?_
    refine J_bipush (v := (-2)) hK dX7_row_37 rfl (by decide) ?_
    obtain ⟨⟨v3, g4⟩, e5, hf⟩ := bs hf
    have hf := un2 hf
    refine J_callV (m' := 2) (ce' := 0) (sl' := 0) (gr := [gridJ d r0_rows 8 40 x0_rows]) (gs' := fun _ => [gMd d h0 a0_kept a0_tried a0_chosen r0_rows r0_line r0_good r0_work x0_shelf x0_rowSort x0_rowSize x0_moved x0_shown x0_tape x0_tapeSize g4 x0_lines x0_changes x0_coins x0_goods x0_works x0_years x0_gone x0_spent x0_at x0_token x0_from x0_figures x0_fault x0_numbers x0_statements x0_left x0_far x0_tons x0_way x0_steps x0_met x0_queue x0_totals, gridJ d r0_rows 8 40 x0_rows]) (st' := fun _ => [.int v3]) (st := []) hK dX7_row_39 cv_RX7_94 iv_yX7_refuse (As := [.int (-2)]) (kX7_refuse _ d h0 r0_rows r0_line r0_good r0_work a0_kept a0_tried a0_chosen x0_shelf x0_rowSort x0_rowSize x0_rows x0_moved x0_shown x0_tape x0_tapeSize x0_refused x0_lines x0_line x0_changes x0_coins x0_goods x0_good x0_works x0_work x0_years x0_gone x0_spent x0_at x0_token x0_from x0_figures x0_fault x0_numbers x0_statements x0_left x0_far x0_tons x0_way x0_steps x0_met x0_queue x0_totals (-2) e5) rfl rfl (Nat.le_of_ble_eq_true rfl) (by decide) 0 0 rfl rfl rfl [0] [1] rfl rfl rfl rfl [1, 0] rfl (fun _ => rfl) (fun _ => rfl) rfl rfl rfl (fun _ => rfl) (fun _ => ?_)
    obtain rfl := Option.some.inj hf
    exact J_iret hK hR dX7_row_42 () rfl (by decide) (by decide)
  · have hf := iq hc9 hf
    refine J_iload_n hK dX7_row_12 rfl 2 rfl rfl ?_
    refine J_i2l hK dX7_row_13 rfl ?_
    refine J_lconst (v := 0) hK dX7_row_14 rfl (by decide) ?_
    refine J_ldc2 (v := (4 : Int64)) hK dX7_row_15 rfl wk_RX7_90 ?_
    obtain ⟨v6, e7, hf⟩ := bs hf
    refine J_callS (m' := 2) (ce' := 0) (sl' := 0) (gr := [gMd d h0 a0_kept a0_tried a0_chosen r0_rows r0_line r0_good r0_work x0_shelf x0_rowSort x0_rowSize x0_moved x0_shown x0_tape x0_tapeSize x0_refused x0_lines x0_changes x0_coins x0_goods x0_works x0_years x0_gone x0_spent x0_at x0_token x0_from x0_figures x0_fault x0_numbers x0_statements x0_left x0_far x0_tons x0_way x0_steps x0_met x0_queue x0_totals, gridJ d r0_rows 8 40 x0_rows]) (gs' := fun _ => [gMd d h0 a0_kept a0_tried a0_chosen r0_rows r0_line r0_good r0_work x0_shelf x0_rowSort x0_rowSize x0_moved x0_shown x0_tape x0_tapeSize x0_refused x0_lines x0_changes x0_coins x0_goods x0_works x0_years x0_gone x0_spent x0_at x0_token x0_from x0_figures x0_fault x0_numbers x0_statements x0_left x0_far x0_tons x0_way x0_steps x0_met x0_queue x0_totals, gridJ d r0_rows 8 40 x0_rows]) (st' := fun _ => [.int v6]) (st := []) hK dX7_row_18 cv_RX7_78 ws_yX7_in (As := [.long ((p2).toInt64), .long (0 : Int64), .long (4 : Int64)]) (kX7_in _ d ((p2).toInt64) (0 : Int64) (4 : Int64) e7) rfl rfl (Nat.le_of_ble_eq_true rfl) (by decide) [] [0, 1] rfl rfl rfl rfl [0, 1] rfl (fun _ => rfl) (fun _ => rfl) rfl rfl rfl (fun _ => rfl) (fun _ => ?_)
    refine J_if_eq (tg := 36) hK dX7_row_21 rfl rfl (fun hc21 => ?_) (fun hc21 => ?_)
    · have hf := ip hc21 hf
      refine J_aload_n hK dX7_row_36 rfl 0 rfl rfl ?_
      refine J_bipush (v := (-2)) hK dX7_row_37 rfl (by decide) ?_
      obtain ⟨⟨v8, g9⟩, e10, hf⟩ := bs hf
      have hf := un2 hf
      refine J_callV (m' := 2) (ce' := 0) (sl' := 0) (gr := [gridJ d r0_rows 8 40 x0_rows]) (gs' := fun _ => [gMd d h0 a0_kept a0_tried a0_chosen r0_rows r0_line r0_good r0_work x0_shelf x0_rowSort x0_rowSize x0_moved x0_shown x0_tape x0_tapeSize g9 x0_lines x0_changes x0_coins x0_goods x0_works x0_years x0_gone x0_spent x0_at x0_token x0_from x0_figures x0_fault x0_numbers x0_statements x0_left x0_far x0_tons x0_way x0_steps x0_met x0_queue x0_totals, gridJ d r0_rows 8 40 x0_rows]) (st' := fun _ => [.int v8]) (st := []) hK dX7_row_39 cv_RX7_94 iv_yX7_refuse (As := [.int (-2)]) (kX7_refuse _ d h0 r0_rows r0_line r0_good r0_work a0_kept a0_tried a0_chosen x0_shelf x0_rowSort x0_rowSize x0_rows x0_moved x0_shown x0_tape x0_tapeSize x0_refused x0_lines x0_line x0_changes x0_coins x0_goods x0_good x0_works x0_work x0_years x0_gone x0_spent x0_at x0_token x0_from x0_figures x0_fault x0_numbers x0_statements x0_left x0_far x0_tons x0_way x0_steps x0_met x0_queue x0_totals (-2) e10) rfl rfl (Nat.le_of_ble_eq_true rfl) (by decide) 0 0 rfl rfl rfl [0] [1] rfl rfl rfl rfl [1, 0] rfl (fun _ => rfl) (fun _ => rfl) rfl rfl rfl (fun _ => rfl) (fun _ => ?_)
      obtain rfl := Option.some.inj hf
      exact J_iret hK hR dX7_row_42 () rfl (by decide) (by decide)
    · have hf := iq hc21 hf
      refine J_iload_n hK dX7_row_24 rfl 3 rfl rfl ?_
      refine J_i2l hK dX7_row_25 rfl ?_
      refine J_lconst (v := 0) hK dX7_row_26 rfl (by decide) ?_
      refine J_ldc2 (v := (40 : Int64)) hK dX7_row_27 rfl wk_RX7_92 ?_
      obtain ⟨v11, e12, hf⟩ := bs hf
      refine J_callS (m' := 2) (ce' := 0) (sl' := 0) (gr := [gMd d h0 a0_kept a0_tried a0_chosen r0_rows r0_line r0_good r0_work x0_shelf x0_rowSort x0_rowSize x0_moved x0_shown x0_tape x0_tapeSize x0_refused x0_lines x0_changes x0_coins x0_goods x0_works x0_years x0_gone x0_spent x0_at x0_token x0_from x0_figures x0_fault x0_numbers x0_statements x0_left x0_far x0_tons x0_way x0_steps x0_met x0_queue x0_totals, gridJ d r0_rows 8 40 x0_rows]) (gs' := fun _ => [gMd d h0 a0_kept a0_tried a0_chosen r0_rows r0_line r0_good r0_work x0_shelf x0_rowSort x0_rowSize x0_moved x0_shown x0_tape x0_tapeSize x0_refused x0_lines x0_changes x0_coins x0_goods x0_works x0_years x0_gone x0_spent x0_at x0_token x0_from x0_figures x0_fault x0_numbers x0_statements x0_left x0_far x0_tons x0_way x0_steps x0_met x0_queue x0_totals, gridJ d r0_rows 8 40 x0_rows]) (st' := fun _ => [.int v11]) (st := []) hK dX7_row_30 cv_RX7_78 ws_yX7_in (As := [.long ((p3).toInt64), .long (0 : Int64), .long (40 : Int64)]) (kX7_in _ d ((p3).toInt64) (0 : Int64) (40 : Int64) e12) rfl rfl (Nat.le_of_ble_eq_true rfl) (by decide) [] [0, 1] rfl rfl rfl rfl [0, 1] rfl (fun _ => rfl) (fun _ => rfl) rfl rfl rfl (fun _ => rfl) (fun _ => ?_)
      refine J_if_ne (tg := 43) hK dX7_row_33 rfl rfl (fun hc33 => ?_) (fun hc33 => ?_)
      · have hf := iq hc33 hf
        refine J_aload_n hK dX7_row_43 rfl 0 rfl rfl ?_
        refine J_get hK fo_RX7_7 dX7_row_44 rfl 0 0 rfl rfl rfl ?_
        refine J_iload_n hK dX7_row_47 rfl 1 rfl rfl ?_
        refine J_iconst (v := 1) hK dX7_row_48 rfl (by decide) ?_
        obtain ⟨f13, ef13, hf⟩ := bs hf
        refine J_iast (g' := gMd d h0 a0_kept a0_tried a0_chosen r0_rows r0_line r0_good r0_work f13 x0_rowSort x0_rowSize x0_moved x0_shown x0_tape x0_tapeSize x0_refused x0_lines x0_changes x0_coins x0_goods x0_works x0_years x0_gone x0_spent x0_at x0_token x0_from x0_figures x0_fault x0_numbers x0_statements x0_left x0_far x0_tons x0_way x0_steps x0_met x0_queue x0_totals) (gs' := [gMd d h0 a0_kept a0_tried a0_chosen r0_rows r0_line r0_good r0_work f13 x0_rowSort x0_rowSize x0_moved x0_shown x0_tape x0_tapeSize x0_refused x0_lines x0_changes x0_coins x0_goods x0_works x0_years x0_gone x0_spent x0_at x0_token x0_from x0_figures x0_fault x0_numbers x0_statements x0_left x0_far x0_tons x0_way x0_steps x0_met x0_queue x0_totals, gridJ d r0_rows 8 40 x0_rows]) hK dX7_row_49 rfl 0 1 rfl rfl ef13 rfl rfl ?_
        refine J_aload_n hK dX7_row_50 rfl 0 rfl rfl ?_
        refine J_get hK fo_RX7_13 dX7_row_51 rfl 0 0 rfl rfl rfl ?_
        refine J_iload_n hK dX7_row_54 rfl 1 rfl rfl ?_
        refine J_iload_n hK dX7_row_55 rfl 2 rfl rfl ?_
        obtain ⟨f14, ef14, hf⟩ := bs hf
        refine J_iast (g' := gMd d h0 a0_kept a0_tried a0_chosen r0_rows r0_line r0_good r0_work f13 f14 x0_rowSize x0_moved x0_shown x0_tape x0_tapeSize x0_refused x0_lines x0_changes x0_coins x0_goods x0_works x0_years x0_gone x0_spent x0_at x0_token x0_from x0_figures x0_fault x0_numbers x0_statements x0_left x0_far x0_tons x0_way x0_steps x0_met x0_queue x0_totals) (gs' := [gMd d h0 a0_kept a0_tried a0_chosen r0_rows r0_line r0_good r0_work f13 f14 x0_rowSize x0_moved x0_shown x0_tape x0_tapeSize x0_refused x0_lines x0_changes x0_coins x0_goods x0_works x0_years x0_gone x0_spent x0_at x0_token x0_from x0_figures x0_fault x0_numbers x0_statements x0_left x0_far x0_tons x0_way x0_steps x0_met x0_queue x0_totals, gridJ d r0_rows 8 40 x0_rows]) hK dX7_row_56 rfl 0 2 rfl rfl ef14 rfl rfl ?_
        refine J_aload_n hK dX7_row_57 rfl 0 rfl rfl ?_
        refine J_get hK fo_RX7_16 dX7_row_58 rfl 0 0 rfl rfl rfl ?_
        refine J_iload_n hK dX7_row_61 rfl 1 rfl rfl ?_
        refine J_iload_n hK dX7_row_62 rfl 3 rfl rfl ?_
        obtain ⟨f15, ef15, hf⟩ := bs hf
        refine J_iast (g' := gMd d h0 a0_kept a0_tried a0_chosen r0_rows r0_line r0_good r0_work f13 f14 f15 x0_moved x0_shown x0_tape x0_tapeSize x0_refused x0_lines x0_changes x0_coins x0_goods x0_works x0_years x0_gone x0_spent x0_at x0_token x0_from x0_figures x0_fault x0_numbers x0_statements x0_left x0_far x0_tons x0_way x0_steps x0_met x0_queue x0_totals) (gs' := [gMd d h0 a0_kept a0_tried a0_chosen r0_rows r0_line r0_good r0_work f13 f14 f15 x0_moved x0_shown x0_tape x0_tapeSize x0_refused x0_lines x0_changes x0_coins x0_goods x0_works x0_years x0_gone x0_spent x0_at x0_token x0_from x0_figures x0_fault x0_numbers x0_statements x0_left x0_far x0_tons x0_way x0_steps x0_met x0_queue x0_totals, gridJ d r0_rows 8 40 x0_rows]) hK dX7_row_63 rfl 0 3 rfl rfl ef15 rfl rfl ?_
        refine J_iconst (v := 0) hK dX7_row_64 rfl (by decide) ?_
        refine J_istore (L' := [(4, .int (0)), (0, .ref (h0 0)), (1, .int p1), (2, .int p2), (3, .int p3)]) hK dX7_row_65 rfl (by decide) rfl ?_
        obtain ⟨e19, hl16, hf⟩ := bs hf
        have hx16_90 : ∀ (w20 : (Nat → Nat → Int64)), w20 = e19 → J d Φ 5 [gMd d h0 a0_kept a0_tried a0_chosen r0_rows r0_line r0_good r0_work f13 f14 f15 x0_moved x0_shown x0_tape x0_tapeSize x0_refused x0_lines x0_changes x0_coins x0_goods x0_works x0_years x0_gone x0_spent x0_at x0_token x0_from x0_figures x0_fault x0_numbers x0_statements x0_left x0_far x0_tons x0_way x0_steps x0_met x0_queue x0_totals, gridJ d r0_rows 8 40 w20] 0 0 90 [] [] := by
          intro w20 he
          rw [← he] at hf
          refine J_iconst (v := 1) hK dX7_row_90 rfl (by decide) ?_
          obtain rfl := Option.some.inj hf
          exact J_iret hK hR dX7_row_91 () rfl (by decide) (by decide)
        have lo16 : ∀ (k : Nat) (z17 : Int32) (z18 : (Nat → Nat → Int64)), lp (u2 (fX7_row_s67 p1)) k (z17, z18) = some e19 → J d Φ 5 [gMd d h0 a0_kept a0_tried a0_chosen r0_rows r0_line r0_good r0_work f13 f14 f15 x0_moved x0_shown x0_tape x0_tapeSize x0_refused x0_lines x0_changes x0_coins x0_goods x0_works x0_years x0_gone x0_spent x0_at x0_token x0_from x0_figures x0_fault x0_numbers x0_statements x0_left x0_far x0_tons x0_way x0_steps x0_met x0_queue x0_totals, gridJ d r0_rows 8 40 z18] 0 0 67 [(0, .ref (h0 0)), (1, .int p1), (4, .int z17)] [] := by
          intro k
          induction k with
          | zero => intro z17 z18 h; cases h
          | succ k ih16 =>
            intro z17 z18 h
            obtain ⟨k2, rr16, hk2, hs16, hr16⟩ := lp_ok h
            cases hk2
            have hs16 : fX7_row_s67 p1 z17 z18 = some rr16 := hs16
            unfold fX7_row_s67 at hs16
            refine J_iload hK dX7_row_67 rfl 2 rfl ?_
            refine J_bipush (v := 40) hK dX7_row_69 rfl (by decide) ?_
            refine J_icmp_ge (tg := 90) hK dX7_row_71 rfl rfl (fun hc71 => ?_) (fun hc71 => ?_)
            · have hs16 := ip hc71 hs16
              exact J_loc [] rfl (hx16_90 z18 (lpx hs16 hr16))
            · have hs16 := iq hc71 hs16
              refine J_aload_n hK dX7_row_74 rfl 0 rfl rfl ?_
              refine J_get hK fo_RX7_21 dX7_row_75 rfl 0 0 rfl rfl rfl ?_
              refine J_iload_n hK dX7_row_78 rfl 1 rfl rfl ?_
              obtain ⟨q21, eq21, hs16⟩ := bs hs16
              refine J_aald hK dX7_row_79 rfl 0 4 rfl rfl rfl eq21 ?_
              refine J_iload hK dX7_row_80 rfl 2 rfl ?_
              refine J_lconst (v := 0) hK dX7_row_82 rfl (by decide) ?_
              obtain ⟨f22, ef22, hs16⟩ := bs hs16
              refine J_last (g' := gridJ d r0_rows 8 40 (va_up z18 q21 f22)) (gs' := [gMd d h0 a0_kept a0_tried a0_chosen r0_rows r0_line r0_good r0_work f13 f14 f15 x0_moved x0_shown x0_tape x0_tapeSize x0_refused x0_lines x0_changes x0_coins x0_goods x0_works x0_years x0_gone x0_spent x0_at x0_token x0_from x0_figures x0_fault x0_numbers x0_statements x0_left x0_far x0_tons x0_way x0_steps x0_met x0_queue x0_totals, gridJ d r0_rows 8 40 (va_up z18 q21 f22)]) hK dX7_row_83 rfl 1 q21 rfl (gridJ_at (ck_ok eq21).2.2) ef22 gridJ_set rfl ?_
              refine J_iinc (L' := [(4, .int (z17 + 1)), (0, .ref (h0 0)), (1, .int p1)]) (v := (z17 + 1)) hK dX7_row_84 rfl 2 rfl rfl (by decide) rfl ?_
              refine J_goto hK dX7_row_87 (n := 67) rfl ?_
              exact J_loc [1, 2, 0] rfl (ih16 (z17 + 1) (va_up z18 q21 f22) (lpc hs16 hr16))
        exact J_loc [1, 2, 0] rfl (lo16 n (0) x0_rows hl16)
      · have hf := ip hc33 hf
        refine J_aload_n hK dX7_row_36 rfl 0 rfl rfl ?_
        refine J_bipush (v := (-2)) hK dX7_row_37 rfl (by decide) ?_
        obtain ⟨⟨v23, g24⟩, e25, hf⟩ := bs hf
        have hf := un2 hf
        refine J_callV (m' := 2) (ce' := 0) (sl' := 0) (gr := [gridJ d r0_rows 8 40 x0_rows]) (gs' := fun _ => [gMd d h0 a0_kept a0_tried a0_chosen r0_rows r0_line r0_good r0_work x0_shelf x0_rowSort x0_rowSize x0_moved x0_shown x0_tape x0_tapeSize g24 x0_lines x0_changes x0_coins x0_goods x0_works x0_years x0_gone x0_spent x0_at x0_token x0_from x0_figures x0_fault x0_numbers x0_statements x0_left x0_far x0_tons x0_way x0_steps x0_met x0_queue x0_totals, gridJ d r0_rows 8 40 x0_rows]) (st' := fun _ => [.int v23]) (st := []) hK dX7_row_39 cv_RX7_94 iv_yX7_refuse (As := [.int (-2)]) (kX7_refuse _ d h0 r0_rows r0_line r0_good r0_work a0_kept a0_tried a0_chosen x0_shelf x0_rowSort x0_rowSize x0_rows x0_moved x0_shown x0_tape x0_tapeSize x0_refused x0_lines x0_line x0_changes x0_coins x0_goods x0_good x0_works x0_work x0_years x0_gone x0_spent x0_at x0_token x0_from x0_figures x0_fault x0_numbers x0_statements x0_left x0_far x0_tons x0_way x0_steps x0_met x0_queue x0_totals (-2) e25) rfl rfl (Nat.le_of_ble_eq_true rfl) (by decide) 0 0 rfl rfl rfl [0] [1] rfl rfl rfl rfl [1, 0] rfl (fun _ => rfl) (fun _ => rfl) rfl rfl rfl (fun _ => rfl) (fun _ => ?_)
        obtain rfl := Option.some.inj hf
        exact J_iret hK hR dX7_row_42 () rfl (by decide) (by decide)

def fX7_fit (p0 : Int32) (p1 : Int64) : Option (Int64) :=
  if p0 = 0 then (some ((((p1).toInt32).toInt8.toInt32).toInt64)) else (if p0 = 1 then (some ((((p1).toInt32).toInt16.toInt32).toInt64)) else (if p0 = 2 then (some (((p1).toInt32).toInt64)) else (if p0 = 3 then (some p1) else (if (lg_cmp p1 (0 : Int64)) = 0 then (some (0 : Int64)) else (some (1 : Int64))))))
set_option maxHeartbeats 4000000 in
set_option maxRecDepth 100000 in
theorem kX7_fit (l : Launch) (d : DT)  (p0 : Int32) (p1 : Int64)  {out : Int64} (hf : fX7_fit p0 p1 = some out) : Ct l d yX7_fit cX7_fit 3 (some .long) { frames := 0, cells := 0, slots := 0, locals := 0 } [.int p0, .long p1] [] (fun _ : Unit => (some (.long out), [])) := by
  refine Ct.of (by decide) (Nat.le_of_ble_eq_true rfl) ?_
  intro Φ hl hK hR
  subst hl
  have hK : Ok d Φ RX7 "fit" cX7_fit 3 (some .long) { frames := 0, cells := 0, slots := 0, locals := 0 } := hK
  unfold fX7_fit at hf
  show J d Φ 3 [] 0 0 0 [(0, .int p0), (1, .long p1)] []
  refine J_iload_n hK dX7_fit_0 rfl 0 rfl rfl ?_
  by_cases hc1_0 : p0 = 0
  · have hf := ip hc1_0 hf
    refine J_swI (tg := 32) hK dX7_fit_1 (by rw [hc1_0]; decide) (by rw [hc1_0]; decide) (by rw [hc1_0]; rfl) rfl ?_
    refine J_lload_n hK dX7_fit_32 rfl 1 rfl rfl ?_
    refine J_l2i hK dX7_fit_33 rfl ?_
    refine J_i2b hK dX7_fit_34 rfl ?_
    refine J_i2l hK dX7_fit_35 rfl ?_
    obtain rfl := Option.some.inj hf
    exact J_lret hK hR dX7_fit_36 () rfl (by decide) (by decide)
  have hf := iq hc1_0 hf
  by_cases hc1_1 : p0 = 1
  · have hf := ip hc1_1 hf
    refine J_swI (tg := 37) hK dX7_fit_1 (by rw [hc1_1]; decide) (by rw [hc1_1]; decide) (by rw [hc1_1]; rfl) rfl ?_
    refine J_lload_n hK dX7_fit_37 rfl 1 rfl rfl ?_
    refine J_l2i hK dX7_fit_38 rfl ?_
    refine J_i2s hK dX7_fit_39 rfl ?_
    refine J_i2l hK dX7_fit_40 rfl ?_
    obtain rfl := Option.some.inj hf
    exact J_lret hK hR dX7_fit_41 () rfl (by decide) (by decide)
  have hf := iq hc1_1 hf
  by_cases hc1_2 : p0 = 2
  · have hf := ip hc1_2 hf
    refine J_swI (tg := 42) hK dX7_fit_1 (by rw [hc1_2]; decide) (by rw [hc1_2]; decide) (by rw [hc1_2]; rfl) rfl ?_
    refine J_lload_n hK dX7_fit_42 rfl 1 rfl rfl ?_
    refine J_l2i hK dX7_fit_43 rfl ?_
    refine J_i2l hK dX7_fit_44 rfl ?_
    obtain rfl := Option.some.inj hf
    exact J_lret hK hR dX7_fit_45 () rfl (by decide) (by decide)
  have hf := iq hc1_2 hf
  by_cases hc1_3 : p0 = 3
  · have hf := ip hc1_3 hf
    refine J_swI (tg := 46) hK dX7_fit_1 (by rw [hc1_3]; decide) (by rw [hc1_3]; decide) (by rw [hc1_3]; rfl) rfl ?_
    refine J_lload_n hK dX7_fit_46 rfl 1 rfl rfl ?_
    obtain rfl := Option.some.inj hf
    exact J_lret hK hR dX7_fit_47 () rfl (by decide) (by decide)
  have hf := iq hc1_3 hf
  refine J_swO (tg := 48) hK dX7_fit_1 (by have q0 : ¬ p0.toInt = 0 := fun h => hc1_0 (Int32.toInt_inj.mp (h.trans (by decide))); have q1 : ¬ p0.toInt = 1 := fun h => hc1_1 (Int32.toInt_inj.mp (h.trans (by decide))); have q2 : ¬ p0.toInt = 2 := fun h => hc1_2 (Int32.toInt_inj.mp (h.trans (by decide))); have q3 : ¬ p0.toInt = 3 := fun h => hc1_3 (Int32.toInt_inj.mp (h.trans (by decide))); omega) rfl ?_
  refine J_lload_n hK dX7_fit_48 rfl 1 rfl rfl ?_
  refine J_lconst (v := 0) hK dX7_fit_49 rfl (by decide) ?_
  refine J_lcmp hK dX7_fit_50 rfl ?_
  refine J_if_eq (tg := 58) hK dX7_fit_51 rfl rfl (fun hc51 => ?_) (fun hc51 => ?_)
  · have hf := ip hc51 hf
    refine J_lconst (v := 0) hK dX7_fit_58 rfl (by decide) ?_
    obtain rfl := Option.some.inj hf
    exact J_lret hK hR dX7_fit_59 () rfl (by decide) (by decide)
  · have hf := iq hc51 hf
    refine J_lconst (v := 1) hK dX7_fit_54 rfl (by decide) ?_
    refine J_goto hK dX7_fit_55 (n := 59) rfl ?_
    obtain rfl := Option.some.inj hf
    exact J_lret hK hR dX7_fit_59 () rfl (by decide) (by decide)

def fX7_set (X0 : MdT) (p1 : Int32) (p2 : Int32) (p3 : Int64) : Option (Int32 × (Nat → Nat → Int64) × (Nat → Int32)) :=
  u35 (fun (x0_shelf : (Nat → Int32)) (x0_rowSort : (Nat → Int32)) (x0_rowSize : (Nat → Int32)) (x0_rows : (Nat → Nat → Int64)) (x0_moved : (Nat → Int64)) (x0_shown : (Nat → Int32)) (x0_tape : (Nat → Int32)) (x0_tapeSize : Int32) (x0_refused : (Nat → Int32)) (x0_lines : Int32) (x0_line : (Nat → Nat → Int32)) (x0_changes : (Nat → Int32)) (x0_coins : (Nat → Int32)) (x0_goods : Int32) (x0_good : (Nat → Nat → Int32)) (x0_works : Int32) (x0_work : (Nat → Nat → Int32)) (x0_years : Int32) (x0_gone : Int32) (x0_spent : Int32) (x0_at : Int32) (x0_token : Int32) (x0_from : Int32) (x0_figures : Int64) (x0_fault : Int32) (x0_numbers : (Nat → Int32)) (x0_statements : Int32) (x0_left : (Nat → Int32)) (x0_far : (Nat → Int32)) (x0_tons : Int32) (x0_way : (Nat → Int32)) (x0_steps : Int32) (x0_met : Int64) (x0_queue : (Nat → Int32)) (x0_totals : (Nat → Int32)) => (fX7_in ((p1).toInt64) (0 : Int64) (7 : Int64)).bind (fun v1 => if v1 = 0 then ((fX7_refuse (x0_shelf, x0_rowSort, x0_rowSize, x0_rows, x0_moved, x0_shown, x0_tape, x0_tapeSize, x0_refused, x0_lines, x0_line, x0_changes, x0_coins, x0_goods, x0_good, x0_works, x0_work, x0_years, x0_gone, x0_spent, x0_at, x0_token, x0_from, x0_figures, x0_fault, x0_numbers, x0_statements, x0_left, x0_far, x0_tons, x0_way, x0_steps, x0_met, x0_queue, x0_totals) (-2)).bind (u2 fun v22 g23 => some (v22, x0_rows, g23))) else ((rd 8 x0_shelf p1).bind fun v3 => if v3 = 2 then ((fX7_refuse (x0_shelf, x0_rowSort, x0_rowSize, x0_rows, x0_moved, x0_shown, x0_tape, x0_tapeSize, x0_refused, x0_lines, x0_line, x0_changes, x0_coins, x0_goods, x0_good, x0_works, x0_work, x0_years, x0_gone, x0_spent, x0_at, x0_token, x0_from, x0_figures, x0_fault, x0_numbers, x0_statements, x0_left, x0_far, x0_tons, x0_way, x0_steps, x0_met, x0_queue, x0_totals) (-3)).bind (u2 fun v19 g20 => some (v19, x0_rows, g20))) else ((rd 8 x0_shelf p1).bind fun v4 => if v4 = 0 then ((fX7_refuse (x0_shelf, x0_rowSort, x0_rowSize, x0_rows, x0_moved, x0_shown, x0_tape, x0_tapeSize, x0_refused, x0_lines, x0_line, x0_changes, x0_coins, x0_goods, x0_good, x0_works, x0_work, x0_years, x0_gone, x0_spent, x0_at, x0_token, x0_from, x0_figures, x0_fault, x0_numbers, x0_statements, x0_left, x0_far, x0_tons, x0_way, x0_steps, x0_met, x0_queue, x0_totals) (-4)).bind (u2 fun v16 g17 => some (v16, x0_rows, g17))) else ((rd 8 x0_rowSize p1).bind fun v5 => (fX7_in ((p2).toInt64) (0 : Int64) (((v5 - 1)).toInt64)).bind (fun v6 => if v6 = 0 then ((fX7_refuse (x0_shelf, x0_rowSort, x0_rowSize, x0_rows, x0_moved, x0_shown, x0_tape, x0_tapeSize, x0_refused, x0_lines, x0_line, x0_changes, x0_coins, x0_goods, x0_good, x0_works, x0_work, x0_years, x0_gone, x0_spent, x0_at, x0_token, x0_from, x0_figures, x0_fault, x0_numbers, x0_statements, x0_left, x0_far, x0_tons, x0_way, x0_steps, x0_met, x0_queue, x0_totals) (-2)).bind (u2 fun v13 g14 => some (v13, x0_rows, g14))) else ((ck p1 8).bind fun q8 => (rd 8 x0_rowSort p1).bind fun v9 => (fX7_fit v9 p3).bind (fun v10 => (wr 40 (x0_rows q8) p2 v10).bind fun f12 => some (1, (va_up x0_rows q8 f12), x0_refused))))))))) X0
set_option maxHeartbeats 4000000 in
set_option maxRecDepth 100000 in
theorem kX7_set (l : Launch) (d : DT) (h0 : Nat → Nat) (r0_rows : Nat → Nat) (r0_line : Nat → Nat) (r0_good : Nat → Nat) (r0_work : Nat → Nat) (a0_kept : Option Nat) (a0_tried : Option Nat) (a0_chosen : Option Nat) (x0_shelf : (Nat → Int32)) (x0_rowSort : (Nat → Int32)) (x0_rowSize : (Nat → Int32)) (x0_rows : (Nat → Nat → Int64)) (x0_moved : (Nat → Int64)) (x0_shown : (Nat → Int32)) (x0_tape : (Nat → Int32)) (x0_tapeSize : Int32) (x0_refused : (Nat → Int32)) (x0_lines : Int32) (x0_line : (Nat → Nat → Int32)) (x0_changes : (Nat → Int32)) (x0_coins : (Nat → Int32)) (x0_goods : Int32) (x0_good : (Nat → Nat → Int32)) (x0_works : Int32) (x0_work : (Nat → Nat → Int32)) (x0_years : Int32) (x0_gone : Int32) (x0_spent : Int32) (x0_at : Int32) (x0_token : Int32) (x0_from : Int32) (x0_figures : Int64) (x0_fault : Int32) (x0_numbers : (Nat → Int32)) (x0_statements : Int32) (x0_left : (Nat → Int32)) (x0_far : (Nat → Int32)) (x0_tons : Int32) (x0_way : (Nat → Int32)) (x0_steps : Int32) (x0_met : Int64) (x0_queue : (Nat → Int32)) (x0_totals : (Nat → Int32)) (p1 : Int32) (p2 : Int32) (p3 : Int64)  {out : Int32 × (Nat → Nat → Int64) × (Nat → Int32)} (hf : fX7_set (x0_shelf, x0_rowSort, x0_rowSize, x0_rows, x0_moved, x0_shown, x0_tape, x0_tapeSize, x0_refused, x0_lines, x0_line, x0_changes, x0_coins, x0_goods, x0_good, x0_works, x0_work, x0_years, x0_gone, x0_spent, x0_at, x0_token, x0_from, x0_figures, x0_fault, x0_numbers, x0_statements, x0_left, x0_far, x0_tons, x0_way, x0_steps, x0_met, x0_queue, x0_totals) p1 p2 p3 = some out) : Ct l d yX7_set cX7_set 5 (some .int) { frames := 1, cells := 0, slots := 0, locals := 25 } [.ref (h0 0), .int p1, .int p2, .long p3] [gMd d h0 a0_kept a0_tried a0_chosen r0_rows r0_line r0_good r0_work x0_shelf x0_rowSort x0_rowSize x0_moved x0_shown x0_tape x0_tapeSize x0_refused x0_lines x0_changes x0_coins x0_goods x0_works x0_years x0_gone x0_spent x0_at x0_token x0_from x0_figures x0_fault x0_numbers x0_statements x0_left x0_far x0_tons x0_way x0_steps x0_met x0_queue x0_totals, gridJ d r0_rows 8 40 x0_rows] (fun _ : Unit => (some (.int out.1), [gMd d h0 a0_kept a0_tried a0_chosen r0_rows r0_line r0_good r0_work x0_shelf x0_rowSort x0_rowSize x0_moved x0_shown x0_tape x0_tapeSize (out.2.2) x0_lines x0_changes x0_coins x0_goods x0_works x0_years x0_gone x0_spent x0_at x0_token x0_from x0_figures x0_fault x0_numbers x0_statements x0_left x0_far x0_tons x0_way x0_steps x0_met x0_queue x0_totals, gridJ d r0_rows 8 40 (out.2.1)])) := by
  refine Ct.of (by decide) (Nat.le_of_ble_eq_true rfl) ?_
  intro Φ hl hK hR
  subst hl
  have hK : Ok d Φ RX7 "set" cX7_set 5 (some .int) { frames := 1, cells := 0, slots := 0, locals := 25 } := hK
  unfold fX7_set at hf
  have hf := un35 hf
  show J d Φ 5 [gMd d h0 a0_kept a0_tried a0_chosen r0_rows r0_line r0_good r0_work x0_shelf x0_rowSort x0_rowSize x0_moved x0_shown x0_tape x0_tapeSize x0_refused x0_lines x0_changes x0_coins x0_goods x0_works x0_years x0_gone x0_spent x0_at x0_token x0_from x0_figures x0_fault x0_numbers x0_statements x0_left x0_far x0_tons x0_way x0_steps x0_met x0_queue x0_totals, gridJ d r0_rows 8 40 x0_rows] 0 0 0 [(0, .ref (h0 0)), (1, .int p1), (2, .int p2), (3, .long p3)] []
  refine J_iload_n hK dX7_set_0 rfl 1 rfl rfl ?_
  refine J_i2l hK dX7_set_1 rfl ?_
  refine J_lconst (v := 0) hK dX7_set_2 rfl (by decide) ?_
  refine J_ldc2 (v := (7 : Int64)) hK dX7_set_3 rfl wk_RX7_88 ?_
  obtain ⟨v1, e2, hf⟩ := bs hf
  refine J_callS (m' := 2) (ce' := 0) (sl' := 0) (gr := [gMd d h0 a0_kept a0_tried a0_chosen r0_rows r0_line r0_good r0_work x0_shelf x0_rowSort x0_rowSize x0_moved x0_shown x0_tape x0_tapeSize x0_refused x0_lines x0_changes x0_coins x0_goods x0_works x0_years x0_gone x0_spent x0_at x0_token x0_from x0_figures x0_fault x0_numbers x0_statements x0_left x0_far x0_tons x0_way x0_steps x0_met x0_queue x0_totals, gridJ d r0_rows 8 40 x0_rows]) (gs' := fun _ => [gMd d h0 a0_kept a0_tried a0_chosen r0_rows r0_line r0_good r0_work x0_shelf x0_rowSort x0_rowSize x0_moved x0_shown x0_tape x0_tapeSize x0_refused x0_lines x0_changes x0_coins x0_goods x0_works x0_years x0_gone x0_spent x0_at x0_token x0_from x0_figures x0_fault x0_numbers x0_statements x0_left x0_far x0_tons x0_way x0_steps x0_met x0_queue x0_totals, gridJ d r0_rows 8 40 x0_rows]) (st' := fun _ => [.int v1]) (st := []) hK dX7_set_6 cv_RX7_78 ws_yX7_in (As := [.long ((p1).toInt64), .long (0 : Int64), .long (7 : Int64)]) (kX7_in _ d ((p1).toInt64) (0 : Int64) (7 : Int64) e2) rfl rfl (Nat.le_of_ble_eq_true rfl) (by decide) [] [0, 1] rfl rfl rfl rfl [0, 1] rfl (fun _ => rfl) (fun _ => rfl) rfl rfl rfl (fun _ => rfl) (fun _ => ?_)
  refine J_if_ne (tg := 19) hK dX7_set_9 rfl rfl (fun hc9 => ?_) (fun hc9 => ?_)
  · have hf := iq hc9 hf
    refine J_aload_n hK dX7_set_19 rfl 0 rfl rfl ?_
    refine J_get hK fo_RX7_7 dX7_set_20 rfl 0 0 rfl rfl rfl ?_
    refine J_iload_n hK dX7_set_23 rfl 1 rfl rfl ?_
    obtain ⟨v3, ev3, hf⟩ := bs hf
    refine J_iald hK dX7_set_24 rfl 0 1 rfl rfl ev3 ?_
    refine J_iconst (v := 2) hK dX7_set_25 rfl (by decide) ?_
    refine J_icmp_ne (tg := 36) hK dX7_set_26 rfl rfl (fun hc26 => ?_) (fun hc26 => ?_)
    · have hf := iq hc26 hf
      refine J_aload_n hK dX7_set_36 rfl 0 rfl rfl ?_
      refine J_get hK fo_RX7_7 dX7_set_37 rfl 0 0 rfl rfl rfl ?_
      refine J_iload_n hK dX7_set_40 rfl 1 rfl rfl ?_
      obtain ⟨v4, ev4, hf⟩ := bs hf
      refine J_iald hK dX7_set_41 rfl 0 1 rfl rfl ev4 ?_
      refine J_if_ne (tg := 52) hK dX7_set_42 rfl rfl (fun hc42 => ?_) (fun hc42 => ?_)
      · have hf := iq hc42 hf
        refine J_iload_n hK dX7_set_52 rfl 2 rfl rfl ?_
        refine J_i2l hK dX7_set_53 rfl ?_
        refine J_lconst (v := 0) hK dX7_set_54 rfl (by decide) ?_
        refine J_aload_n hK dX7_set_55 rfl 0 rfl rfl ?_
        refine J_get hK fo_RX7_16 dX7_set_56 rfl 0 0 rfl rfl rfl ?_
        refine J_iload_n hK dX7_set_59 rfl 1 rfl rfl ?_
        obtain ⟨v5, ev5, hf⟩ := bs hf
        refine J_iald hK dX7_set_60 rfl 0 3 rfl rfl ev5 ?_
        refine J_iconst (v := 1) hK dX7_set_61 rfl (by decide) ?_
        refine J_isub hK dX7_set_62 rfl ?_
        refine J_i2l hK dX7_set_63 rfl ?_
        obtain ⟨v6, e7, hf⟩ := bs hf
        refine J_callS (m' := 2) (ce' := 0) (sl' := 0) (gr := [gMd d h0 a0_kept a0_tried a0_chosen r0_rows r0_line r0_good r0_work x0_shelf x0_rowSort x0_rowSize x0_moved x0_shown x0_tape x0_tapeSize x0_refused x0_lines x0_changes x0_coins x0_goods x0_works x0_years x0_gone x0_spent x0_at x0_token x0_from x0_figures x0_fault x0_numbers x0_statements x0_left x0_far x0_tons x0_way x0_steps x0_met x0_queue x0_totals, gridJ d r0_rows 8 40 x0_rows]) (gs' := fun _ => [gMd d h0 a0_kept a0_tried a0_chosen r0_rows r0_line r0_good r0_work x0_shelf x0_rowSort x0_rowSize x0_moved x0_shown x0_tape x0_tapeSize x0_refused x0_lines x0_changes x0_coins x0_goods x0_works x0_years x0_gone x0_spent x0_at x0_token x0_from x0_figures x0_fault x0_numbers x0_statements x0_left x0_far x0_tons x0_way x0_steps x0_met x0_queue x0_totals, gridJ d r0_rows 8 40 x0_rows]) (st' := fun _ => [.int v6]) (st := []) hK dX7_set_64 cv_RX7_78 ws_yX7_in (As := [.long ((p2).toInt64), .long (0 : Int64), .long (((v5 - 1)).toInt64)]) (kX7_in _ d ((p2).toInt64) (0 : Int64) (((v5 - 1)).toInt64) e7) rfl rfl (Nat.le_of_ble_eq_true rfl) (by decide) [] [0, 1] rfl rfl rfl rfl [0, 1] rfl (fun _ => rfl) (fun _ => rfl) rfl rfl rfl (fun _ => rfl) (fun _ => ?_)
        refine J_if_ne (tg := 77) hK dX7_set_67 rfl rfl (fun hc67 => ?_) (fun hc67 => ?_)
        · have hf := iq hc67 hf
          refine J_aload_n hK dX7_set_77 rfl 0 rfl rfl ?_
          refine J_get hK fo_RX7_21 dX7_set_78 rfl 0 0 rfl rfl rfl ?_
          refine J_iload_n hK dX7_set_81 rfl 1 rfl rfl ?_
          obtain ⟨q8, eq8, hf⟩ := bs hf
          refine J_aald hK dX7_set_82 rfl 0 4 rfl rfl rfl eq8 ?_
          refine J_iload_n hK dX7_set_83 rfl 2 rfl rfl ?_
          refine J_aload_n hK dX7_set_84 rfl 0 rfl rfl ?_
          refine J_get hK fo_RX7_13 dX7_set_85 rfl 0 0 rfl rfl rfl ?_
          refine J_iload_n hK dX7_set_88 rfl 1 rfl rfl ?_
          obtain ⟨v9, ev9, hf⟩ := bs hf
          refine J_iald hK dX7_set_89 rfl 0 2 rfl rfl ev9 ?_
          refine J_lload_n hK dX7_set_90 rfl 3 rfl rfl ?_
          obtain ⟨v10, e11, hf⟩ := bs hf
          refine J_callS (m' := 2) (ce' := 0) (sl' := 0) (gr := [gMd d h0 a0_kept a0_tried a0_chosen r0_rows r0_line r0_good r0_work x0_shelf x0_rowSort x0_rowSize x0_moved x0_shown x0_tape x0_tapeSize x0_refused x0_lines x0_changes x0_coins x0_goods x0_works x0_years x0_gone x0_spent x0_at x0_token x0_from x0_figures x0_fault x0_numbers x0_statements x0_left x0_far x0_tons x0_way x0_steps x0_met x0_queue x0_totals, gridJ d r0_rows 8 40 x0_rows]) (gs' := fun _ => [gMd d h0 a0_kept a0_tried a0_chosen r0_rows r0_line r0_good r0_work x0_shelf x0_rowSort x0_rowSize x0_moved x0_shown x0_tape x0_tapeSize x0_refused x0_lines x0_changes x0_coins x0_goods x0_works x0_years x0_gone x0_spent x0_at x0_token x0_from x0_figures x0_fault x0_numbers x0_statements x0_left x0_far x0_tons x0_way x0_steps x0_met x0_queue x0_totals, gridJ d r0_rows 8 40 x0_rows]) (st' := fun _ => [.long v10, .int p2, .ref (r0_rows q8)]) (st := [.int p2, .ref (r0_rows q8)]) hK dX7_set_91 cv_RX7_98 ws_yX7_fit (As := [.int v9, .long p3]) (kX7_fit _ d v9 p3 e11) rfl rfl (Nat.le_of_ble_eq_true rfl) (by decide) [] [0, 1] rfl rfl rfl rfl [0, 1] rfl (fun _ => rfl) (fun _ => rfl) rfl rfl rfl (fun _ => rfl) (fun _ => ?_)
          obtain ⟨f12, ef12, hf⟩ := bs hf
          refine J_last (g' := gridJ d r0_rows 8 40 (va_up x0_rows q8 f12)) (gs' := [gMd d h0 a0_kept a0_tried a0_chosen r0_rows r0_line r0_good r0_work x0_shelf x0_rowSort x0_rowSize x0_moved x0_shown x0_tape x0_tapeSize x0_refused x0_lines x0_changes x0_coins x0_goods x0_works x0_years x0_gone x0_spent x0_at x0_token x0_from x0_figures x0_fault x0_numbers x0_statements x0_left x0_far x0_tons x0_way x0_steps x0_met x0_queue x0_totals, gridJ d r0_rows 8 40 (va_up x0_rows q8 f12)]) hK dX7_set_94 rfl 1 q8 rfl (gridJ_at (ck_ok eq8).2.2) ef12 gridJ_set rfl ?_
          refine J_iconst (v := 1) hK dX7_set_95 rfl (by decide) ?_
          obtain rfl := Option.some.inj hf
          exact J_iret hK hR dX7_set_96 () rfl (by decide) (by decide)
        · have hf := ip hc67 hf
          refine J_aload_n hK dX7_set_70 rfl 0 rfl rfl ?_
          refine J_bipush (v := (-2)) hK dX7_set_71 rfl (by decide) ?_
          obtain ⟨⟨v13, g14⟩, e15, hf⟩ := bs hf
          have hf := un2 hf
          refine J_callV (m' := 2) (ce' := 0) (sl' := 0) (gr := [gridJ d r0_rows 8 40 x0_rows]) (gs' := fun _ => [gMd d h0 a0_kept a0_tried a0_chosen r0_rows r0_line r0_good r0_work x0_shelf x0_rowSort x0_rowSize x0_moved x0_shown x0_tape x0_tapeSize g14 x0_lines x0_changes x0_coins x0_goods x0_works x0_years x0_gone x0_spent x0_at x0_token x0_from x0_figures x0_fault x0_numbers x0_statements x0_left x0_far x0_tons x0_way x0_steps x0_met x0_queue x0_totals, gridJ d r0_rows 8 40 x0_rows]) (st' := fun _ => [.int v13]) (st := []) hK dX7_set_73 cv_RX7_94 iv_yX7_refuse (As := [.int (-2)]) (kX7_refuse _ d h0 r0_rows r0_line r0_good r0_work a0_kept a0_tried a0_chosen x0_shelf x0_rowSort x0_rowSize x0_rows x0_moved x0_shown x0_tape x0_tapeSize x0_refused x0_lines x0_line x0_changes x0_coins x0_goods x0_good x0_works x0_work x0_years x0_gone x0_spent x0_at x0_token x0_from x0_figures x0_fault x0_numbers x0_statements x0_left x0_far x0_tons x0_way x0_steps x0_met x0_queue x0_totals (-2) e15) rfl rfl (Nat.le_of_ble_eq_true rfl) (by decide) 0 0 rfl rfl rfl [0] [1] rfl rfl rfl rfl [1, 0] rfl (fun _ => rfl) (fun _ => rfl) rfl rfl rfl (fun _ => rfl) (fun _ => ?_)
          obtain rfl := Option.some.inj hf
          exact J_iret hK hR dX7_set_76 () rfl (by decide) (by decide)
      · have hf := ip hc42 hf
        refine J_aload_n hK dX7_set_45 rfl 0 rfl rfl ?_
        refine J_bipush (v := (-4)) hK dX7_set_46 rfl (by decide) ?_
        obtain ⟨⟨v16, g17⟩, e18, hf⟩ := bs hf
        have hf := un2 hf
        refine J_callV (m' := 2) (ce' := 0) (sl' := 0) (gr := [gridJ d r0_rows 8 40 x0_rows]) (gs' := fun _ => [gMd d h0 a0_kept a0_tried a0_chosen r0_rows r0_line r0_good r0_work x0_shelf x0_rowSort x0_rowSize x0_moved x0_shown x0_tape x0_tapeSize g17 x0_lines x0_changes x0_coins x0_goods x0_works x0_years x0_gone x0_spent x0_at x0_token x0_from x0_figures x0_fault x0_numbers x0_statements x0_left x0_far x0_tons x0_way x0_steps x0_met x0_queue x0_totals, gridJ d r0_rows 8 40 x0_rows]) (st' := fun _ => [.int v16]) (st := []) hK dX7_set_48 cv_RX7_94 iv_yX7_refuse (As := [.int (-4)]) (kX7_refuse _ d h0 r0_rows r0_line r0_good r0_work a0_kept a0_tried a0_chosen x0_shelf x0_rowSort x0_rowSize x0_rows x0_moved x0_shown x0_tape x0_tapeSize x0_refused x0_lines x0_line x0_changes x0_coins x0_goods x0_good x0_works x0_work x0_years x0_gone x0_spent x0_at x0_token x0_from x0_figures x0_fault x0_numbers x0_statements x0_left x0_far x0_tons x0_way x0_steps x0_met x0_queue x0_totals (-4) e18) rfl rfl (Nat.le_of_ble_eq_true rfl) (by decide) 0 0 rfl rfl rfl [0] [1] rfl rfl rfl rfl [1, 0] rfl (fun _ => rfl) (fun _ => rfl) rfl rfl rfl (fun _ => rfl) (fun _ => ?_)
        obtain rfl := Option.some.inj hf
        exact J_iret hK hR dX7_set_51 () rfl (by decide) (by decide)
    · have hf := ip hc26 hf
      refine J_aload_n hK dX7_set_29 rfl 0 rfl rfl ?_
      refine J_bipush (v := (-3)) hK dX7_set_30 rfl (by decide) ?_
      obtain ⟨⟨v19, g20⟩, e21, hf⟩ := bs hf
      have hf := un2 hf
      refine J_callV (m' := 2) (ce' := 0) (sl' := 0) (gr := [gridJ d r0_rows 8 40 x0_rows]) (gs' := fun _ => [gMd d h0 a0_kept a0_tried a0_chosen r0_rows r0_line r0_good r0_work x0_shelf x0_rowSort x0_rowSize x0_moved x0_shown x0_tape x0_tapeSize g20 x0_lines x0_changes x0_coins x0_goods x0_works x0_years x0_gone x0_spent x0_at x0_token x0_from x0_figures x0_fault x0_numbers x0_statements x0_left x0_far x0_tons x0_way x0_steps x0_met x0_queue x0_totals, gridJ d r0_rows 8 40 x0_rows]) (st' := fun _ => [.int v19]) (st := []) hK dX7_set_32 cv_RX7_94 iv_yX7_refuse (As := [.int (-3)]) (kX7_refuse _ d h0 r0_rows r0_line r0_good r0_work a0_kept a0_tried a0_chosen x0_shelf x0_rowSort x0_rowSize x0_rows x0_moved x0_shown x0_tape x0_tapeSize x0_refused x0_lines x0_line x0_changes x0_coins x0_goods x0_good x0_works x0_work x0_years x0_gone x0_spent x0_at x0_token x0_from x0_figures x0_fault x0_numbers x0_statements x0_left x0_far x0_tons x0_way x0_steps x0_met x0_queue x0_totals (-3) e21) rfl rfl (Nat.le_of_ble_eq_true rfl) (by decide) 0 0 rfl rfl rfl [0] [1] rfl rfl rfl rfl [1, 0] rfl (fun _ => rfl) (fun _ => rfl) rfl rfl rfl (fun _ => rfl) (fun _ => ?_)
      obtain rfl := Option.some.inj hf
      exact J_iret hK hR dX7_set_35 () rfl (by decide) (by decide)
  · have hf := ip hc9 hf
    refine J_aload_n hK dX7_set_12 rfl 0 rfl rfl ?_
    refine J_bipush (v := (-2)) hK dX7_set_13 rfl (by decide) ?_
    obtain ⟨⟨v22, g23⟩, e24, hf⟩ := bs hf
    have hf := un2 hf
    refine J_callV (m' := 2) (ce' := 0) (sl' := 0) (gr := [gridJ d r0_rows 8 40 x0_rows]) (gs' := fun _ => [gMd d h0 a0_kept a0_tried a0_chosen r0_rows r0_line r0_good r0_work x0_shelf x0_rowSort x0_rowSize x0_moved x0_shown x0_tape x0_tapeSize g23 x0_lines x0_changes x0_coins x0_goods x0_works x0_years x0_gone x0_spent x0_at x0_token x0_from x0_figures x0_fault x0_numbers x0_statements x0_left x0_far x0_tons x0_way x0_steps x0_met x0_queue x0_totals, gridJ d r0_rows 8 40 x0_rows]) (st' := fun _ => [.int v22]) (st := []) hK dX7_set_15 cv_RX7_94 iv_yX7_refuse (As := [.int (-2)]) (kX7_refuse _ d h0 r0_rows r0_line r0_good r0_work a0_kept a0_tried a0_chosen x0_shelf x0_rowSort x0_rowSize x0_rows x0_moved x0_shown x0_tape x0_tapeSize x0_refused x0_lines x0_line x0_changes x0_coins x0_goods x0_good x0_works x0_work x0_years x0_gone x0_spent x0_at x0_token x0_from x0_figures x0_fault x0_numbers x0_statements x0_left x0_far x0_tons x0_way x0_steps x0_met x0_queue x0_totals (-2) e24) rfl rfl (Nat.le_of_ble_eq_true rfl) (by decide) 0 0 rfl rfl rfl [0] [1] rfl rfl rfl rfl [1, 0] rfl (fun _ => rfl) (fun _ => rfl) rfl rfl rfl (fun _ => rfl) (fun _ => ?_)
    obtain rfl := Option.some.inj hf
    exact J_iret hK hR dX7_set_18 () rfl (by decide) (by decide)

def fX7_copy_s225 (p2 : Int32) (p4 : Int32) (p5 : Int32) (w48 : (Nat → Int64)) (z50 : Int32) (z51 : (Nat → Nat → Int64)) : Option ((Int32 × (Nat → Nat → Int64)) ⊕ ((Nat → Nat → Int64))) :=
  if p5 ≤ z50 then (some (.inr z51)) else ((ck p2 8).bind fun q54 => (rd 40 w48 z50).bind fun v55 => (wr 40 (z51 q54) (p4 + z50) v55).bind fun f56 => some (.inl ((z50 + 1), (va_up z51 q54 f56))))
def fX7_copy_s191 (p1 : Int32) (p3 : Int32) (p5 : Int32) (x0_rows : (Nat → Nat → Int64)) (z45 : Int32) (z46 : (Nat → Int64)) : Option ((Int32 × (Nat → Int64)) ⊕ ((Nat → Int64))) :=
  if p5 ≤ z45 then (some (.inr z46)) else ((ck p1 8).bind fun q57 => (rd 40 (x0_rows q57) (p3 + z45)).bind fun v58 => (wr 40 z46 z45 v58).bind fun f59 => some (.inl ((z45 + 1), f59)))
def fX7_copy_j93 (n : Nat) (p1 : Int32) (p2 : Int32) (p3 : Int32) (p4 : Int32) (p5 : Int32) (x0_shelf : (Nat → Int32)) (x0_rowSort : (Nat → Int32)) (x0_rowSize : (Nat → Int32)) (x0_rows : (Nat → Nat → Int64)) (x0_moved : (Nat → Int64)) (x0_shown : (Nat → Int32)) (x0_tape : (Nat → Int32)) (x0_tapeSize : Int32) (x0_refused : (Nat → Int32)) (x0_lines : Int32) (x0_line : (Nat → Nat → Int32)) (x0_changes : (Nat → Int32)) (x0_coins : (Nat → Int32)) (x0_goods : Int32) (x0_good : (Nat → Nat → Int32)) (x0_works : Int32) (x0_work : (Nat → Nat → Int32)) (x0_years : Int32) (x0_gone : Int32) (x0_spent : Int32) (x0_at : Int32) (x0_token : Int32) (x0_from : Int32) (x0_figures : Int64) (x0_fault : Int32) (x0_numbers : (Nat → Int32)) (x0_statements : Int32) (x0_left : (Nat → Int32)) (x0_far : (Nat → Int32)) (x0_tons : Int32) (x0_way : (Nat → Int32)) (x0_steps : Int32) (x0_met : Int64) (x0_queue : (Nat → Int32)) (x0_totals : (Nat → Int32)) : Option (Int32 × (Nat → Nat → Int64) × (Nat → Int64) × (Nat → Int32)) :=
  (rd 8 x0_shelf p1).bind fun v17 => if v17 = 0 then ((fX7_refuse (x0_shelf, x0_rowSort, x0_rowSize, x0_rows, x0_moved, x0_shown, x0_tape, x0_tapeSize, x0_refused, x0_lines, x0_line, x0_changes, x0_coins, x0_goods, x0_good, x0_works, x0_work, x0_years, x0_gone, x0_spent, x0_at, x0_token, x0_from, x0_figures, x0_fault, x0_numbers, x0_statements, x0_left, x0_far, x0_tons, x0_way, x0_steps, x0_met, x0_queue, x0_totals) (-4)).bind (u2 fun v18 g19 => some (v18, x0_rows, x0_moved, g19))) else ((rd 8 x0_shelf p2).bind fun v21 => if v21 = 0 then ((fX7_refuse (x0_shelf, x0_rowSort, x0_rowSize, x0_rows, x0_moved, x0_shown, x0_tape, x0_tapeSize, x0_refused, x0_lines, x0_line, x0_changes, x0_coins, x0_goods, x0_good, x0_works, x0_work, x0_years, x0_gone, x0_spent, x0_at, x0_token, x0_from, x0_figures, x0_fault, x0_numbers, x0_statements, x0_left, x0_far, x0_tons, x0_way, x0_steps, x0_met, x0_queue, x0_totals) (-4)).bind (u2 fun v63 g64 => some (v63, x0_rows, x0_moved, g64))) else (if p5 < 0 then ((fX7_refuse (x0_shelf, x0_rowSort, x0_rowSize, x0_rows, x0_moved, x0_shown, x0_tape, x0_tapeSize, x0_refused, x0_lines, x0_line, x0_changes, x0_coins, x0_goods, x0_good, x0_works, x0_work, x0_years, x0_gone, x0_spent, x0_at, x0_token, x0_from, x0_figures, x0_fault, x0_numbers, x0_statements, x0_left, x0_far, x0_tons, x0_way, x0_steps, x0_met, x0_queue, x0_totals) (-2)).bind (u2 fun v22 g23 => some (v22, x0_rows, x0_moved, g23))) else (if p3 < 0 then ((fX7_refuse (x0_shelf, x0_rowSort, x0_rowSize, x0_rows, x0_moved, x0_shown, x0_tape, x0_tapeSize, x0_refused, x0_lines, x0_line, x0_changes, x0_coins, x0_goods, x0_good, x0_works, x0_work, x0_years, x0_gone, x0_spent, x0_at, x0_token, x0_from, x0_figures, x0_fault, x0_numbers, x0_statements, x0_left, x0_far, x0_tons, x0_way, x0_steps, x0_met, x0_queue, x0_totals) (-2)).bind (u2 fun v25 g26 => some (v25, x0_rows, x0_moved, g26))) else (if p4 < 0 then ((fX7_refuse (x0_shelf, x0_rowSort, x0_rowSize, x0_rows, x0_moved, x0_shown, x0_tape, x0_tapeSize, x0_refused, x0_lines, x0_line, x0_changes, x0_coins, x0_goods, x0_good, x0_works, x0_work, x0_years, x0_gone, x0_spent, x0_at, x0_token, x0_from, x0_figures, x0_fault, x0_numbers, x0_statements, x0_left, x0_far, x0_tons, x0_way, x0_steps, x0_met, x0_queue, x0_totals) (-2)).bind (u2 fun v28 g29 => some (v28, x0_rows, x0_moved, g29))) else ((rd 8 x0_rowSize p1).bind fun v31 => if v31 < p5 then ((fX7_refuse (x0_shelf, x0_rowSort, x0_rowSize, x0_rows, x0_moved, x0_shown, x0_tape, x0_tapeSize, x0_refused, x0_lines, x0_line, x0_changes, x0_coins, x0_goods, x0_good, x0_works, x0_work, x0_years, x0_gone, x0_spent, x0_at, x0_token, x0_from, x0_figures, x0_fault, x0_numbers, x0_statements, x0_left, x0_far, x0_tons, x0_way, x0_steps, x0_met, x0_queue, x0_totals) (-2)).bind (u2 fun v32 g33 => some (v32, x0_rows, x0_moved, g33))) else ((rd 8 x0_rowSize p2).bind fun v35 => if v35 < p5 then ((fX7_refuse (x0_shelf, x0_rowSort, x0_rowSize, x0_rows, x0_moved, x0_shown, x0_tape, x0_tapeSize, x0_refused, x0_lines, x0_line, x0_changes, x0_coins, x0_goods, x0_good, x0_works, x0_work, x0_years, x0_gone, x0_spent, x0_at, x0_token, x0_from, x0_figures, x0_fault, x0_numbers, x0_statements, x0_left, x0_far, x0_tons, x0_way, x0_steps, x0_met, x0_queue, x0_totals) (-2)).bind (u2 fun v36 g37 => some (v36, x0_rows, x0_moved, g37))) else ((rd 8 x0_rowSize p1).bind fun v39 => if (v39 - p5) < p3 then ((fX7_refuse (x0_shelf, x0_rowSort, x0_rowSize, x0_rows, x0_moved, x0_shown, x0_tape, x0_tapeSize, x0_refused, x0_lines, x0_line, x0_changes, x0_coins, x0_goods, x0_good, x0_works, x0_work, x0_years, x0_gone, x0_spent, x0_at, x0_token, x0_from, x0_figures, x0_fault, x0_numbers, x0_statements, x0_left, x0_far, x0_tons, x0_way, x0_steps, x0_met, x0_queue, x0_totals) (-2)).bind (u2 fun v40 g41 => some (v40, x0_rows, x0_moved, g41))) else ((rd 8 x0_rowSize p2).bind fun v43 => if p4 ≤ (v43 - p5) then ((lp (u2 (fX7_copy_s191 p1 p3 p5 x0_rows)) n (0, x0_moved)).bind (fun w48 => (lp (u2 (fX7_copy_s225 p2 p4 p5 w48)) n (0, x0_rows)).bind (fun w53 => some (p5, w53, w48, x0_refused)))) else ((fX7_refuse (x0_shelf, x0_rowSort, x0_rowSize, x0_rows, x0_moved, x0_shown, x0_tape, x0_tapeSize, x0_refused, x0_lines, x0_line, x0_changes, x0_coins, x0_goods, x0_good, x0_works, x0_work, x0_years, x0_gone, x0_spent, x0_at, x0_token, x0_from, x0_figures, x0_fault, x0_numbers, x0_statements, x0_left, x0_far, x0_tons, x0_way, x0_steps, x0_met, x0_queue, x0_totals) (-2)).bind (u2 fun v60 g61 => some (v60, x0_rows, x0_moved, g61)))))))))))
def fX7_copy (n : Nat) (X0 : MdT) (p1 : Int32) (p2 : Int32) (p3 : Int32) (p4 : Int32) (p5 : Int32) : Option (Int32 × (Nat → Nat → Int64) × (Nat → Int64) × (Nat → Int32)) :=
  u35 (fun (x0_shelf : (Nat → Int32)) (x0_rowSort : (Nat → Int32)) (x0_rowSize : (Nat → Int32)) (x0_rows : (Nat → Nat → Int64)) (x0_moved : (Nat → Int64)) (x0_shown : (Nat → Int32)) (x0_tape : (Nat → Int32)) (x0_tapeSize : Int32) (x0_refused : (Nat → Int32)) (x0_lines : Int32) (x0_line : (Nat → Nat → Int32)) (x0_changes : (Nat → Int32)) (x0_coins : (Nat → Int32)) (x0_goods : Int32) (x0_good : (Nat → Nat → Int32)) (x0_works : Int32) (x0_work : (Nat → Nat → Int32)) (x0_years : Int32) (x0_gone : Int32) (x0_spent : Int32) (x0_at : Int32) (x0_token : Int32) (x0_from : Int32) (x0_figures : Int64) (x0_fault : Int32) (x0_numbers : (Nat → Int32)) (x0_statements : Int32) (x0_left : (Nat → Int32)) (x0_far : (Nat → Int32)) (x0_tons : Int32) (x0_way : (Nat → Int32)) (x0_steps : Int32) (x0_met : Int64) (x0_queue : (Nat → Int32)) (x0_totals : (Nat → Int32)) => (fX7_in ((p1).toInt64) (0 : Int64) (7 : Int64)).bind (fun v1 => if v1 = 0 then ((fX7_refuse (x0_shelf, x0_rowSort, x0_rowSize, x0_rows, x0_moved, x0_shown, x0_tape, x0_tapeSize, x0_refused, x0_lines, x0_line, x0_changes, x0_coins, x0_goods, x0_good, x0_works, x0_work, x0_years, x0_gone, x0_spent, x0_at, x0_token, x0_from, x0_figures, x0_fault, x0_numbers, x0_statements, x0_left, x0_far, x0_tons, x0_way, x0_steps, x0_met, x0_queue, x0_totals) (-2)).bind (u2 fun v3 g4 => some (v3, x0_rows, x0_moved, g4))) else ((fX7_in ((p2).toInt64) (0 : Int64) (7 : Int64)).bind (fun v6 => if v6 = 0 then ((fX7_refuse (x0_shelf, x0_rowSort, x0_rowSize, x0_rows, x0_moved, x0_shown, x0_tape, x0_tapeSize, x0_refused, x0_lines, x0_line, x0_changes, x0_coins, x0_goods, x0_good, x0_works, x0_work, x0_years, x0_gone, x0_spent, x0_at, x0_token, x0_from, x0_figures, x0_fault, x0_numbers, x0_statements, x0_left, x0_far, x0_tons, x0_way, x0_steps, x0_met, x0_queue, x0_totals) (-2)).bind (u2 fun v72 g73 => some (v72, x0_rows, x0_moved, g73))) else ((rd 8 x0_shelf p1).bind fun v8 => if v8 = 2 then ((fX7_refuse (x0_shelf, x0_rowSort, x0_rowSize, x0_rows, x0_moved, x0_shown, x0_tape, x0_tapeSize, x0_refused, x0_lines, x0_line, x0_changes, x0_coins, x0_goods, x0_good, x0_works, x0_work, x0_years, x0_gone, x0_spent, x0_at, x0_token, x0_from, x0_figures, x0_fault, x0_numbers, x0_statements, x0_left, x0_far, x0_tons, x0_way, x0_steps, x0_met, x0_queue, x0_totals) (-3)).bind (u2 fun v9 g10 => some (v9, x0_rows, x0_moved, g10))) else ((rd 8 x0_shelf p2).bind fun v12 => if v12 = 2 then ((fX7_refuse (x0_shelf, x0_rowSort, x0_rowSize, x0_rows, x0_moved, x0_shown, x0_tape, x0_tapeSize, x0_refused, x0_lines, x0_line, x0_changes, x0_coins, x0_goods, x0_good, x0_works, x0_work, x0_years, x0_gone, x0_spent, x0_at, x0_token, x0_from, x0_figures, x0_fault, x0_numbers, x0_statements, x0_left, x0_far, x0_tons, x0_way, x0_steps, x0_met, x0_queue, x0_totals) (-3)).bind (u2 fun v13 g14 => some (v13, x0_rows, x0_moved, g14))) else ((rd 8 x0_shelf p1).bind fun v16 => if v16 = 1 then ((rd 8 x0_shelf p2).bind fun v66 => if v66 = 1 then ((rd 8 x0_rowSort p1).bind fun v67 => (rd 8 x0_rowSort p2).bind fun v68 => if v67 = v68 then (fX7_copy_j93 n p1 p2 p3 p4 p5 x0_shelf x0_rowSort x0_rowSize x0_rows x0_moved x0_shown x0_tape x0_tapeSize x0_refused x0_lines x0_line x0_changes x0_coins x0_goods x0_good x0_works x0_work x0_years x0_gone x0_spent x0_at x0_token x0_from x0_figures x0_fault x0_numbers x0_statements x0_left x0_far x0_tons x0_way x0_steps x0_met x0_queue x0_totals) else ((fX7_refuse (x0_shelf, x0_rowSort, x0_rowSize, x0_rows, x0_moved, x0_shown, x0_tape, x0_tapeSize, x0_refused, x0_lines, x0_line, x0_changes, x0_coins, x0_goods, x0_good, x0_works, x0_work, x0_years, x0_gone, x0_spent, x0_at, x0_token, x0_from, x0_figures, x0_fault, x0_numbers, x0_statements, x0_left, x0_far, x0_tons, x0_way, x0_steps, x0_met, x0_queue, x0_totals) (-3)).bind (u2 fun v69 g70 => some (v69, x0_rows, x0_moved, g70)))) else (fX7_copy_j93 n p1 p2 p3 p4 p5 x0_shelf x0_rowSort x0_rowSize x0_rows x0_moved x0_shown x0_tape x0_tapeSize x0_refused x0_lines x0_line x0_changes x0_coins x0_goods x0_good x0_works x0_work x0_years x0_gone x0_spent x0_at x0_token x0_from x0_figures x0_fault x0_numbers x0_statements x0_left x0_far x0_tons x0_way x0_steps x0_met x0_queue x0_totals)) else (fX7_copy_j93 n p1 p2 p3 p4 p5 x0_shelf x0_rowSort x0_rowSize x0_rows x0_moved x0_shown x0_tape x0_tapeSize x0_refused x0_lines x0_line x0_changes x0_coins x0_goods x0_good x0_works x0_work x0_years x0_gone x0_spent x0_at x0_token x0_from x0_figures x0_fault x0_numbers x0_statements x0_left x0_far x0_tons x0_way x0_steps x0_met x0_queue x0_totals)))))))) X0
set_option maxHeartbeats 4000000 in
set_option maxRecDepth 100000 in
theorem kX7_copy (l : Launch) (d : DT) (h0 : Nat → Nat) (r0_rows : Nat → Nat) (r0_line : Nat → Nat) (r0_good : Nat → Nat) (r0_work : Nat → Nat) (a0_kept : Option Nat) (a0_tried : Option Nat) (a0_chosen : Option Nat) (n : Nat) (x0_shelf : (Nat → Int32)) (x0_rowSort : (Nat → Int32)) (x0_rowSize : (Nat → Int32)) (x0_rows : (Nat → Nat → Int64)) (x0_moved : (Nat → Int64)) (x0_shown : (Nat → Int32)) (x0_tape : (Nat → Int32)) (x0_tapeSize : Int32) (x0_refused : (Nat → Int32)) (x0_lines : Int32) (x0_line : (Nat → Nat → Int32)) (x0_changes : (Nat → Int32)) (x0_coins : (Nat → Int32)) (x0_goods : Int32) (x0_good : (Nat → Nat → Int32)) (x0_works : Int32) (x0_work : (Nat → Nat → Int32)) (x0_years : Int32) (x0_gone : Int32) (x0_spent : Int32) (x0_at : Int32) (x0_token : Int32) (x0_from : Int32) (x0_figures : Int64) (x0_fault : Int32) (x0_numbers : (Nat → Int32)) (x0_statements : Int32) (x0_left : (Nat → Int32)) (x0_far : (Nat → Int32)) (x0_tons : Int32) (x0_way : (Nat → Int32)) (x0_steps : Int32) (x0_met : Int64) (x0_queue : (Nat → Int32)) (x0_totals : (Nat → Int32)) (p1 : Int32) (p2 : Int32) (p3 : Int32) (p4 : Int32) (p5 : Int32)  {out : Int32 × (Nat → Nat → Int64) × (Nat → Int64) × (Nat → Int32)} (hf : fX7_copy n (x0_shelf, x0_rowSort, x0_rowSize, x0_rows, x0_moved, x0_shown, x0_tape, x0_tapeSize, x0_refused, x0_lines, x0_line, x0_changes, x0_coins, x0_goods, x0_good, x0_works, x0_work, x0_years, x0_gone, x0_spent, x0_at, x0_token, x0_from, x0_figures, x0_fault, x0_numbers, x0_statements, x0_left, x0_far, x0_tons, x0_way, x0_steps, x0_met, x0_queue, x0_totals) p1 p2 p3 p4 p5 = some out) : Ct l d yX7_copy cX7_copy 7 (some .int) { frames := 1, cells := 0, slots := 0, locals := 25 } [.ref (h0 0), .int p1, .int p2, .int p3, .int p4, .int p5] [gMd d h0 a0_kept a0_tried a0_chosen r0_rows r0_line r0_good r0_work x0_shelf x0_rowSort x0_rowSize x0_moved x0_shown x0_tape x0_tapeSize x0_refused x0_lines x0_changes x0_coins x0_goods x0_works x0_years x0_gone x0_spent x0_at x0_token x0_from x0_figures x0_fault x0_numbers x0_statements x0_left x0_far x0_tons x0_way x0_steps x0_met x0_queue x0_totals, gridJ d r0_rows 8 40 x0_rows] (fun _ : Unit => (some (.int out.1), [gMd d h0 a0_kept a0_tried a0_chosen r0_rows r0_line r0_good r0_work x0_shelf x0_rowSort x0_rowSize (out.2.2.1) x0_shown x0_tape x0_tapeSize (out.2.2.2) x0_lines x0_changes x0_coins x0_goods x0_works x0_years x0_gone x0_spent x0_at x0_token x0_from x0_figures x0_fault x0_numbers x0_statements x0_left x0_far x0_tons x0_way x0_steps x0_met x0_queue x0_totals, gridJ d r0_rows 8 40 (out.2.1)])) := by
  refine Ct.of (by decide) (Nat.le_of_ble_eq_true rfl) ?_
  intro Φ hl hK hR
  subst hl
  have hK : Ok d Φ RX7 "copy" cX7_copy 7 (some .int) { frames := 1, cells := 0, slots := 0, locals := 25 } := hK
  unfold fX7_copy at hf
  have hf := un35 hf
  show J d Φ 7 [gMd d h0 a0_kept a0_tried a0_chosen r0_rows r0_line r0_good r0_work x0_shelf x0_rowSort x0_rowSize x0_moved x0_shown x0_tape x0_tapeSize x0_refused x0_lines x0_changes x0_coins x0_goods x0_works x0_years x0_gone x0_spent x0_at x0_token x0_from x0_figures x0_fault x0_numbers x0_statements x0_left x0_far x0_tons x0_way x0_steps x0_met x0_queue x0_totals, gridJ d r0_rows 8 40 x0_rows] 0 0 0 [(0, .ref (h0 0)), (1, .int p1), (2, .int p2), (3, .int p3), (4, .int p4), (5, .int p5)] []
  refine J_iload_n hK dX7_copy_0 rfl 1 rfl rfl ?_
  refine J_i2l hK dX7_copy_1 rfl ?_
  refine J_lconst (v := 0) hK dX7_copy_2 rfl (by decide) ?_
  refine J_ldc2 (v := (7 : Int64)) hK dX7_copy_3 rfl wk_RX7_88 ?_
  obtain ⟨v1, e2, hf⟩ := bs hf
  refine J_callS (m' := 2) (ce' := 0) (sl' := 0) (gr := [gMd d h0 a0_kept a0_tried a0_chosen r0_rows r0_line r0_good r0_work x0_shelf x0_rowSort x0_rowSize x0_moved x0_shown x0_tape x0_tapeSize x0_refused x0_lines x0_changes x0_coins x0_goods x0_works x0_years x0_gone x0_spent x0_at x0_token x0_from x0_figures x0_fault x0_numbers x0_statements x0_left x0_far x0_tons x0_way x0_steps x0_met x0_queue x0_totals, gridJ d r0_rows 8 40 x0_rows]) (gs' := fun _ => [gMd d h0 a0_kept a0_tried a0_chosen r0_rows r0_line r0_good r0_work x0_shelf x0_rowSort x0_rowSize x0_moved x0_shown x0_tape x0_tapeSize x0_refused x0_lines x0_changes x0_coins x0_goods x0_works x0_years x0_gone x0_spent x0_at x0_token x0_from x0_figures x0_fault x0_numbers x0_statements x0_left x0_far x0_tons x0_way x0_steps x0_met x0_queue x0_totals, gridJ d r0_rows 8 40 x0_rows]) (st' := fun _ => [.int v1]) (st := []) hK dX7_copy_6 cv_RX7_78 ws_yX7_in (As := [.long ((p1).toInt64), .long (0 : Int64), .long (7 : Int64)]) (kX7_in _ d ((p1).toInt64) (0 : Int64) (7 : Int64) e2) rfl rfl (Nat.le_of_ble_eq_true rfl) (by decide) [] [0, 1] rfl rfl rfl rfl [0, 1] rfl (fun _ => rfl) (fun _ => rfl) rfl rfl rfl (fun _ => rfl) (fun _ => ?_)
  refine J_if_eq (tg := 24) hK dX7_copy_9 rfl rfl (fun hc9 => ?_) (fun hc9 => ?_)
  · have hf := ip hc9 hf
    refine J_aload_n hK dX7_copy_24 rfl 0 rfl rfl ?_
    refine J_bipush (v := (-2)) hK dX7_copy_25 rfl (by decide) ?_
    obtain ⟨⟨v3, g4⟩, e5, hf⟩ := bs hf
    have hf := un2 hf
    refine J_callV (m' := 2) (ce' := 0) (sl' := 0) (gr := [gridJ d r0_rows 8 40 x0_rows]) (gs' := fun _ => [gMd d h0 a0_kept a0_tried a0_chosen r0_rows r0_line r0_good r0_work x0_shelf x0_rowSort x0_rowSize x0_moved x0_shown x0_tape x0_tapeSize g4 x0_lines x0_changes x0_coins x0_goods x0_works x0_years x0_gone x0_spent x0_at x0_token x0_from x0_figures x0_fault x0_numbers x0_statements x0_left x0_far x0_tons x0_way x0_steps x0_met x0_queue x0_totals, gridJ d r0_rows 8 40 x0_rows]) (st' := fun _ => [.int v3]) (st := []) hK dX7_copy_27 cv_RX7_94 iv_yX7_refuse (As := [.int (-2)]) (kX7_refuse _ d h0 r0_rows r0_line r0_good r0_work a0_kept a0_tried a0_chosen x0_shelf x0_rowSort x0_rowSize x0_rows x0_moved x0_shown x0_tape x0_tapeSize x0_refused x0_lines x0_line x0_changes x0_coins x0_goods x0_good x0_works x0_work x0_years x0_gone x0_spent x0_at x0_token x0_from x0_figures x0_fault x0_numbers x0_statements x0_left x0_far x0_tons x0_way x0_steps x0_met x0_queue x0_totals (-2) e5) rfl rfl (Nat.le_of_ble_eq_true rfl) (by decide) 0 0 rfl rfl rfl [0] [1] rfl rfl rfl rfl [1, 0] rfl (fun _ => rfl) (fun _ => rfl) rfl rfl rfl (fun _ => rfl) (fun _ => ?_)
    obtain rfl := Option.some.inj hf
    exact J_iret hK hR dX7_copy_30 () rfl (by decide) (by decide)
  · have hf := iq hc9 hf
    refine J_iload_n hK dX7_copy_12 rfl 2 rfl rfl ?_
    refine J_i2l hK dX7_copy_13 rfl ?_
    refine J_lconst (v := 0) hK dX7_copy_14 rfl (by decide) ?_
    refine J_ldc2 (v := (7 : Int64)) hK dX7_copy_15 rfl wk_RX7_88 ?_
    obtain ⟨v6, e7, hf⟩ := bs hf
    refine J_callS (m' := 2) (ce' := 0) (sl' := 0) (gr := [gMd d h0 a0_kept a0_tried a0_chosen r0_rows r0_line r0_good r0_work x0_shelf x0_rowSort x0_rowSize x0_moved x0_shown x0_tape x0_tapeSize x0_refused x0_lines x0_changes x0_coins x0_goods x0_works x0_years x0_gone x0_spent x0_at x0_token x0_from x0_figures x0_fault x0_numbers x0_statements x0_left x0_far x0_tons x0_way x0_steps x0_met x0_queue x0_totals, gridJ d r0_rows 8 40 x0_rows]) (gs' := fun _ => [gMd d h0 a0_kept a0_tried a0_chosen r0_rows r0_line r0_good r0_work x0_shelf x0_rowSort x0_rowSize x0_moved x0_shown x0_tape x0_tapeSize x0_refused x0_lines x0_changes x0_coins x0_goods x0_works x0_years x0_gone x0_spent x0_at x0_token x0_from x0_figures x0_fault x0_numbers x0_statements x0_left x0_far x0_tons x0_way x0_steps x0_met x0_queue x0_totals, gridJ d r0_rows 8 40 x0_rows]) (st' := fun _ => [.int v6]) (st := []) hK dX7_copy_18 cv_RX7_78 ws_yX7_in (As := [.long ((p2).toInt64), .long (0 : Int64), .long (7 : Int64)]) (kX7_in _ d ((p2).toInt64) (0 : Int64) (7 : Int64) e7) rfl rfl (Nat.le_of_ble_eq_true rfl) (by decide) [] [0, 1] rfl rfl rfl rfl [0, 1] rfl (fun _ => rfl) (fun _ => rfl) rfl rfl rfl (fun _ => rfl) (fun _ => ?_)
    refine J_if_ne (tg := 31) hK dX7_copy_21 rfl rfl (fun hc21 => ?_) (fun hc21 => ?_)
    · have hf := iq hc21 hf
      refine J_aload_n hK dX7_copy_31 rfl 0 rfl rfl ?_
      refine J_get hK fo_RX7_7 dX7_copy_32 rfl 0 0 rfl rfl rfl ?_
      refine J_iload_n hK dX7_copy_35 rfl 1 rfl rfl ?_
      obtain ⟨v8, ev8, hf⟩ := bs hf
      refine J_iald hK dX7_copy_36 rfl 0 1 rfl rfl ev8 ?_
      refine J_iconst (v := 2) hK dX7_copy_37 rfl (by decide) ?_
      refine J_icmp_eq (tg := 86) hK dX7_copy_38 rfl rfl (fun hc38 => ?_) (fun hc38 => ?_)
      · have hf := ip hc38 hf
        refine J_aload_n hK dX7_copy_86 rfl 0 rfl rfl ?_
        refine J_bipush (v := (-3)) hK dX7_copy_87 rfl (by decide) ?_
        obtain ⟨⟨v9, g10⟩, e11, hf⟩ := bs hf
        have hf := un2 hf
        refine J_callV (m' := 2) (ce' := 0) (sl' := 0) (gr := [gridJ d r0_rows 8 40 x0_rows]) (gs' := fun _ => [gMd d h0 a0_kept a0_tried a0_chosen r0_rows r0_line r0_good r0_work x0_shelf x0_rowSort x0_rowSize x0_moved x0_shown x0_tape x0_tapeSize g10 x0_lines x0_changes x0_coins x0_goods x0_works x0_years x0_gone x0_spent x0_at x0_token x0_from x0_figures x0_fault x0_numbers x0_statements x0_left x0_far x0_tons x0_way x0_steps x0_met x0_queue x0_totals, gridJ d r0_rows 8 40 x0_rows]) (st' := fun _ => [.int v9]) (st := []) hK dX7_copy_89 cv_RX7_94 iv_yX7_refuse (As := [.int (-3)]) (kX7_refuse _ d h0 r0_rows r0_line r0_good r0_work a0_kept a0_tried a0_chosen x0_shelf x0_rowSort x0_rowSize x0_rows x0_moved x0_shown x0_tape x0_tapeSize x0_refused x0_lines x0_line x0_changes x0_coins x0_goods x0_good x0_works x0_work x0_years x0_gone x0_spent x0_at x0_token x0_from x0_figures x0_fault x0_numbers x0_statements x0_left x0_far x0_tons x0_way x0_steps x0_met x0_queue x0_totals (-3) e11) rfl rfl (Nat.le_of_ble_eq_true rfl) (by decide) 0 0 rfl rfl rfl [0] [1] rfl rfl rfl rfl [1, 0] rfl (fun _ => rfl) (fun _ => rfl) rfl rfl rfl (fun _ => rfl) (fun _ => ?_)
        obtain rfl := Option.some.inj hf
        exact J_iret hK hR dX7_copy_92 () rfl (by decide) (by decide)
      · have hf := iq hc38 hf
        refine J_aload_n hK dX7_copy_41 rfl 0 rfl rfl ?_
        refine J_get hK fo_RX7_7 dX7_copy_42 rfl 0 0 rfl rfl rfl ?_
        refine J_iload_n hK dX7_copy_45 rfl 2 rfl rfl ?_
        obtain ⟨v12, ev12, hf⟩ := bs hf
        refine J_iald hK dX7_copy_46 rfl 0 1 rfl rfl ev12 ?_
        refine J_iconst (v := 2) hK dX7_copy_47 rfl (by decide) ?_
        refine J_icmp_eq (tg := 86) hK dX7_copy_48 rfl rfl (fun hc48 => ?_) (fun hc48 => ?_)
        · have hf := ip hc48 hf
          refine J_aload_n hK dX7_copy_86 rfl 0 rfl rfl ?_
          refine J_bipush (v := (-3)) hK dX7_copy_87 rfl (by decide) ?_
          obtain ⟨⟨v13, g14⟩, e15, hf⟩ := bs hf
          have hf := un2 hf
          refine J_callV (m' := 2) (ce' := 0) (sl' := 0) (gr := [gridJ d r0_rows 8 40 x0_rows]) (gs' := fun _ => [gMd d h0 a0_kept a0_tried a0_chosen r0_rows r0_line r0_good r0_work x0_shelf x0_rowSort x0_rowSize x0_moved x0_shown x0_tape x0_tapeSize g14 x0_lines x0_changes x0_coins x0_goods x0_works x0_years x0_gone x0_spent x0_at x0_token x0_from x0_figures x0_fault x0_numbers x0_statements x0_left x0_far x0_tons x0_way x0_steps x0_met x0_queue x0_totals, gridJ d r0_rows 8 40 x0_rows]) (st' := fun _ => [.int v13]) (st := []) hK dX7_copy_89 cv_RX7_94 iv_yX7_refuse (As := [.int (-3)]) (kX7_refuse _ d h0 r0_rows r0_line r0_good r0_work a0_kept a0_tried a0_chosen x0_shelf x0_rowSort x0_rowSize x0_rows x0_moved x0_shown x0_tape x0_tapeSize x0_refused x0_lines x0_line x0_changes x0_coins x0_goods x0_good x0_works x0_work x0_years x0_gone x0_spent x0_at x0_token x0_from x0_figures x0_fault x0_numbers x0_statements x0_left x0_far x0_tons x0_way x0_steps x0_met x0_queue x0_totals (-3) e15) rfl rfl (Nat.le_of_ble_eq_true rfl) (by decide) 0 0 rfl rfl rfl [0] [1] rfl rfl rfl rfl [1, 0] rfl (fun _ => rfl) (fun _ => rfl) rfl rfl rfl (fun _ => rfl) (fun _ => ?_)
          obtain rfl := Option.some.inj hf
          exact J_iret hK hR dX7_copy_92 () rfl (by decide) (by decide)
        · have hf := iq hc48 hf
          refine J_aload_n hK dX7_copy_51 rfl 0 rfl rfl ?_
          refine J_get hK fo_RX7_7 dX7_copy_52 rfl 0 0 rfl rfl rfl ?_
          refine J_iload_n hK dX7_copy_55 rfl 1 rfl rfl ?_
          obtain ⟨v16, ev16, hf⟩ := bs hf
          refine J_iald hK dX7_copy_56 rfl 0 1 rfl rfl ev16 ?_
          refine J_iconst (v := 1) hK dX7_copy_57 rfl (by decide) ?_
          have j93 : fX7_copy_j93 n p1 p2 p3 p4 p5 x0_shelf x0_rowSort x0_rowSize x0_rows x0_moved x0_shown x0_tape x0_tapeSize x0_refused x0_lines x0_line x0_changes x0_coins x0_goods x0_good x0_works x0_work x0_years x0_gone x0_spent x0_at x0_token x0_from x0_figures x0_fault x0_numbers x0_statements x0_left x0_far x0_tons x0_way x0_steps x0_met x0_queue x0_totals = some out → J d Φ 7 [gMd d h0 a0_kept a0_tried a0_chosen r0_rows r0_line r0_good r0_work x0_shelf x0_rowSort x0_rowSize x0_moved x0_shown x0_tape x0_tapeSize x0_refused x0_lines x0_changes x0_coins x0_goods x0_works x0_years x0_gone x0_spent x0_at x0_token x0_from x0_figures x0_fault x0_numbers x0_statements x0_left x0_far x0_tons x0_way x0_steps x0_met x0_queue x0_totals, gridJ d r0_rows 8 40 x0_rows] 0 0 93 [(0, .ref (h0 0)), (1, .int p1), (2, .int p2), (3, .int p3), (4, .int p4), (5, .int p5)] [] := by
            intro  hf
            unfold fX7_copy_j93 at hf
            refine J_aload_n hK dX7_copy_93 rfl 0 rfl rfl ?_
            refine J_get hK fo_RX7_7 dX7_copy_94 rfl 0 0 rfl rfl rfl ?_
            refine J_iload_n hK dX7_copy_97 rfl 1 rfl rfl ?_
            obtain ⟨v17, ev17, hf⟩ := bs hf
            refine J_iald hK dX7_copy_98 rfl 0 1 rfl rfl ev17 ?_
            refine J_if_eq (tg := 111) hK dX7_copy_99 rfl rfl (fun hc99 => ?_) (fun hc99 => ?_)
            · have hf := ip hc99 hf
              refine J_aload_n hK dX7_copy_111 rfl 0 rfl rfl ?_
              refine J_bipush (v := (-4)) hK dX7_copy_112 rfl (by decide) ?_
              obtain ⟨⟨v18, g19⟩, e20, hf⟩ := bs hf
              have hf := un2 hf
              refine J_callV (m' := 2) (ce' := 0) (sl' := 0) (gr := [gridJ d r0_rows 8 40 x0_rows]) (gs' := fun _ => [gMd d h0 a0_kept a0_tried a0_chosen r0_rows r0_line r0_good r0_work x0_shelf x0_rowSort x0_rowSize x0_moved x0_shown x0_tape x0_tapeSize g19 x0_lines x0_changes x0_coins x0_goods x0_works x0_years x0_gone x0_spent x0_at x0_token x0_from x0_figures x0_fault x0_numbers x0_statements x0_left x0_far x0_tons x0_way x0_steps x0_met x0_queue x0_totals, gridJ d r0_rows 8 40 x0_rows]) (st' := fun _ => [.int v18]) (st := []) hK dX7_copy_114 cv_RX7_94 iv_yX7_refuse (As := [.int (-4)]) (kX7_refuse _ d h0 r0_rows r0_line r0_good r0_work a0_kept a0_tried a0_chosen x0_shelf x0_rowSort x0_rowSize x0_rows x0_moved x0_shown x0_tape x0_tapeSize x0_refused x0_lines x0_line x0_changes x0_coins x0_goods x0_good x0_works x0_work x0_years x0_gone x0_spent x0_at x0_token x0_from x0_figures x0_fault x0_numbers x0_statements x0_left x0_far x0_tons x0_way x0_steps x0_met x0_queue x0_totals (-4) e20) rfl rfl (Nat.le_of_ble_eq_true rfl) (by decide) 0 0 rfl rfl rfl [0] [1] rfl rfl rfl rfl [1, 0] rfl (fun _ => rfl) (fun _ => rfl) rfl rfl rfl (fun _ => rfl) (fun _ => ?_)
              obtain rfl := Option.some.inj hf
              exact J_iret hK hR dX7_copy_117 () rfl (by decide) (by decide)
            · have hf := iq hc99 hf
              refine J_aload_n hK dX7_copy_102 rfl 0 rfl rfl ?_
              refine J_get hK fo_RX7_7 dX7_copy_103 rfl 0 0 rfl rfl rfl ?_
              refine J_iload_n hK dX7_copy_106 rfl 2 rfl rfl ?_
              obtain ⟨v21, ev21, hf⟩ := bs hf
              refine J_iald hK dX7_copy_107 rfl 0 1 rfl rfl ev21 ?_
              refine J_if_ne (tg := 118) hK dX7_copy_108 rfl rfl (fun hc108 => ?_) (fun hc108 => ?_)
              · have hf := iq hc108 hf
                refine J_iload hK dX7_copy_118 rfl 5 rfl ?_
                refine J_if_lt (tg := 181) hK dX7_copy_120 rfl rfl (fun hc120 => ?_) (fun hc120 => ?_)
                · have hf := ip hc120 hf
                  refine J_aload_n hK dX7_copy_181 rfl 0 rfl rfl ?_
                  refine J_bipush (v := (-2)) hK dX7_copy_182 rfl (by decide) ?_
                  obtain ⟨⟨v22, g23⟩, e24, hf⟩ := bs hf
                  have hf := un2 hf
                  refine J_callV (m' := 2) (ce' := 0) (sl' := 0) (gr := [gridJ d r0_rows 8 40 x0_rows]) (gs' := fun _ => [gMd d h0 a0_kept a0_tried a0_chosen r0_rows r0_line r0_good r0_work x0_shelf x0_rowSort x0_rowSize x0_moved x0_shown x0_tape x0_tapeSize g23 x0_lines x0_changes x0_coins x0_goods x0_works x0_years x0_gone x0_spent x0_at x0_token x0_from x0_figures x0_fault x0_numbers x0_statements x0_left x0_far x0_tons x0_way x0_steps x0_met x0_queue x0_totals, gridJ d r0_rows 8 40 x0_rows]) (st' := fun _ => [.int v22]) (st := []) hK dX7_copy_184 cv_RX7_94 iv_yX7_refuse (As := [.int (-2)]) (kX7_refuse _ d h0 r0_rows r0_line r0_good r0_work a0_kept a0_tried a0_chosen x0_shelf x0_rowSort x0_rowSize x0_rows x0_moved x0_shown x0_tape x0_tapeSize x0_refused x0_lines x0_line x0_changes x0_coins x0_goods x0_good x0_works x0_work x0_years x0_gone x0_spent x0_at x0_token x0_from x0_figures x0_fault x0_numbers x0_statements x0_left x0_far x0_tons x0_way x0_steps x0_met x0_queue x0_totals (-2) e24) rfl rfl (Nat.le_of_ble_eq_true rfl) (by decide) 0 0 rfl rfl rfl [0] [1] rfl rfl rfl rfl [1, 0] rfl (fun _ => rfl) (fun _ => rfl) rfl rfl rfl (fun _ => rfl) (fun _ => ?_)
                  obtain rfl := Option.some.inj hf
                  exact J_iret hK hR dX7_copy_187 () rfl (by decide) (by decide)
                · have hf := iq hc120 hf
                  refine J_iload_n hK dX7_copy_123 rfl 3 rfl rfl ?_
                  refine J_if_lt (tg := 181) hK dX7_copy_124 rfl rfl (fun hc124 => ?_) (fun hc124 => ?_)
                  · have hf := ip hc124 hf
                    refine J_aload_n hK dX7_copy_181 rfl 0 rfl rfl ?_
                    refine J_bipush (v := (-2)) hK dX7_copy_182 rfl (by decide) ?_
                    obtain ⟨⟨v25, g26⟩, e27, hf⟩ := bs hf
                    have hf := un2 hf
                    refine J_callV (m' := 2) (ce' := 0) (sl' := 0) (gr := [gridJ d r0_rows 8 40 x0_rows]) (gs' := fun _ => [gMd d h0 a0_kept a0_tried a0_chosen r0_rows r0_line r0_good r0_work x0_shelf x0_rowSort x0_rowSize x0_moved x0_shown x0_tape x0_tapeSize g26 x0_lines x0_changes x0_coins x0_goods x0_works x0_years x0_gone x0_spent x0_at x0_token x0_from x0_figures x0_fault x0_numbers x0_statements x0_left x0_far x0_tons x0_way x0_steps x0_met x0_queue x0_totals, gridJ d r0_rows 8 40 x0_rows]) (st' := fun _ => [.int v25]) (st := []) hK dX7_copy_184 cv_RX7_94 iv_yX7_refuse (As := [.int (-2)]) (kX7_refuse _ d h0 r0_rows r0_line r0_good r0_work a0_kept a0_tried a0_chosen x0_shelf x0_rowSort x0_rowSize x0_rows x0_moved x0_shown x0_tape x0_tapeSize x0_refused x0_lines x0_line x0_changes x0_coins x0_goods x0_good x0_works x0_work x0_years x0_gone x0_spent x0_at x0_token x0_from x0_figures x0_fault x0_numbers x0_statements x0_left x0_far x0_tons x0_way x0_steps x0_met x0_queue x0_totals (-2) e27) rfl rfl (Nat.le_of_ble_eq_true rfl) (by decide) 0 0 rfl rfl rfl [0] [1] rfl rfl rfl rfl [1, 0] rfl (fun _ => rfl) (fun _ => rfl) rfl rfl rfl (fun _ => rfl) (fun _ => ?_)
                    obtain rfl := Option.some.inj hf
                    exact J_iret hK hR dX7_copy_187 () rfl (by decide) (by decide)
                  · have hf := iq hc124 hf
                    refine J_iload hK dX7_copy_127 rfl 4 rfl ?_
                    refine J_if_lt (tg := 181) hK dX7_copy_129 rfl rfl (fun hc129 => ?_) (fun hc129 => ?_)
                    · have hf := ip hc129 hf
                      refine J_aload_n hK dX7_copy_181 rfl 0 rfl rfl ?_
                      refine J_bipush (v := (-2)) hK dX7_copy_182 rfl (by decide) ?_
                      obtain ⟨⟨v28, g29⟩, e30, hf⟩ := bs hf
                      have hf := un2 hf
                      refine J_callV (m' := 2) (ce' := 0) (sl' := 0) (gr := [gridJ d r0_rows 8 40 x0_rows]) (gs' := fun _ => [gMd d h0 a0_kept a0_tried a0_chosen r0_rows r0_line r0_good r0_work x0_shelf x0_rowSort x0_rowSize x0_moved x0_shown x0_tape x0_tapeSize g29 x0_lines x0_changes x0_coins x0_goods x0_works x0_years x0_gone x0_spent x0_at x0_token x0_from x0_figures x0_fault x0_numbers x0_statements x0_left x0_far x0_tons x0_way x0_steps x0_met x0_queue x0_totals, gridJ d r0_rows 8 40 x0_rows]) (st' := fun _ => [.int v28]) (st := []) hK dX7_copy_184 cv_RX7_94 iv_yX7_refuse (As := [.int (-2)]) (kX7_refuse _ d h0 r0_rows r0_line r0_good r0_work a0_kept a0_tried a0_chosen x0_shelf x0_rowSort x0_rowSize x0_rows x0_moved x0_shown x0_tape x0_tapeSize x0_refused x0_lines x0_line x0_changes x0_coins x0_goods x0_good x0_works x0_work x0_years x0_gone x0_spent x0_at x0_token x0_from x0_figures x0_fault x0_numbers x0_statements x0_left x0_far x0_tons x0_way x0_steps x0_met x0_queue x0_totals (-2) e30) rfl rfl (Nat.le_of_ble_eq_true rfl) (by decide) 0 0 rfl rfl rfl [0] [1] rfl rfl rfl rfl [1, 0] rfl (fun _ => rfl) (fun _ => rfl) rfl rfl rfl (fun _ => rfl) (fun _ => ?_)
                      obtain rfl := Option.some.inj hf
                      exact J_iret hK hR dX7_copy_187 () rfl (by decide) (by decide)
                    · have hf := iq hc129 hf
                      refine J_iload hK dX7_copy_132 rfl 5 rfl ?_
                      refine J_aload_n hK dX7_copy_134 rfl 0 rfl rfl ?_
                      refine J_get hK fo_RX7_16 dX7_copy_135 rfl 0 0 rfl rfl rfl ?_
                      refine J_iload_n hK dX7_copy_138 rfl 1 rfl rfl ?_
                      obtain ⟨v31, ev31, hf⟩ := bs hf
                      refine J_iald hK dX7_copy_139 rfl 0 3 rfl rfl ev31 ?_
                      refine J_icmp_gt (tg := 181) hK dX7_copy_140 rfl rfl (fun hc140 => ?_) (fun hc140 => ?_)
                      · have hf := ip hc140 hf
                        refine J_aload_n hK dX7_copy_181 rfl 0 rfl rfl ?_
                        refine J_bipush (v := (-2)) hK dX7_copy_182 rfl (by decide) ?_
                        obtain ⟨⟨v32, g33⟩, e34, hf⟩ := bs hf
                        have hf := un2 hf
                        refine J_callV (m' := 2) (ce' := 0) (sl' := 0) (gr := [gridJ d r0_rows 8 40 x0_rows]) (gs' := fun _ => [gMd d h0 a0_kept a0_tried a0_chosen r0_rows r0_line r0_good r0_work x0_shelf x0_rowSort x0_rowSize x0_moved x0_shown x0_tape x0_tapeSize g33 x0_lines x0_changes x0_coins x0_goods x0_works x0_years x0_gone x0_spent x0_at x0_token x0_from x0_figures x0_fault x0_numbers x0_statements x0_left x0_far x0_tons x0_way x0_steps x0_met x0_queue x0_totals, gridJ d r0_rows 8 40 x0_rows]) (st' := fun _ => [.int v32]) (st := []) hK dX7_copy_184 cv_RX7_94 iv_yX7_refuse (As := [.int (-2)]) (kX7_refuse _ d h0 r0_rows r0_line r0_good r0_work a0_kept a0_tried a0_chosen x0_shelf x0_rowSort x0_rowSize x0_rows x0_moved x0_shown x0_tape x0_tapeSize x0_refused x0_lines x0_line x0_changes x0_coins x0_goods x0_good x0_works x0_work x0_years x0_gone x0_spent x0_at x0_token x0_from x0_figures x0_fault x0_numbers x0_statements x0_left x0_far x0_tons x0_way x0_steps x0_met x0_queue x0_totals (-2) e34) rfl rfl (Nat.le_of_ble_eq_true rfl) (by decide) 0 0 rfl rfl rfl [0] [1] rfl rfl rfl rfl [1, 0] rfl (fun _ => rfl) (fun _ => rfl) rfl rfl rfl (fun _ => rfl) (fun _ => ?_)
                        obtain rfl := Option.some.inj hf
                        exact J_iret hK hR dX7_copy_187 () rfl (by decide) (by decide)
                      · have hf := iq hc140 hf
                        refine J_iload hK dX7_copy_143 rfl 5 rfl ?_
                        refine J_aload_n hK dX7_copy_145 rfl 0 rfl rfl ?_
                        refine J_get hK fo_RX7_16 dX7_copy_146 rfl 0 0 rfl rfl rfl ?_
                        refine J_iload_n hK dX7_copy_149 rfl 2 rfl rfl ?_
                        obtain ⟨v35, ev35, hf⟩ := bs hf
                        refine J_iald hK dX7_copy_150 rfl 0 3 rfl rfl ev35 ?_
                        refine J_icmp_gt (tg := 181) hK dX7_copy_151 rfl rfl (fun hc151 => ?_) (fun hc151 => ?_)
                        · have hf := ip hc151 hf
                          refine J_aload_n hK dX7_copy_181 rfl 0 rfl rfl ?_
                          refine J_bipush (v := (-2)) hK dX7_copy_182 rfl (by decide) ?_
                          obtain ⟨⟨v36, g37⟩, e38, hf⟩ := bs hf
                          have hf := un2 hf
                          refine J_callV (m' := 2) (ce' := 0) (sl' := 0) (gr := [gridJ d r0_rows 8 40 x0_rows]) (gs' := fun _ => [gMd d h0 a0_kept a0_tried a0_chosen r0_rows r0_line r0_good r0_work x0_shelf x0_rowSort x0_rowSize x0_moved x0_shown x0_tape x0_tapeSize g37 x0_lines x0_changes x0_coins x0_goods x0_works x0_years x0_gone x0_spent x0_at x0_token x0_from x0_figures x0_fault x0_numbers x0_statements x0_left x0_far x0_tons x0_way x0_steps x0_met x0_queue x0_totals, gridJ d r0_rows 8 40 x0_rows]) (st' := fun _ => [.int v36]) (st := []) hK dX7_copy_184 cv_RX7_94 iv_yX7_refuse (As := [.int (-2)]) (kX7_refuse _ d h0 r0_rows r0_line r0_good r0_work a0_kept a0_tried a0_chosen x0_shelf x0_rowSort x0_rowSize x0_rows x0_moved x0_shown x0_tape x0_tapeSize x0_refused x0_lines x0_line x0_changes x0_coins x0_goods x0_good x0_works x0_work x0_years x0_gone x0_spent x0_at x0_token x0_from x0_figures x0_fault x0_numbers x0_statements x0_left x0_far x0_tons x0_way x0_steps x0_met x0_queue x0_totals (-2) e38) rfl rfl (Nat.le_of_ble_eq_true rfl) (by decide) 0 0 rfl rfl rfl [0] [1] rfl rfl rfl rfl [1, 0] rfl (fun _ => rfl) (fun _ => rfl) rfl rfl rfl (fun _ => rfl) (fun _ => ?_)
                          obtain rfl := Option.some.inj hf
                          exact J_iret hK hR dX7_copy_187 () rfl (by decide) (by decide)
                        · have hf := iq hc151 hf
                          refine J_iload_n hK dX7_copy_154 rfl 3 rfl rfl ?_
                          refine J_aload_n hK dX7_copy_155 rfl 0 rfl rfl ?_
                          refine J_get hK fo_RX7_16 dX7_copy_156 rfl 0 0 rfl rfl rfl ?_
                          refine J_iload_n hK dX7_copy_159 rfl 1 rfl rfl ?_
                          obtain ⟨v39, ev39, hf⟩ := bs hf
                          refine J_iald hK dX7_copy_160 rfl 0 3 rfl rfl ev39 ?_
                          refine J_iload hK dX7_copy_161 rfl 5 rfl ?_
                          refine J_isub hK dX7_copy_163 rfl ?_
                          refine J_icmp_gt (tg := 181) hK dX7_copy_164 rfl rfl (fun hc164 => ?_) (fun hc164 => ?_)
                          · have hf := ip hc164 hf
                            refine J_aload_n hK dX7_copy_181 rfl 0 rfl rfl ?_
                            refine J_bipush (v := (-2)) hK dX7_copy_182 rfl (by decide) ?_
                            obtain ⟨⟨v40, g41⟩, e42, hf⟩ := bs hf
                            have hf := un2 hf
                            refine J_callV (m' := 2) (ce' := 0) (sl' := 0) (gr := [gridJ d r0_rows 8 40 x0_rows]) (gs' := fun _ => [gMd d h0 a0_kept a0_tried a0_chosen r0_rows r0_line r0_good r0_work x0_shelf x0_rowSort x0_rowSize x0_moved x0_shown x0_tape x0_tapeSize g41 x0_lines x0_changes x0_coins x0_goods x0_works x0_years x0_gone x0_spent x0_at x0_token x0_from x0_figures x0_fault x0_numbers x0_statements x0_left x0_far x0_tons x0_way x0_steps x0_met x0_queue x0_totals, gridJ d r0_rows 8 40 x0_rows]) (st' := fun _ => [.int v40]) (st := []) hK dX7_copy_184 cv_RX7_94 iv_yX7_refuse (As := [.int (-2)]) (kX7_refuse _ d h0 r0_rows r0_line r0_good r0_work a0_kept a0_tried a0_chosen x0_shelf x0_rowSort x0_rowSize x0_rows x0_moved x0_shown x0_tape x0_tapeSize x0_refused x0_lines x0_line x0_changes x0_coins x0_goods x0_good x0_works x0_work x0_years x0_gone x0_spent x0_at x0_token x0_from x0_figures x0_fault x0_numbers x0_statements x0_left x0_far x0_tons x0_way x0_steps x0_met x0_queue x0_totals (-2) e42) rfl rfl (Nat.le_of_ble_eq_true rfl) (by decide) 0 0 rfl rfl rfl [0] [1] rfl rfl rfl rfl [1, 0] rfl (fun _ => rfl) (fun _ => rfl) rfl rfl rfl (fun _ => rfl) (fun _ => ?_)
                            obtain rfl := Option.some.inj hf
                            exact J_iret hK hR dX7_copy_187 () rfl (by decide) (by decide)
                          · have hf := iq hc164 hf
                            refine J_iload hK dX7_copy_167 rfl 4 rfl ?_
                            refine J_aload_n hK dX7_copy_169 rfl 0 rfl rfl ?_
                            refine J_get hK fo_RX7_16 dX7_copy_170 rfl 0 0 rfl rfl rfl ?_
                            refine J_iload_n hK dX7_copy_173 rfl 2 rfl rfl ?_
                            obtain ⟨v43, ev43, hf⟩ := bs hf
                            refine J_iald hK dX7_copy_174 rfl 0 3 rfl rfl ev43 ?_
                            refine J_iload hK dX7_copy_175 rfl 5 rfl ?_
                            refine J_isub hK dX7_copy_177 rfl ?_
                            refine J_icmp_le (tg := 188) hK dX7_copy_178 rfl rfl (fun hc178 => ?_) (fun hc178 => ?_)
                            · have hf := ip hc178 hf
                              refine J_iconst (v := 0) hK dX7_copy_188 rfl (by decide) ?_
                              refine J_istore (L' := [(6, .int (0)), (0, .ref (h0 0)), (1, .int p1), (2, .int p2), (3, .int p3), (4, .int p4), (5, .int p5)]) hK dX7_copy_189 rfl (by decide) rfl ?_
                              obtain ⟨e47, hl44, hf⟩ := bs hf
                              have hx44_222 : ∀ (w48 : (Nat → Int64)), w48 = e47 → J d Φ 7 [gMd d h0 a0_kept a0_tried a0_chosen r0_rows r0_line r0_good r0_work x0_shelf x0_rowSort x0_rowSize w48 x0_shown x0_tape x0_tapeSize x0_refused x0_lines x0_changes x0_coins x0_goods x0_works x0_years x0_gone x0_spent x0_at x0_token x0_from x0_figures x0_fault x0_numbers x0_statements x0_left x0_far x0_tons x0_way x0_steps x0_met x0_queue x0_totals, gridJ d r0_rows 8 40 x0_rows] 0 0 222 [(0, .ref (h0 0)), (2, .int p2), (4, .int p4), (5, .int p5)] [] := by
                                intro w48 he
                                rw [← he] at hf
                                refine J_iconst (v := 0) hK dX7_copy_222 rfl (by decide) ?_
                                refine J_istore (L' := [(6, .int (0)), (0, .ref (h0 0)), (2, .int p2), (4, .int p4), (5, .int p5)]) hK dX7_copy_223 rfl (by decide) rfl ?_
                                obtain ⟨e52, hl49, hf⟩ := bs hf
                                have hx49_257 : ∀ (w53 : (Nat → Nat → Int64)), w53 = e52 → J d Φ 7 [gMd d h0 a0_kept a0_tried a0_chosen r0_rows r0_line r0_good r0_work x0_shelf x0_rowSort x0_rowSize w48 x0_shown x0_tape x0_tapeSize x0_refused x0_lines x0_changes x0_coins x0_goods x0_works x0_years x0_gone x0_spent x0_at x0_token x0_from x0_figures x0_fault x0_numbers x0_statements x0_left x0_far x0_tons x0_way x0_steps x0_met x0_queue x0_totals, gridJ d r0_rows 8 40 w53] 0 0 257 [(5, .int p5)] [] := by
                                  intro w53 he
                                  rw [← he] at hf
                                  refine J_iload hK dX7_copy_257 rfl 0 rfl ?_
                                  obtain rfl := Option.some.inj hf
                                  exact J_iret hK hR dX7_copy_259 () rfl (by decide) (by decide)
                                have lo49 : ∀ (k : Nat) (z50 : Int32) (z51 : (Nat → Nat → Int64)), lp (u2 (fX7_copy_s225 p2 p4 p5 w48)) k (z50, z51) = some e52 → J d Φ 7 [gMd d h0 a0_kept a0_tried a0_chosen r0_rows r0_line r0_good r0_work x0_shelf x0_rowSort x0_rowSize w48 x0_shown x0_tape x0_tapeSize x0_refused x0_lines x0_changes x0_coins x0_goods x0_works x0_years x0_gone x0_spent x0_at x0_token x0_from x0_figures x0_fault x0_numbers x0_statements x0_left x0_far x0_tons x0_way x0_steps x0_met x0_queue x0_totals, gridJ d r0_rows 8 40 z51] 0 0 225 [(0, .ref (h0 0)), (2, .int p2), (4, .int p4), (5, .int p5), (6, .int z50)] [] := by
                                  intro k
                                  induction k with
                                  | zero => intro z50 z51 h; cases h
                                  | succ k ih49 =>
                                    intro z50 z51 h
                                    obtain ⟨k2, rr49, hk2, hs49, hr49⟩ := lp_ok h
                                    cases hk2
                                    have hs49 : fX7_copy_s225 p2 p4 p5 w48 z50 z51 = some rr49 := hs49
                                    unfold fX7_copy_s225 at hs49
                                    refine J_iload hK dX7_copy_225 rfl 4 rfl ?_
                                    refine J_iload hK dX7_copy_227 rfl 3 rfl ?_
                                    refine J_icmp_ge (tg := 257) hK dX7_copy_229 rfl rfl (fun hc229 => ?_) (fun hc229 => ?_)
                                    · have hs49 := ip hc229 hs49
                                      exact J_loc [3] rfl (hx49_257 z51 (lpx hs49 hr49))
                                    · have hs49 := iq hc229 hs49
                                      refine J_aload_n hK dX7_copy_232 rfl 0 rfl rfl ?_
                                      refine J_get hK fo_RX7_21 dX7_copy_233 rfl 0 0 rfl rfl rfl ?_
                                      refine J_iload_n hK dX7_copy_236 rfl 1 rfl rfl ?_
                                      obtain ⟨q54, eq54, hs49⟩ := bs hs49
                                      refine J_aald hK dX7_copy_237 rfl 0 4 rfl rfl rfl eq54 ?_
                                      refine J_iload hK dX7_copy_238 rfl 2 rfl ?_
                                      refine J_iload hK dX7_copy_240 rfl 4 rfl ?_
                                      refine J_iadd hK dX7_copy_242 rfl ?_
                                      refine J_aload_n hK dX7_copy_243 rfl 0 rfl rfl ?_
                                      refine J_get hK fo_RX7_24 dX7_copy_244 rfl 0 0 rfl rfl rfl ?_
                                      refine J_iload hK dX7_copy_247 rfl 4 rfl ?_
                                      obtain ⟨v55, ev55, hs49⟩ := bs hs49
                                      refine J_lald hK dX7_copy_249 rfl 0 5 rfl rfl ev55 ?_
                                      obtain ⟨f56, ef56, hs49⟩ := bs hs49
                                      refine J_last (g' := gridJ d r0_rows 8 40 (va_up z51 q54 f56)) (gs' := [gMd d h0 a0_kept a0_tried a0_chosen r0_rows r0_line r0_good r0_work x0_shelf x0_rowSort x0_rowSize w48 x0_shown x0_tape x0_tapeSize x0_refused x0_lines x0_changes x0_coins x0_goods x0_works x0_years x0_gone x0_spent x0_at x0_token x0_from x0_figures x0_fault x0_numbers x0_statements x0_left x0_far x0_tons x0_way x0_steps x0_met x0_queue x0_totals, gridJ d r0_rows 8 40 (va_up z51 q54 f56)]) hK dX7_copy_250 rfl 1 q54 rfl (gridJ_at (ck_ok eq54).2.2) ef56 gridJ_set rfl ?_
                                      refine J_iinc (L' := [(6, .int (z50 + 1)), (0, .ref (h0 0)), (2, .int p2), (4, .int p4), (5, .int p5)]) (v := (z50 + 1)) hK dX7_copy_251 rfl 4 rfl rfl (by decide) rfl ?_
                                      refine J_goto hK dX7_copy_254 (n := 225) rfl ?_
                                      exact J_loc [1, 2, 3, 4, 0] rfl (ih49 (z50 + 1) (va_up z51 q54 f56) (lpc hs49 hr49))
                                exact J_loc [1, 2, 3, 4, 0] rfl (lo49 n (0) x0_rows hl49)
                              have lo44 : ∀ (k : Nat) (z45 : Int32) (z46 : (Nat → Int64)), lp (u2 (fX7_copy_s191 p1 p3 p5 x0_rows)) k (z45, z46) = some e47 → J d Φ 7 [gMd d h0 a0_kept a0_tried a0_chosen r0_rows r0_line r0_good r0_work x0_shelf x0_rowSort x0_rowSize z46 x0_shown x0_tape x0_tapeSize x0_refused x0_lines x0_changes x0_coins x0_goods x0_works x0_years x0_gone x0_spent x0_at x0_token x0_from x0_figures x0_fault x0_numbers x0_statements x0_left x0_far x0_tons x0_way x0_steps x0_met x0_queue x0_totals, gridJ d r0_rows 8 40 x0_rows] 0 0 191 [(0, .ref (h0 0)), (1, .int p1), (2, .int p2), (3, .int p3), (4, .int p4), (5, .int p5), (6, .int z45)] [] := by
                                intro k
                                induction k with
                                | zero => intro z45 z46 h; cases h
                                | succ k ih44 =>
                                  intro z45 z46 h
                                  obtain ⟨k2, rr44, hk2, hs44, hr44⟩ := lp_ok h
                                  cases hk2
                                  have hs44 : fX7_copy_s191 p1 p3 p5 x0_rows z45 z46 = some rr44 := hs44
                                  unfold fX7_copy_s191 at hs44
                                  refine J_iload hK dX7_copy_191 rfl 6 rfl ?_
                                  refine J_iload hK dX7_copy_193 rfl 5 rfl ?_
                                  refine J_icmp_ge (tg := 222) hK dX7_copy_195 rfl rfl (fun hc195 => ?_) (fun hc195 => ?_)
                                  · have hs44 := ip hc195 hs44
                                    exact J_loc [0, 2, 4, 5] rfl (hx44_222 z46 (lpx hs44 hr44))
                                  · have hs44 := iq hc195 hs44
                                    refine J_aload_n hK dX7_copy_198 rfl 0 rfl rfl ?_
                                    refine J_get hK fo_RX7_24 dX7_copy_199 rfl 0 0 rfl rfl rfl ?_
                                    refine J_iload hK dX7_copy_202 rfl 6 rfl ?_
                                    refine J_aload_n hK dX7_copy_204 rfl 0 rfl rfl ?_
                                    refine J_get hK fo_RX7_21 dX7_copy_205 rfl 0 0 rfl rfl rfl ?_
                                    refine J_iload_n hK dX7_copy_208 rfl 1 rfl rfl ?_
                                    obtain ⟨q57, eq57, hs44⟩ := bs hs44
                                    refine J_aald hK dX7_copy_209 rfl 0 4 rfl rfl rfl eq57 ?_
                                    refine J_iload_n hK dX7_copy_210 rfl 3 rfl rfl ?_
                                    refine J_iload hK dX7_copy_211 rfl 6 rfl ?_
                                    refine J_iadd hK dX7_copy_213 rfl ?_
                                    obtain ⟨v58, ev58, hs44⟩ := bs hs44
                                    refine J_lald hK dX7_copy_214 rfl 1 q57 rfl (gridJ_at (ck_ok eq57).2.2) ev58 ?_
                                    obtain ⟨f59, ef59, hs44⟩ := bs hs44
                                    refine J_last (g' := gMd d h0 a0_kept a0_tried a0_chosen r0_rows r0_line r0_good r0_work x0_shelf x0_rowSort x0_rowSize f59 x0_shown x0_tape x0_tapeSize x0_refused x0_lines x0_changes x0_coins x0_goods x0_works x0_years x0_gone x0_spent x0_at x0_token x0_from x0_figures x0_fault x0_numbers x0_statements x0_left x0_far x0_tons x0_way x0_steps x0_met x0_queue x0_totals) (gs' := [gMd d h0 a0_kept a0_tried a0_chosen r0_rows r0_line r0_good r0_work x0_shelf x0_rowSort x0_rowSize f59 x0_shown x0_tape x0_tapeSize x0_refused x0_lines x0_changes x0_coins x0_goods x0_works x0_years x0_gone x0_spent x0_at x0_token x0_from x0_figures x0_fault x0_numbers x0_statements x0_left x0_far x0_tons x0_way x0_steps x0_met x0_queue x0_totals, gridJ d r0_rows 8 40 x0_rows]) hK dX7_copy_215 rfl 0 5 rfl rfl ef59 rfl rfl ?_
                                    refine J_iinc (L' := [(6, .int (z45 + 1)), (0, .ref (h0 0)), (1, .int p1), (2, .int p2), (3, .int p3), (4, .int p4), (5, .int p5)]) (v := (z45 + 1)) hK dX7_copy_216 rfl 6 rfl rfl (by decide) rfl ?_
                                    refine J_goto hK dX7_copy_219 (n := 191) rfl ?_
                                    exact J_loc [1, 2, 3, 4, 5, 6, 0] rfl (ih44 (z45 + 1) f59 (lpc hs44 hr44))
                              exact J_loc [1, 2, 3, 4, 5, 6, 0] rfl (lo44 n (0) x0_moved hl44)
                            · have hf := iq hc178 hf
                              refine J_aload_n hK dX7_copy_181 rfl 0 rfl rfl ?_
                              refine J_bipush (v := (-2)) hK dX7_copy_182 rfl (by decide) ?_
                              obtain ⟨⟨v60, g61⟩, e62, hf⟩ := bs hf
                              have hf := un2 hf
                              refine J_callV (m' := 2) (ce' := 0) (sl' := 0) (gr := [gridJ d r0_rows 8 40 x0_rows]) (gs' := fun _ => [gMd d h0 a0_kept a0_tried a0_chosen r0_rows r0_line r0_good r0_work x0_shelf x0_rowSort x0_rowSize x0_moved x0_shown x0_tape x0_tapeSize g61 x0_lines x0_changes x0_coins x0_goods x0_works x0_years x0_gone x0_spent x0_at x0_token x0_from x0_figures x0_fault x0_numbers x0_statements x0_left x0_far x0_tons x0_way x0_steps x0_met x0_queue x0_totals, gridJ d r0_rows 8 40 x0_rows]) (st' := fun _ => [.int v60]) (st := []) hK dX7_copy_184 cv_RX7_94 iv_yX7_refuse (As := [.int (-2)]) (kX7_refuse _ d h0 r0_rows r0_line r0_good r0_work a0_kept a0_tried a0_chosen x0_shelf x0_rowSort x0_rowSize x0_rows x0_moved x0_shown x0_tape x0_tapeSize x0_refused x0_lines x0_line x0_changes x0_coins x0_goods x0_good x0_works x0_work x0_years x0_gone x0_spent x0_at x0_token x0_from x0_figures x0_fault x0_numbers x0_statements x0_left x0_far x0_tons x0_way x0_steps x0_met x0_queue x0_totals (-2) e62) rfl rfl (Nat.le_of_ble_eq_true rfl) (by decide) 0 0 rfl rfl rfl [0] [1] rfl rfl rfl rfl [1, 0] rfl (fun _ => rfl) (fun _ => rfl) rfl rfl rfl (fun _ => rfl) (fun _ => ?_)
                              obtain rfl := Option.some.inj hf
                              exact J_iret hK hR dX7_copy_187 () rfl (by decide) (by decide)
              · have hf := ip hc108 hf
                refine J_aload_n hK dX7_copy_111 rfl 0 rfl rfl ?_
                refine J_bipush (v := (-4)) hK dX7_copy_112 rfl (by decide) ?_
                obtain ⟨⟨v63, g64⟩, e65, hf⟩ := bs hf
                have hf := un2 hf
                refine J_callV (m' := 2) (ce' := 0) (sl' := 0) (gr := [gridJ d r0_rows 8 40 x0_rows]) (gs' := fun _ => [gMd d h0 a0_kept a0_tried a0_chosen r0_rows r0_line r0_good r0_work x0_shelf x0_rowSort x0_rowSize x0_moved x0_shown x0_tape x0_tapeSize g64 x0_lines x0_changes x0_coins x0_goods x0_works x0_years x0_gone x0_spent x0_at x0_token x0_from x0_figures x0_fault x0_numbers x0_statements x0_left x0_far x0_tons x0_way x0_steps x0_met x0_queue x0_totals, gridJ d r0_rows 8 40 x0_rows]) (st' := fun _ => [.int v63]) (st := []) hK dX7_copy_114 cv_RX7_94 iv_yX7_refuse (As := [.int (-4)]) (kX7_refuse _ d h0 r0_rows r0_line r0_good r0_work a0_kept a0_tried a0_chosen x0_shelf x0_rowSort x0_rowSize x0_rows x0_moved x0_shown x0_tape x0_tapeSize x0_refused x0_lines x0_line x0_changes x0_coins x0_goods x0_good x0_works x0_work x0_years x0_gone x0_spent x0_at x0_token x0_from x0_figures x0_fault x0_numbers x0_statements x0_left x0_far x0_tons x0_way x0_steps x0_met x0_queue x0_totals (-4) e65) rfl rfl (Nat.le_of_ble_eq_true rfl) (by decide) 0 0 rfl rfl rfl [0] [1] rfl rfl rfl rfl [1, 0] rfl (fun _ => rfl) (fun _ => rfl) rfl rfl rfl (fun _ => rfl) (fun _ => ?_)
                obtain rfl := Option.some.inj hf
                exact J_iret hK hR dX7_copy_117 () rfl (by decide) (by decide)
          refine J_icmp_ne (tg := 93) hK dX7_copy_58 rfl rfl (fun hc58 => ?_) (fun hc58 => ?_)
          · have hf := iq hc58 hf
            exact (j93  hf)
          · have hf := ip hc58 hf
            refine J_aload_n hK dX7_copy_61 rfl 0 rfl rfl ?_
            refine J_get hK fo_RX7_7 dX7_copy_62 rfl 0 0 rfl rfl rfl ?_
            refine J_iload_n hK dX7_copy_65 rfl 2 rfl rfl ?_
            obtain ⟨v66, ev66, hf⟩ := bs hf
            refine J_iald hK dX7_copy_66 rfl 0 1 rfl rfl ev66 ?_
            refine J_iconst (v := 1) hK dX7_copy_67 rfl (by decide) ?_
            refine J_icmp_ne (tg := 93) hK dX7_copy_68 rfl rfl (fun hc68 => ?_) (fun hc68 => ?_)
            · have hf := iq hc68 hf
              exact (j93  hf)
            · have hf := ip hc68 hf
              refine J_aload_n hK dX7_copy_71 rfl 0 rfl rfl ?_
              refine J_get hK fo_RX7_13 dX7_copy_72 rfl 0 0 rfl rfl rfl ?_
              refine J_iload_n hK dX7_copy_75 rfl 1 rfl rfl ?_
              obtain ⟨v67, ev67, hf⟩ := bs hf
              refine J_iald hK dX7_copy_76 rfl 0 2 rfl rfl ev67 ?_
              refine J_aload_n hK dX7_copy_77 rfl 0 rfl rfl ?_
              refine J_get hK fo_RX7_13 dX7_copy_78 rfl 0 0 rfl rfl rfl ?_
              refine J_iload_n hK dX7_copy_81 rfl 2 rfl rfl ?_
              obtain ⟨v68, ev68, hf⟩ := bs hf
              refine J_iald hK dX7_copy_82 rfl 0 2 rfl rfl ev68 ?_
              refine J_icmp_eq (tg := 93) hK dX7_copy_83 rfl rfl (fun hc83 => ?_) (fun hc83 => ?_)
              · have hf := ip hc83 hf
                exact (j93  hf)
              · have hf := iq hc83 hf
                refine J_aload_n hK dX7_copy_86 rfl 0 rfl rfl ?_
                refine J_bipush (v := (-3)) hK dX7_copy_87 rfl (by decide) ?_
                obtain ⟨⟨v69, g70⟩, e71, hf⟩ := bs hf
                have hf := un2 hf
                refine J_callV (m' := 2) (ce' := 0) (sl' := 0) (gr := [gridJ d r0_rows 8 40 x0_rows]) (gs' := fun _ => [gMd d h0 a0_kept a0_tried a0_chosen r0_rows r0_line r0_good r0_work x0_shelf x0_rowSort x0_rowSize x0_moved x0_shown x0_tape x0_tapeSize g70 x0_lines x0_changes x0_coins x0_goods x0_works x0_years x0_gone x0_spent x0_at x0_token x0_from x0_figures x0_fault x0_numbers x0_statements x0_left x0_far x0_tons x0_way x0_steps x0_met x0_queue x0_totals, gridJ d r0_rows 8 40 x0_rows]) (st' := fun _ => [.int v69]) (st := []) hK dX7_copy_89 cv_RX7_94 iv_yX7_refuse (As := [.int (-3)]) (kX7_refuse _ d h0 r0_rows r0_line r0_good r0_work a0_kept a0_tried a0_chosen x0_shelf x0_rowSort x0_rowSize x0_rows x0_moved x0_shown x0_tape x0_tapeSize x0_refused x0_lines x0_line x0_changes x0_coins x0_goods x0_good x0_works x0_work x0_years x0_gone x0_spent x0_at x0_token x0_from x0_figures x0_fault x0_numbers x0_statements x0_left x0_far x0_tons x0_way x0_steps x0_met x0_queue x0_totals (-3) e71) rfl rfl (Nat.le_of_ble_eq_true rfl) (by decide) 0 0 rfl rfl rfl [0] [1] rfl rfl rfl rfl [1, 0] rfl (fun _ => rfl) (fun _ => rfl) rfl rfl rfl (fun _ => rfl) (fun _ => ?_)
                obtain rfl := Option.some.inj hf
                exact J_iret hK hR dX7_copy_92 () rfl (by decide) (by decide)
    · have hf := ip hc21 hf
      refine J_aload_n hK dX7_copy_24 rfl 0 rfl rfl ?_
      refine J_bipush (v := (-2)) hK dX7_copy_25 rfl (by decide) ?_
      obtain ⟨⟨v72, g73⟩, e74, hf⟩ := bs hf
      have hf := un2 hf
      refine J_callV (m' := 2) (ce' := 0) (sl' := 0) (gr := [gridJ d r0_rows 8 40 x0_rows]) (gs' := fun _ => [gMd d h0 a0_kept a0_tried a0_chosen r0_rows r0_line r0_good r0_work x0_shelf x0_rowSort x0_rowSize x0_moved x0_shown x0_tape x0_tapeSize g73 x0_lines x0_changes x0_coins x0_goods x0_works x0_years x0_gone x0_spent x0_at x0_token x0_from x0_figures x0_fault x0_numbers x0_statements x0_left x0_far x0_tons x0_way x0_steps x0_met x0_queue x0_totals, gridJ d r0_rows 8 40 x0_rows]) (st' := fun _ => [.int v72]) (st := []) hK dX7_copy_27 cv_RX7_94 iv_yX7_refuse (As := [.int (-2)]) (kX7_refuse _ d h0 r0_rows r0_line r0_good r0_work a0_kept a0_tried a0_chosen x0_shelf x0_rowSort x0_rowSize x0_rows x0_moved x0_shown x0_tape x0_tapeSize x0_refused x0_lines x0_line x0_changes x0_coins x0_goods x0_good x0_works x0_work x0_years x0_gone x0_spent x0_at x0_token x0_from x0_figures x0_fault x0_numbers x0_statements x0_left x0_far x0_tons x0_way x0_steps x0_met x0_queue x0_totals (-2) e74) rfl rfl (Nat.le_of_ble_eq_true rfl) (by decide) 0 0 rfl rfl rfl [0] [1] rfl rfl rfl rfl [1, 0] rfl (fun _ => rfl) (fun _ => rfl) rfl rfl rfl (fun _ => rfl) (fun _ => ?_)
      obtain rfl := Option.some.inj hf
      exact J_iret hK hR dX7_copy_30 () rfl (by decide) (by decide)

def fX7_element (X0 : MdT) (p1 : Int32) (p2 : Int32) : Option (Int64) :=
  u35 (fun (x0_shelf : (Nat → Int32)) (x0_rowSort : (Nat → Int32)) (x0_rowSize : (Nat → Int32)) (x0_rows : (Nat → Nat → Int64)) (x0_moved : (Nat → Int64)) (x0_shown : (Nat → Int32)) (x0_tape : (Nat → Int32)) (x0_tapeSize : Int32) (x0_refused : (Nat → Int32)) (x0_lines : Int32) (x0_line : (Nat → Nat → Int32)) (x0_changes : (Nat → Int32)) (x0_coins : (Nat → Int32)) (x0_goods : Int32) (x0_good : (Nat → Nat → Int32)) (x0_works : Int32) (x0_work : (Nat → Nat → Int32)) (x0_years : Int32) (x0_gone : Int32) (x0_spent : Int32) (x0_at : Int32) (x0_token : Int32) (x0_from : Int32) (x0_figures : Int64) (x0_fault : Int32) (x0_numbers : (Nat → Int32)) (x0_statements : Int32) (x0_left : (Nat → Int32)) (x0_far : (Nat → Int32)) (x0_tons : Int32) (x0_way : (Nat → Int32)) (x0_steps : Int32) (x0_met : Int64) (x0_queue : (Nat → Int32)) (x0_totals : (Nat → Int32)) => (fX7_in ((p1).toInt64) (0 : Int64) (7 : Int64)).bind (fun v1 => if v1 = 0 then (some (0 : Int64)) else ((rd 8 x0_shelf p1).bind fun v3 => if v3 = 1 then ((rd 8 x0_rowSize p1).bind fun v4 => (fX7_in ((p2).toInt64) (0 : Int64) (((v4 - 1)).toInt64)).bind (fun v5 => if v5 = 0 then (some (0 : Int64)) else ((ck p1 8).bind fun q7 => (rd 40 (x0_rows q7) p2).bind fun v8 => some v8))) else (some (0 : Int64))))) X0
set_option maxHeartbeats 4000000 in
set_option maxRecDepth 100000 in
theorem kX7_element (l : Launch) (d : DT) (h0 : Nat → Nat) (r0_rows : Nat → Nat) (r0_line : Nat → Nat) (r0_good : Nat → Nat) (r0_work : Nat → Nat) (a0_kept : Option Nat) (a0_tried : Option Nat) (a0_chosen : Option Nat) (x0_shelf : (Nat → Int32)) (x0_rowSort : (Nat → Int32)) (x0_rowSize : (Nat → Int32)) (x0_rows : (Nat → Nat → Int64)) (x0_moved : (Nat → Int64)) (x0_shown : (Nat → Int32)) (x0_tape : (Nat → Int32)) (x0_tapeSize : Int32) (x0_refused : (Nat → Int32)) (x0_lines : Int32) (x0_line : (Nat → Nat → Int32)) (x0_changes : (Nat → Int32)) (x0_coins : (Nat → Int32)) (x0_goods : Int32) (x0_good : (Nat → Nat → Int32)) (x0_works : Int32) (x0_work : (Nat → Nat → Int32)) (x0_years : Int32) (x0_gone : Int32) (x0_spent : Int32) (x0_at : Int32) (x0_token : Int32) (x0_from : Int32) (x0_figures : Int64) (x0_fault : Int32) (x0_numbers : (Nat → Int32)) (x0_statements : Int32) (x0_left : (Nat → Int32)) (x0_far : (Nat → Int32)) (x0_tons : Int32) (x0_way : (Nat → Int32)) (x0_steps : Int32) (x0_met : Int64) (x0_queue : (Nat → Int32)) (x0_totals : (Nat → Int32)) (p1 : Int32) (p2 : Int32)  {out : Int64} (hf : fX7_element (x0_shelf, x0_rowSort, x0_rowSize, x0_rows, x0_moved, x0_shown, x0_tape, x0_tapeSize, x0_refused, x0_lines, x0_line, x0_changes, x0_coins, x0_goods, x0_good, x0_works, x0_work, x0_years, x0_gone, x0_spent, x0_at, x0_token, x0_from, x0_figures, x0_fault, x0_numbers, x0_statements, x0_left, x0_far, x0_tons, x0_way, x0_steps, x0_met, x0_queue, x0_totals) p1 p2 = some out) : Ct l d yX7_element cX7_element 3 (some .long) { frames := 1, cells := 0, slots := 0, locals := 25 } [.ref (h0 0), .int p1, .int p2] [gMd d h0 a0_kept a0_tried a0_chosen r0_rows r0_line r0_good r0_work x0_shelf x0_rowSort x0_rowSize x0_moved x0_shown x0_tape x0_tapeSize x0_refused x0_lines x0_changes x0_coins x0_goods x0_works x0_years x0_gone x0_spent x0_at x0_token x0_from x0_figures x0_fault x0_numbers x0_statements x0_left x0_far x0_tons x0_way x0_steps x0_met x0_queue x0_totals, gridJ d r0_rows 8 40 x0_rows] (fun _ : Unit => (some (.long out), [gMd d h0 a0_kept a0_tried a0_chosen r0_rows r0_line r0_good r0_work x0_shelf x0_rowSort x0_rowSize x0_moved x0_shown x0_tape x0_tapeSize x0_refused x0_lines x0_changes x0_coins x0_goods x0_works x0_years x0_gone x0_spent x0_at x0_token x0_from x0_figures x0_fault x0_numbers x0_statements x0_left x0_far x0_tons x0_way x0_steps x0_met x0_queue x0_totals, gridJ d r0_rows 8 40 x0_rows])) := by
  refine Ct.of (by decide) (Nat.le_of_ble_eq_true rfl) ?_
  intro Φ hl hK hR
  subst hl
  have hK : Ok d Φ RX7 "element" cX7_element 3 (some .long) { frames := 1, cells := 0, slots := 0, locals := 25 } := hK
  unfold fX7_element at hf
  have hf := un35 hf
  show J d Φ 3 [gMd d h0 a0_kept a0_tried a0_chosen r0_rows r0_line r0_good r0_work x0_shelf x0_rowSort x0_rowSize x0_moved x0_shown x0_tape x0_tapeSize x0_refused x0_lines x0_changes x0_coins x0_goods x0_works x0_years x0_gone x0_spent x0_at x0_token x0_from x0_figures x0_fault x0_numbers x0_statements x0_left x0_far x0_tons x0_way x0_steps x0_met x0_queue x0_totals, gridJ d r0_rows 8 40 x0_rows] 0 0 0 [(0, .ref (h0 0)), (1, .int p1), (2, .int p2)] []
  refine J_iload_n hK dX7_element_0 rfl 1 rfl rfl ?_
  refine J_i2l hK dX7_element_1 rfl ?_
  refine J_lconst (v := 0) hK dX7_element_2 rfl (by decide) ?_
  refine J_ldc2 (v := (7 : Int64)) hK dX7_element_3 rfl wk_RX7_88 ?_
  obtain ⟨v1, e2, hf⟩ := bs hf
  refine J_callS (m' := 2) (ce' := 0) (sl' := 0) (gr := [gMd d h0 a0_kept a0_tried a0_chosen r0_rows r0_line r0_good r0_work x0_shelf x0_rowSort x0_rowSize x0_moved x0_shown x0_tape x0_tapeSize x0_refused x0_lines x0_changes x0_coins x0_goods x0_works x0_years x0_gone x0_spent x0_at x0_token x0_from x0_figures x0_fault x0_numbers x0_statements x0_left x0_far x0_tons x0_way x0_steps x0_met x0_queue x0_totals, gridJ d r0_rows 8 40 x0_rows]) (gs' := fun _ => [gMd d h0 a0_kept a0_tried a0_chosen r0_rows r0_line r0_good r0_work x0_shelf x0_rowSort x0_rowSize x0_moved x0_shown x0_tape x0_tapeSize x0_refused x0_lines x0_changes x0_coins x0_goods x0_works x0_years x0_gone x0_spent x0_at x0_token x0_from x0_figures x0_fault x0_numbers x0_statements x0_left x0_far x0_tons x0_way x0_steps x0_met x0_queue x0_totals, gridJ d r0_rows 8 40 x0_rows]) (st' := fun _ => [.int v1]) (st := []) hK dX7_element_6 cv_RX7_78 ws_yX7_in (As := [.long ((p1).toInt64), .long (0 : Int64), .long (7 : Int64)]) (kX7_in _ d ((p1).toInt64) (0 : Int64) (7 : Int64) e2) rfl rfl (Nat.le_of_ble_eq_true rfl) (by decide) [] [0, 1] rfl rfl rfl rfl [0, 1] rfl (fun _ => rfl) (fun _ => rfl) rfl rfl rfl (fun _ => rfl) (fun _ => ?_)
  refine J_if_eq (tg := 51) hK dX7_element_9 rfl rfl (fun hc9 => ?_) (fun hc9 => ?_)
  · have hf := ip hc9 hf
    refine J_lconst (v := 0) hK dX7_element_51 rfl (by decide) ?_
    obtain rfl := Option.some.inj hf
    exact J_lret hK hR dX7_element_52 () rfl (by decide) (by decide)
  · have hf := iq hc9 hf
    refine J_aload_n hK dX7_element_12 rfl 0 rfl rfl ?_
    refine J_get hK fo_RX7_7 dX7_element_13 rfl 0 0 rfl rfl rfl ?_
    refine J_iload_n hK dX7_element_16 rfl 1 rfl rfl ?_
    obtain ⟨v3, ev3, hf⟩ := bs hf
    refine J_iald hK dX7_element_17 rfl 0 1 rfl rfl ev3 ?_
    refine J_iconst (v := 1) hK dX7_element_18 rfl (by decide) ?_
    refine J_icmp_ne (tg := 51) hK dX7_element_19 rfl rfl (fun hc19 => ?_) (fun hc19 => ?_)
    · have hf := iq hc19 hf
      refine J_lconst (v := 0) hK dX7_element_51 rfl (by decide) ?_
      obtain rfl := Option.some.inj hf
      exact J_lret hK hR dX7_element_52 () rfl (by decide) (by decide)
    · have hf := ip hc19 hf
      refine J_iload_n hK dX7_element_22 rfl 2 rfl rfl ?_
      refine J_i2l hK dX7_element_23 rfl ?_
      refine J_lconst (v := 0) hK dX7_element_24 rfl (by decide) ?_
      refine J_aload_n hK dX7_element_25 rfl 0 rfl rfl ?_
      refine J_get hK fo_RX7_16 dX7_element_26 rfl 0 0 rfl rfl rfl ?_
      refine J_iload_n hK dX7_element_29 rfl 1 rfl rfl ?_
      obtain ⟨v4, ev4, hf⟩ := bs hf
      refine J_iald hK dX7_element_30 rfl 0 3 rfl rfl ev4 ?_
      refine J_iconst (v := 1) hK dX7_element_31 rfl (by decide) ?_
      refine J_isub hK dX7_element_32 rfl ?_
      refine J_i2l hK dX7_element_33 rfl ?_
      obtain ⟨v5, e6, hf⟩ := bs hf
      refine J_callS (m' := 2) (ce' := 0) (sl' := 0) (gr := [gMd d h0 a0_kept a0_tried a0_chosen r0_rows r0_line r0_good r0_work x0_shelf x0_rowSort x0_rowSize x0_moved x0_shown x0_tape x0_tapeSize x0_refused x0_lines x0_changes x0_coins x0_goods x0_works x0_years x0_gone x0_spent x0_at x0_token x0_from x0_figures x0_fault x0_numbers x0_statements x0_left x0_far x0_tons x0_way x0_steps x0_met x0_queue x0_totals, gridJ d r0_rows 8 40 x0_rows]) (gs' := fun _ => [gMd d h0 a0_kept a0_tried a0_chosen r0_rows r0_line r0_good r0_work x0_shelf x0_rowSort x0_rowSize x0_moved x0_shown x0_tape x0_tapeSize x0_refused x0_lines x0_changes x0_coins x0_goods x0_works x0_years x0_gone x0_spent x0_at x0_token x0_from x0_figures x0_fault x0_numbers x0_statements x0_left x0_far x0_tons x0_way x0_steps x0_met x0_queue x0_totals, gridJ d r0_rows 8 40 x0_rows]) (st' := fun _ => [.int v5]) (st := []) hK dX7_element_34 cv_RX7_78 ws_yX7_in (As := [.long ((p2).toInt64), .long (0 : Int64), .long (((v4 - 1)).toInt64)]) (kX7_in _ d ((p2).toInt64) (0 : Int64) (((v4 - 1)).toInt64) e6) rfl rfl (Nat.le_of_ble_eq_true rfl) (by decide) [] [0, 1] rfl rfl rfl rfl [0, 1] rfl (fun _ => rfl) (fun _ => rfl) rfl rfl rfl (fun _ => rfl) (fun _ => ?_)
      refine J_if_eq (tg := 51) hK dX7_element_37 rfl rfl (fun hc37 => ?_) (fun hc37 => ?_)
      · have hf := ip hc37 hf
        refine J_lconst (v := 0) hK dX7_element_51 rfl (by decide) ?_
        obtain rfl := Option.some.inj hf
        exact J_lret hK hR dX7_element_52 () rfl (by decide) (by decide)
      · have hf := iq hc37 hf
        refine J_aload_n hK dX7_element_40 rfl 0 rfl rfl ?_
        refine J_get hK fo_RX7_21 dX7_element_41 rfl 0 0 rfl rfl rfl ?_
        refine J_iload_n hK dX7_element_44 rfl 1 rfl rfl ?_
        obtain ⟨q7, eq7, hf⟩ := bs hf
        refine J_aald hK dX7_element_45 rfl 0 4 rfl rfl rfl eq7 ?_
        refine J_iload_n hK dX7_element_46 rfl 2 rfl rfl ?_
        obtain ⟨v8, ev8, hf⟩ := bs hf
        refine J_lald hK dX7_element_47 rfl 1 q7 rfl (gridJ_at (ck_ok eq7).2.2) ev8 ?_
        refine J_goto hK dX7_element_48 (n := 52) rfl ?_
        obtain rfl := Option.some.inj hf
        exact J_lret hK hR dX7_element_52 () rfl (by decide) (by decide)

def fX7_holds (X0 : MdT) (p1 : Int32) : Option (Int32) :=
  u35 (fun (x0_shelf : (Nat → Int32)) (x0_rowSort : (Nat → Int32)) (x0_rowSize : (Nat → Int32)) (x0_rows : (Nat → Nat → Int64)) (x0_moved : (Nat → Int64)) (x0_shown : (Nat → Int32)) (x0_tape : (Nat → Int32)) (x0_tapeSize : Int32) (x0_refused : (Nat → Int32)) (x0_lines : Int32) (x0_line : (Nat → Nat → Int32)) (x0_changes : (Nat → Int32)) (x0_coins : (Nat → Int32)) (x0_goods : Int32) (x0_good : (Nat → Nat → Int32)) (x0_works : Int32) (x0_work : (Nat → Nat → Int32)) (x0_years : Int32) (x0_gone : Int32) (x0_spent : Int32) (x0_at : Int32) (x0_token : Int32) (x0_from : Int32) (x0_figures : Int64) (x0_fault : Int32) (x0_numbers : (Nat → Int32)) (x0_statements : Int32) (x0_left : (Nat → Int32)) (x0_far : (Nat → Int32)) (x0_tons : Int32) (x0_way : (Nat → Int32)) (x0_steps : Int32) (x0_met : Int64) (x0_queue : (Nat → Int32)) (x0_totals : (Nat → Int32)) => (fX7_in ((p1).toInt64) (0 : Int64) (7 : Int64)).bind (fun v1 => if v1 = 0 then (some (-1)) else ((rd 8 x0_shelf p1).bind fun v3 => if v3 = 0 then (some (-1)) else ((rd 8 x0_shelf p1).bind fun v4 => if v4 = 1 then ((rd 8 x0_rowSort p1).bind fun v6 => some v6) else ((rd 8 x0_shown p1).bind fun v5 => some (10 + v5)))))) X0
set_option maxHeartbeats 4000000 in
set_option maxRecDepth 100000 in
theorem kX7_holds (l : Launch) (d : DT) (h0 : Nat → Nat) (r0_rows : Nat → Nat) (r0_line : Nat → Nat) (r0_good : Nat → Nat) (r0_work : Nat → Nat) (a0_kept : Option Nat) (a0_tried : Option Nat) (a0_chosen : Option Nat) (x0_shelf : (Nat → Int32)) (x0_rowSort : (Nat → Int32)) (x0_rowSize : (Nat → Int32)) (x0_rows : (Nat → Nat → Int64)) (x0_moved : (Nat → Int64)) (x0_shown : (Nat → Int32)) (x0_tape : (Nat → Int32)) (x0_tapeSize : Int32) (x0_refused : (Nat → Int32)) (x0_lines : Int32) (x0_line : (Nat → Nat → Int32)) (x0_changes : (Nat → Int32)) (x0_coins : (Nat → Int32)) (x0_goods : Int32) (x0_good : (Nat → Nat → Int32)) (x0_works : Int32) (x0_work : (Nat → Nat → Int32)) (x0_years : Int32) (x0_gone : Int32) (x0_spent : Int32) (x0_at : Int32) (x0_token : Int32) (x0_from : Int32) (x0_figures : Int64) (x0_fault : Int32) (x0_numbers : (Nat → Int32)) (x0_statements : Int32) (x0_left : (Nat → Int32)) (x0_far : (Nat → Int32)) (x0_tons : Int32) (x0_way : (Nat → Int32)) (x0_steps : Int32) (x0_met : Int64) (x0_queue : (Nat → Int32)) (x0_totals : (Nat → Int32)) (p1 : Int32)  {out : Int32} (hf : fX7_holds (x0_shelf, x0_rowSort, x0_rowSize, x0_rows, x0_moved, x0_shown, x0_tape, x0_tapeSize, x0_refused, x0_lines, x0_line, x0_changes, x0_coins, x0_goods, x0_good, x0_works, x0_work, x0_years, x0_gone, x0_spent, x0_at, x0_token, x0_from, x0_figures, x0_fault, x0_numbers, x0_statements, x0_left, x0_far, x0_tons, x0_way, x0_steps, x0_met, x0_queue, x0_totals) p1 = some out) : Ct l d yX7_holds cX7_holds 2 (some .int) { frames := 1, cells := 0, slots := 0, locals := 25 } [.ref (h0 0), .int p1] [gMd d h0 a0_kept a0_tried a0_chosen r0_rows r0_line r0_good r0_work x0_shelf x0_rowSort x0_rowSize x0_moved x0_shown x0_tape x0_tapeSize x0_refused x0_lines x0_changes x0_coins x0_goods x0_works x0_years x0_gone x0_spent x0_at x0_token x0_from x0_figures x0_fault x0_numbers x0_statements x0_left x0_far x0_tons x0_way x0_steps x0_met x0_queue x0_totals] (fun _ : Unit => (some (.int out), [gMd d h0 a0_kept a0_tried a0_chosen r0_rows r0_line r0_good r0_work x0_shelf x0_rowSort x0_rowSize x0_moved x0_shown x0_tape x0_tapeSize x0_refused x0_lines x0_changes x0_coins x0_goods x0_works x0_years x0_gone x0_spent x0_at x0_token x0_from x0_figures x0_fault x0_numbers x0_statements x0_left x0_far x0_tons x0_way x0_steps x0_met x0_queue x0_totals])) := by
  refine Ct.of (by decide) (Nat.le_of_ble_eq_true rfl) ?_
  intro Φ hl hK hR
  subst hl
  have hK : Ok d Φ RX7 "holds" cX7_holds 2 (some .int) { frames := 1, cells := 0, slots := 0, locals := 25 } := hK
  unfold fX7_holds at hf
  have hf := un35 hf
  show J d Φ 2 [gMd d h0 a0_kept a0_tried a0_chosen r0_rows r0_line r0_good r0_work x0_shelf x0_rowSort x0_rowSize x0_moved x0_shown x0_tape x0_tapeSize x0_refused x0_lines x0_changes x0_coins x0_goods x0_works x0_years x0_gone x0_spent x0_at x0_token x0_from x0_figures x0_fault x0_numbers x0_statements x0_left x0_far x0_tons x0_way x0_steps x0_met x0_queue x0_totals] 0 0 0 [(0, .ref (h0 0)), (1, .int p1)] []
  refine J_iload_n hK dX7_holds_0 rfl 1 rfl rfl ?_
  refine J_i2l hK dX7_holds_1 rfl ?_
  refine J_lconst (v := 0) hK dX7_holds_2 rfl (by decide) ?_
  refine J_ldc2 (v := (7 : Int64)) hK dX7_holds_3 rfl wk_RX7_88 ?_
  obtain ⟨v1, e2, hf⟩ := bs hf
  refine J_callS (m' := 1) (ce' := 0) (sl' := 0) (gr := [gMd d h0 a0_kept a0_tried a0_chosen r0_rows r0_line r0_good r0_work x0_shelf x0_rowSort x0_rowSize x0_moved x0_shown x0_tape x0_tapeSize x0_refused x0_lines x0_changes x0_coins x0_goods x0_works x0_years x0_gone x0_spent x0_at x0_token x0_from x0_figures x0_fault x0_numbers x0_statements x0_left x0_far x0_tons x0_way x0_steps x0_met x0_queue x0_totals]) (gs' := fun _ => [gMd d h0 a0_kept a0_tried a0_chosen r0_rows r0_line r0_good r0_work x0_shelf x0_rowSort x0_rowSize x0_moved x0_shown x0_tape x0_tapeSize x0_refused x0_lines x0_changes x0_coins x0_goods x0_works x0_years x0_gone x0_spent x0_at x0_token x0_from x0_figures x0_fault x0_numbers x0_statements x0_left x0_far x0_tons x0_way x0_steps x0_met x0_queue x0_totals]) (st' := fun _ => [.int v1]) (st := []) hK dX7_holds_6 cv_RX7_78 ws_yX7_in (As := [.long ((p1).toInt64), .long (0 : Int64), .long (7 : Int64)]) (kX7_in _ d ((p1).toInt64) (0 : Int64) (7 : Int64) e2) rfl rfl (Nat.le_of_ble_eq_true rfl) (by decide) [] [0] rfl rfl rfl rfl [0] rfl (fun _ => rfl) (fun _ => rfl) rfl rfl rfl (fun _ => rfl) (fun _ => ?_)
  refine J_if_eq (tg := 21) hK dX7_holds_9 rfl rfl (fun hc9 => ?_) (fun hc9 => ?_)
  · have hf := ip hc9 hf
    refine J_iconst (v := (-1)) hK dX7_holds_21 rfl (by decide) ?_
    obtain rfl := Option.some.inj hf
    exact J_iret hK hR dX7_holds_22 () rfl (by decide) (by decide)
  · have hf := iq hc9 hf
    refine J_aload_n hK dX7_holds_12 rfl 0 rfl rfl ?_
    refine J_get hK fo_RX7_7 dX7_holds_13 rfl 0 0 rfl rfl rfl ?_
    refine J_iload_n hK dX7_holds_16 rfl 1 rfl rfl ?_
    obtain ⟨v3, ev3, hf⟩ := bs hf
    refine J_iald hK dX7_holds_17 rfl 0 1 rfl rfl ev3 ?_
    refine J_if_ne (tg := 23) hK dX7_holds_18 rfl rfl (fun hc18 => ?_) (fun hc18 => ?_)
    · have hf := iq hc18 hf
      refine J_aload_n hK dX7_holds_23 rfl 0 rfl rfl ?_
      refine J_get hK fo_RX7_7 dX7_holds_24 rfl 0 0 rfl rfl rfl ?_
      refine J_iload_n hK dX7_holds_27 rfl 1 rfl rfl ?_
      obtain ⟨v4, ev4, hf⟩ := bs hf
      refine J_iald hK dX7_holds_28 rfl 0 1 rfl rfl ev4 ?_
      refine J_iconst (v := 1) hK dX7_holds_29 rfl (by decide) ?_
      refine J_icmp_ne (tg := 42) hK dX7_holds_30 rfl rfl (fun hc30 => ?_) (fun hc30 => ?_)
      · have hf := iq hc30 hf
        refine J_bipush (v := 10) hK dX7_holds_42 rfl (by decide) ?_
        refine J_aload_n hK dX7_holds_44 rfl 0 rfl rfl ?_
        refine J_get hK fo_RX7_28 dX7_holds_45 rfl 0 0 rfl rfl rfl ?_
        refine J_iload_n hK dX7_holds_48 rfl 1 rfl rfl ?_
        obtain ⟨v5, ev5, hf⟩ := bs hf
        refine J_iald hK dX7_holds_49 rfl 0 6 rfl rfl ev5 ?_
        refine J_iadd hK dX7_holds_50 rfl ?_
        obtain rfl := Option.some.inj hf
        exact J_iret hK hR dX7_holds_51 () rfl (by decide) (by decide)
      · have hf := ip hc30 hf
        refine J_aload_n hK dX7_holds_33 rfl 0 rfl rfl ?_
        refine J_get hK fo_RX7_13 dX7_holds_34 rfl 0 0 rfl rfl rfl ?_
        refine J_iload_n hK dX7_holds_37 rfl 1 rfl rfl ?_
        obtain ⟨v6, ev6, hf⟩ := bs hf
        refine J_iald hK dX7_holds_38 rfl 0 2 rfl rfl ev6 ?_
        refine J_goto hK dX7_holds_39 (n := 51) rfl ?_
        obtain rfl := Option.some.inj hf
        exact J_iret hK hR dX7_holds_51 () rfl (by decide) (by decide)
    · have hf := ip hc18 hf
      refine J_iconst (v := (-1)) hK dX7_holds_21 rfl (by decide) ?_
      obtain rfl := Option.some.inj hf
      exact J_iret hK hR dX7_holds_22 () rfl (by decide) (by decide)

def fX7_show_j47 (p1 : Int32) (p2 : Int32) (x0_shelf : (Nat → Int32)) (x0_shown : (Nat → Int32)) (x0_refused : (Nat → Int32)) (y6 : Int32) : Option (Int32 × (Nat → Int32) × (Nat → Int32) × (Nat → Int32)) :=
  (wr 8 x0_shelf p1 y6).bind fun f7 => (wr 8 x0_shown p1 p2).bind fun f8 => some (1, f7, f8, x0_refused)
def fX7_show_j32 (p1 : Int32) (p2 : Int32) (x0_shelf : (Nat → Int32)) (x0_shown : (Nat → Int32)) (x0_refused : (Nat → Int32)) : Option (Int32 × (Nat → Int32) × (Nat → Int32) × (Nat → Int32)) :=
  if p2 = (-1) then (fX7_show_j47 p1 p2 x0_shelf x0_shown x0_refused (0)) else (fX7_show_j47 p1 p2 x0_shelf x0_shown x0_refused (2))
def fX7_show (X0 : MdT) (p1 : Int32) (p2 : Int32) : Option (Int32 × (Nat → Int32) × (Nat → Int32) × (Nat → Int32)) :=
  u35 (fun (x0_shelf : (Nat → Int32)) (x0_rowSort : (Nat → Int32)) (x0_rowSize : (Nat → Int32)) (x0_rows : (Nat → Nat → Int64)) (x0_moved : (Nat → Int64)) (x0_shown : (Nat → Int32)) (x0_tape : (Nat → Int32)) (x0_tapeSize : Int32) (x0_refused : (Nat → Int32)) (x0_lines : Int32) (x0_line : (Nat → Nat → Int32)) (x0_changes : (Nat → Int32)) (x0_coins : (Nat → Int32)) (x0_goods : Int32) (x0_good : (Nat → Nat → Int32)) (x0_works : Int32) (x0_work : (Nat → Nat → Int32)) (x0_years : Int32) (x0_gone : Int32) (x0_spent : Int32) (x0_at : Int32) (x0_token : Int32) (x0_from : Int32) (x0_figures : Int64) (x0_fault : Int32) (x0_numbers : (Nat → Int32)) (x0_statements : Int32) (x0_left : (Nat → Int32)) (x0_far : (Nat → Int32)) (x0_tons : Int32) (x0_way : (Nat → Int32)) (x0_steps : Int32) (x0_met : Int64) (x0_queue : (Nat → Int32)) (x0_totals : (Nat → Int32)) => (fX7_in ((p1).toInt64) (0 : Int64) (7 : Int64)).bind (fun v1 => if v1 = 0 then ((fX7_refuse (x0_shelf, x0_rowSort, x0_rowSize, x0_rows, x0_moved, x0_shown, x0_tape, x0_tapeSize, x0_refused, x0_lines, x0_line, x0_changes, x0_coins, x0_goods, x0_good, x0_works, x0_work, x0_years, x0_gone, x0_spent, x0_at, x0_token, x0_from, x0_figures, x0_fault, x0_numbers, x0_statements, x0_left, x0_far, x0_tons, x0_way, x0_steps, x0_met, x0_queue, x0_totals) (-2)).bind (u2 fun v3 g4 => some (v3, x0_shelf, x0_shown, g4))) else (if p2 = (-1) then (fX7_show_j32 p1 p2 x0_shelf x0_shown x0_refused) else ((fX7_isWork (x0_shelf, x0_rowSort, x0_rowSize, x0_rows, x0_moved, x0_shown, x0_tape, x0_tapeSize, x0_refused, x0_lines, x0_line, x0_changes, x0_coins, x0_goods, x0_good, x0_works, x0_work, x0_years, x0_gone, x0_spent, x0_at, x0_token, x0_from, x0_figures, x0_fault, x0_numbers, x0_statements, x0_left, x0_far, x0_tons, x0_way, x0_steps, x0_met, x0_queue, x0_totals) p2).bind (fun v9 => if v9 = 0 then ((fX7_refuse (x0_shelf, x0_rowSort, x0_rowSize, x0_rows, x0_moved, x0_shown, x0_tape, x0_tapeSize, x0_refused, x0_lines, x0_line, x0_changes, x0_coins, x0_goods, x0_good, x0_works, x0_work, x0_years, x0_gone, x0_spent, x0_at, x0_token, x0_from, x0_figures, x0_fault, x0_numbers, x0_statements, x0_left, x0_far, x0_tons, x0_way, x0_steps, x0_met, x0_queue, x0_totals) (-2)).bind (u2 fun v11 g12 => some (v11, x0_shelf, x0_shown, g12))) else (fX7_show_j32 p1 p2 x0_shelf x0_shown x0_refused)))))) X0
set_option maxHeartbeats 4000000 in
set_option maxRecDepth 100000 in
theorem kX7_show (l : Launch) (d : DT) (h0 : Nat → Nat) (r0_rows : Nat → Nat) (r0_line : Nat → Nat) (r0_good : Nat → Nat) (r0_work : Nat → Nat) (a0_kept : Option Nat) (a0_tried : Option Nat) (a0_chosen : Option Nat) (x0_shelf : (Nat → Int32)) (x0_rowSort : (Nat → Int32)) (x0_rowSize : (Nat → Int32)) (x0_rows : (Nat → Nat → Int64)) (x0_moved : (Nat → Int64)) (x0_shown : (Nat → Int32)) (x0_tape : (Nat → Int32)) (x0_tapeSize : Int32) (x0_refused : (Nat → Int32)) (x0_lines : Int32) (x0_line : (Nat → Nat → Int32)) (x0_changes : (Nat → Int32)) (x0_coins : (Nat → Int32)) (x0_goods : Int32) (x0_good : (Nat → Nat → Int32)) (x0_works : Int32) (x0_work : (Nat → Nat → Int32)) (x0_years : Int32) (x0_gone : Int32) (x0_spent : Int32) (x0_at : Int32) (x0_token : Int32) (x0_from : Int32) (x0_figures : Int64) (x0_fault : Int32) (x0_numbers : (Nat → Int32)) (x0_statements : Int32) (x0_left : (Nat → Int32)) (x0_far : (Nat → Int32)) (x0_tons : Int32) (x0_way : (Nat → Int32)) (x0_steps : Int32) (x0_met : Int64) (x0_queue : (Nat → Int32)) (x0_totals : (Nat → Int32)) (p1 : Int32) (p2 : Int32)  {out : Int32 × (Nat → Int32) × (Nat → Int32) × (Nat → Int32)} (hf : fX7_show (x0_shelf, x0_rowSort, x0_rowSize, x0_rows, x0_moved, x0_shown, x0_tape, x0_tapeSize, x0_refused, x0_lines, x0_line, x0_changes, x0_coins, x0_goods, x0_good, x0_works, x0_work, x0_years, x0_gone, x0_spent, x0_at, x0_token, x0_from, x0_figures, x0_fault, x0_numbers, x0_statements, x0_left, x0_far, x0_tons, x0_way, x0_steps, x0_met, x0_queue, x0_totals) p1 p2 = some out) : Ct l d yX7_show cX7_show 3 (some .int) { frames := 2, cells := 0, slots := 0, locals := 46 } [.ref (h0 0), .int p1, .int p2] [gMd d h0 a0_kept a0_tried a0_chosen r0_rows r0_line r0_good r0_work x0_shelf x0_rowSort x0_rowSize x0_moved x0_shown x0_tape x0_tapeSize x0_refused x0_lines x0_changes x0_coins x0_goods x0_works x0_years x0_gone x0_spent x0_at x0_token x0_from x0_figures x0_fault x0_numbers x0_statements x0_left x0_far x0_tons x0_way x0_steps x0_met x0_queue x0_totals] (fun _ : Unit => (some (.int out.1), [gMd d h0 a0_kept a0_tried a0_chosen r0_rows r0_line r0_good r0_work (out.2.1) x0_rowSort x0_rowSize x0_moved (out.2.2.1) x0_tape x0_tapeSize (out.2.2.2) x0_lines x0_changes x0_coins x0_goods x0_works x0_years x0_gone x0_spent x0_at x0_token x0_from x0_figures x0_fault x0_numbers x0_statements x0_left x0_far x0_tons x0_way x0_steps x0_met x0_queue x0_totals])) := by
  refine Ct.of (by decide) (Nat.le_of_ble_eq_true rfl) ?_
  intro Φ hl hK hR
  subst hl
  have hK : Ok d Φ RX7 "show" cX7_show 3 (some .int) { frames := 2, cells := 0, slots := 0, locals := 46 } := hK
  unfold fX7_show at hf
  have hf := un35 hf
  show J d Φ 3 [gMd d h0 a0_kept a0_tried a0_chosen r0_rows r0_line r0_good r0_work x0_shelf x0_rowSort x0_rowSize x0_moved x0_shown x0_tape x0_tapeSize x0_refused x0_lines x0_changes x0_coins x0_goods x0_works x0_years x0_gone x0_spent x0_at x0_token x0_from x0_figures x0_fault x0_numbers x0_statements x0_left x0_far x0_tons x0_way x0_steps x0_met x0_queue x0_totals] 0 0 0 [(0, .ref (h0 0)), (1, .int p1), (2, .int p2)] []
  refine J_iload_n hK dX7_show_0 rfl 1 rfl rfl ?_
  refine J_i2l hK dX7_show_1 rfl ?_
  refine J_lconst (v := 0) hK dX7_show_2 rfl (by decide) ?_
  refine J_ldc2 (v := (7 : Int64)) hK dX7_show_3 rfl wk_RX7_88 ?_
  obtain ⟨v1, e2, hf⟩ := bs hf
  refine J_callS (m' := 1) (ce' := 0) (sl' := 0) (gr := [gMd d h0 a0_kept a0_tried a0_chosen r0_rows r0_line r0_good r0_work x0_shelf x0_rowSort x0_rowSize x0_moved x0_shown x0_tape x0_tapeSize x0_refused x0_lines x0_changes x0_coins x0_goods x0_works x0_years x0_gone x0_spent x0_at x0_token x0_from x0_figures x0_fault x0_numbers x0_statements x0_left x0_far x0_tons x0_way x0_steps x0_met x0_queue x0_totals]) (gs' := fun _ => [gMd d h0 a0_kept a0_tried a0_chosen r0_rows r0_line r0_good r0_work x0_shelf x0_rowSort x0_rowSize x0_moved x0_shown x0_tape x0_tapeSize x0_refused x0_lines x0_changes x0_coins x0_goods x0_works x0_years x0_gone x0_spent x0_at x0_token x0_from x0_figures x0_fault x0_numbers x0_statements x0_left x0_far x0_tons x0_way x0_steps x0_met x0_queue x0_totals]) (st' := fun _ => [.int v1]) (st := []) hK dX7_show_6 cv_RX7_78 ws_yX7_in (As := [.long ((p1).toInt64), .long (0 : Int64), .long (7 : Int64)]) (kX7_in _ d ((p1).toInt64) (0 : Int64) (7 : Int64) e2) rfl rfl (Nat.le_of_ble_eq_true rfl) (by decide) [] [0] rfl rfl rfl rfl [0] rfl (fun _ => rfl) (fun _ => rfl) rfl rfl rfl (fun _ => rfl) (fun _ => ?_)
  refine J_if_eq (tg := 25) hK dX7_show_9 rfl rfl (fun hc9 => ?_) (fun hc9 => ?_)
  · have hf := ip hc9 hf
    refine J_aload_n hK dX7_show_25 rfl 0 rfl rfl ?_
    refine J_bipush (v := (-2)) hK dX7_show_26 rfl (by decide) ?_
    obtain ⟨⟨v3, g4⟩, e5, hf⟩ := bs hf
    have hf := un2 hf
    refine J_callV (m' := 1) (ce' := 0) (sl' := 0) (gr := []) (gs' := fun _ => [gMd d h0 a0_kept a0_tried a0_chosen r0_rows r0_line r0_good r0_work x0_shelf x0_rowSort x0_rowSize x0_moved x0_shown x0_tape x0_tapeSize g4 x0_lines x0_changes x0_coins x0_goods x0_works x0_years x0_gone x0_spent x0_at x0_token x0_from x0_figures x0_fault x0_numbers x0_statements x0_left x0_far x0_tons x0_way x0_steps x0_met x0_queue x0_totals]) (st' := fun _ => [.int v3]) (st := []) hK dX7_show_28 cv_RX7_94 iv_yX7_refuse (As := [.int (-2)]) (kX7_refuse _ d h0 r0_rows r0_line r0_good r0_work a0_kept a0_tried a0_chosen x0_shelf x0_rowSort x0_rowSize x0_rows x0_moved x0_shown x0_tape x0_tapeSize x0_refused x0_lines x0_line x0_changes x0_coins x0_goods x0_good x0_works x0_work x0_years x0_gone x0_spent x0_at x0_token x0_from x0_figures x0_fault x0_numbers x0_statements x0_left x0_far x0_tons x0_way x0_steps x0_met x0_queue x0_totals (-2) e5) rfl rfl (Nat.le_of_ble_eq_true rfl) (by decide) 0 0 rfl rfl rfl [0] [] rfl rfl rfl rfl [0] rfl (fun _ => rfl) (fun _ => rfl) rfl rfl rfl (fun _ => rfl) (fun _ => ?_)
    obtain rfl := Option.some.inj hf
    exact J_iret hK hR dX7_show_31 () rfl (by decide) (by decide)
  · have hf := iq hc9 hf
    refine J_iload_n hK dX7_show_12 rfl 2 rfl rfl ?_
    refine J_iconst (v := (-1)) hK dX7_show_13 rfl (by decide) ?_
    have j32 : fX7_show_j32 p1 p2 x0_shelf x0_shown x0_refused = some out → J d Φ 3 [gMd d h0 a0_kept a0_tried a0_chosen r0_rows r0_line r0_good r0_work x0_shelf x0_rowSort x0_rowSize x0_moved x0_shown x0_tape x0_tapeSize x0_refused x0_lines x0_changes x0_coins x0_goods x0_works x0_years x0_gone x0_spent x0_at x0_token x0_from x0_figures x0_fault x0_numbers x0_statements x0_left x0_far x0_tons x0_way x0_steps x0_met x0_queue x0_totals] 0 0 32 [(0, .ref (h0 0)), (1, .int p1), (2, .int p2)] [] := by
      intro  hf
      unfold fX7_show_j32 at hf
      refine J_aload_n hK dX7_show_32 rfl 0 rfl rfl ?_
      refine J_get hK fo_RX7_7 dX7_show_33 rfl 0 0 rfl rfl rfl ?_
      refine J_iload_n hK dX7_show_36 rfl 1 rfl rfl ?_
      refine J_iload_n hK dX7_show_37 rfl 2 rfl rfl ?_
      refine J_iconst (v := (-1)) hK dX7_show_38 rfl (by decide) ?_
      have j47 : ∀ (y6 : Int32), fX7_show_j47 p1 p2 x0_shelf x0_shown x0_refused y6 = some out → J d Φ 3 [gMd d h0 a0_kept a0_tried a0_chosen r0_rows r0_line r0_good r0_work x0_shelf x0_rowSort x0_rowSize x0_moved x0_shown x0_tape x0_tapeSize x0_refused x0_lines x0_changes x0_coins x0_goods x0_works x0_years x0_gone x0_spent x0_at x0_token x0_from x0_figures x0_fault x0_numbers x0_statements x0_left x0_far x0_tons x0_way x0_steps x0_met x0_queue x0_totals] 0 0 47 [(0, .ref (h0 0)), (1, .int p1), (2, .int p2)] [.int y6, .int p1, .ref (h0 1)] := by
        intro y6 hf
        unfold fX7_show_j47 at hf
        obtain ⟨f7, ef7, hf⟩ := bs hf
        refine J_iast (g' := gMd d h0 a0_kept a0_tried a0_chosen r0_rows r0_line r0_good r0_work f7 x0_rowSort x0_rowSize x0_moved x0_shown x0_tape x0_tapeSize x0_refused x0_lines x0_changes x0_coins x0_goods x0_works x0_years x0_gone x0_spent x0_at x0_token x0_from x0_figures x0_fault x0_numbers x0_statements x0_left x0_far x0_tons x0_way x0_steps x0_met x0_queue x0_totals) (gs' := [gMd d h0 a0_kept a0_tried a0_chosen r0_rows r0_line r0_good r0_work f7 x0_rowSort x0_rowSize x0_moved x0_shown x0_tape x0_tapeSize x0_refused x0_lines x0_changes x0_coins x0_goods x0_works x0_years x0_gone x0_spent x0_at x0_token x0_from x0_figures x0_fault x0_numbers x0_statements x0_left x0_far x0_tons x0_way x0_steps x0_met x0_queue x0_totals]) hK dX7_show_47 rfl 0 1 rfl rfl ef7 rfl rfl ?_
        refine J_aload_n hK dX7_show_48 rfl 0 rfl rfl ?_
        refine J_get hK fo_RX7_28 dX7_show_49 rfl 0 0 rfl rfl rfl ?_
        refine J_iload_n hK dX7_show_52 rfl 1 rfl rfl ?_
        refine J_iload_n hK dX7_show_53 rfl 2 rfl rfl ?_
        obtain ⟨f8, ef8, hf⟩ := bs hf
        refine J_iast (g' := gMd d h0 a0_kept a0_tried a0_chosen r0_rows r0_line r0_good r0_work f7 x0_rowSort x0_rowSize x0_moved f8 x0_tape x0_tapeSize x0_refused x0_lines x0_changes x0_coins x0_goods x0_works x0_years x0_gone x0_spent x0_at x0_token x0_from x0_figures x0_fault x0_numbers x0_statements x0_left x0_far x0_tons x0_way x0_steps x0_met x0_queue x0_totals) (gs' := [gMd d h0 a0_kept a0_tried a0_chosen r0_rows r0_line r0_good r0_work f7 x0_rowSort x0_rowSize x0_moved f8 x0_tape x0_tapeSize x0_refused x0_lines x0_changes x0_coins x0_goods x0_works x0_years x0_gone x0_spent x0_at x0_token x0_from x0_figures x0_fault x0_numbers x0_statements x0_left x0_far x0_tons x0_way x0_steps x0_met x0_queue x0_totals]) hK dX7_show_54 rfl 0 6 rfl rfl ef8 rfl rfl ?_
        refine J_iconst (v := 1) hK dX7_show_55 rfl (by decide) ?_
        obtain rfl := Option.some.inj hf
        exact J_iret hK hR dX7_show_56 () rfl (by decide) (by decide)
      refine J_icmp_ne (tg := 46) hK dX7_show_39 rfl rfl (fun hc39 => ?_) (fun hc39 => ?_)
      · have hf := iq hc39 hf
        refine J_iconst (v := 2) hK dX7_show_46 rfl (by decide) ?_
        exact (j47 (2) hf)
      · have hf := ip hc39 hf
        refine J_iconst (v := 0) hK dX7_show_42 rfl (by decide) ?_
        refine J_goto hK dX7_show_43 (n := 47) rfl ?_
        exact (j47 (0) hf)
    refine J_icmp_eq (tg := 32) hK dX7_show_14 rfl rfl (fun hc14 => ?_) (fun hc14 => ?_)
    · have hf := ip hc14 hf
      exact (j32  hf)
    · have hf := iq hc14 hf
      refine J_aload_n hK dX7_show_17 rfl 0 rfl rfl ?_
      refine J_iload_n hK dX7_show_18 rfl 2 rfl rfl ?_
      obtain ⟨v9, e10, hf⟩ := bs hf
      refine J_callV (m' := 1) (ce' := 0) (sl' := 0) (gr := []) (gs' := fun _ => [gMd d h0 a0_kept a0_tried a0_chosen r0_rows r0_line r0_good r0_work x0_shelf x0_rowSort x0_rowSize x0_moved x0_shown x0_tape x0_tapeSize x0_refused x0_lines x0_changes x0_coins x0_goods x0_works x0_years x0_gone x0_spent x0_at x0_token x0_from x0_figures x0_fault x0_numbers x0_statements x0_left x0_far x0_tons x0_way x0_steps x0_met x0_queue x0_totals]) (st' := fun _ => [.int v9]) (st := []) hK dX7_show_19 cv_RX7_102 iv_yX7_isWork (As := [.int p2]) (kX7_isWork _ d h0 r0_rows r0_line r0_good r0_work a0_kept a0_tried a0_chosen x0_shelf x0_rowSort x0_rowSize x0_rows x0_moved x0_shown x0_tape x0_tapeSize x0_refused x0_lines x0_line x0_changes x0_coins x0_goods x0_good x0_works x0_work x0_years x0_gone x0_spent x0_at x0_token x0_from x0_figures x0_fault x0_numbers x0_statements x0_left x0_far x0_tons x0_way x0_steps x0_met x0_queue x0_totals p2 e10) rfl rfl (Nat.le_of_ble_eq_true rfl) (by decide) 0 0 rfl rfl rfl [0] [] rfl rfl rfl rfl [0] rfl (fun _ => rfl) (fun _ => rfl) rfl rfl rfl (fun _ => rfl) (fun _ => ?_)
      refine J_if_ne (tg := 32) hK dX7_show_22 rfl rfl (fun hc22 => ?_) (fun hc22 => ?_)
      · have hf := iq hc22 hf
        exact (j32  hf)
      · have hf := ip hc22 hf
        refine J_aload_n hK dX7_show_25 rfl 0 rfl rfl ?_
        refine J_bipush (v := (-2)) hK dX7_show_26 rfl (by decide) ?_
        obtain ⟨⟨v11, g12⟩, e13, hf⟩ := bs hf
        have hf := un2 hf
        refine J_callV (m' := 1) (ce' := 0) (sl' := 0) (gr := []) (gs' := fun _ => [gMd d h0 a0_kept a0_tried a0_chosen r0_rows r0_line r0_good r0_work x0_shelf x0_rowSort x0_rowSize x0_moved x0_shown x0_tape x0_tapeSize g12 x0_lines x0_changes x0_coins x0_goods x0_works x0_years x0_gone x0_spent x0_at x0_token x0_from x0_figures x0_fault x0_numbers x0_statements x0_left x0_far x0_tons x0_way x0_steps x0_met x0_queue x0_totals]) (st' := fun _ => [.int v11]) (st := []) hK dX7_show_28 cv_RX7_94 iv_yX7_refuse (As := [.int (-2)]) (kX7_refuse _ d h0 r0_rows r0_line r0_good r0_work a0_kept a0_tried a0_chosen x0_shelf x0_rowSort x0_rowSize x0_rows x0_moved x0_shown x0_tape x0_tapeSize x0_refused x0_lines x0_line x0_changes x0_coins x0_goods x0_good x0_works x0_work x0_years x0_gone x0_spent x0_at x0_token x0_from x0_figures x0_fault x0_numbers x0_statements x0_left x0_far x0_tons x0_way x0_steps x0_met x0_queue x0_totals (-2) e13) rfl rfl (Nat.le_of_ble_eq_true rfl) (by decide) 0 0 rfl rfl rfl [0] [] rfl rfl rfl rfl [0] rfl (fun _ => rfl) (fun _ => rfl) rfl rfl rfl (fun _ => rfl) (fun _ => ?_)
        obtain rfl := Option.some.inj hf
        exact J_iret hK hR dX7_show_31 () rfl (by decide) (by decide)

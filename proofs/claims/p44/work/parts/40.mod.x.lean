section
def fX7_refuse (X0 : MdT) (p1 : Int32) : Option (Int32 × (Nat → Int32)) :=
  u35 (fun (x0_shelf : (Nat → Int32)) (x0_rowSort : (Nat → Int32)) (x0_rowSize : (Nat → Int32)) (x0_rows : (Nat → Nat → Int64)) (x0_moved : (Nat → Int64)) (x0_shown : (Nat → Int32)) (x0_tape : (Nat → Int32)) (x0_tapeSize : Int32) (x0_refused : (Nat → Int32)) (x0_lines : Int32) (x0_line : (Nat → Nat → Int32)) (x0_changes : (Nat → Int32)) (x0_coins : (Nat → Int32)) (x0_goods : Int32) (x0_good : (Nat → Nat → Int32)) (x0_works : Int32) (x0_work : (Nat → Nat → Int32)) (x0_years : Int32) (x0_gone : Int32) (x0_spent : Int32) (x0_at : Int32) (x0_token : Int32) (x0_from : Int32) (x0_figures : Int64) (x0_fault : Int32) (x0_numbers : (Nat → Int32)) (x0_statements : Int32) (x0_left : (Nat → Int32)) (x0_far : (Nat → Int32)) (x0_tons : Int32) (x0_way : (Nat → Int32)) (x0_steps : Int32) (x0_met : Int64) (x0_queue : (Nat → Int32)) (x0_totals : (Nat → Int32)) => (rd 8 x0_refused (-p1)).bind fun v1 => (wr 8 x0_refused (-p1) (v1 + 1)).bind fun f2 => some (p1, f2)) X0
set_option maxHeartbeats 4000000 in
set_option maxRecDepth 100000 in
theorem kX7_refuse (l : Launch) (d : DT) (h0 : Nat → Nat) (r0_rows : Nat → Nat) (r0_line : Nat → Nat) (r0_good : Nat → Nat) (r0_work : Nat → Nat) (a0_kept : Option Nat) (a0_tried : Option Nat) (a0_chosen : Option Nat) (x0_shelf : (Nat → Int32)) (x0_rowSort : (Nat → Int32)) (x0_rowSize : (Nat → Int32)) (x0_rows : (Nat → Nat → Int64)) (x0_moved : (Nat → Int64)) (x0_shown : (Nat → Int32)) (x0_tape : (Nat → Int32)) (x0_tapeSize : Int32) (x0_refused : (Nat → Int32)) (x0_lines : Int32) (x0_line : (Nat → Nat → Int32)) (x0_changes : (Nat → Int32)) (x0_coins : (Nat → Int32)) (x0_goods : Int32) (x0_good : (Nat → Nat → Int32)) (x0_works : Int32) (x0_work : (Nat → Nat → Int32)) (x0_years : Int32) (x0_gone : Int32) (x0_spent : Int32) (x0_at : Int32) (x0_token : Int32) (x0_from : Int32) (x0_figures : Int64) (x0_fault : Int32) (x0_numbers : (Nat → Int32)) (x0_statements : Int32) (x0_left : (Nat → Int32)) (x0_far : (Nat → Int32)) (x0_tons : Int32) (x0_way : (Nat → Int32)) (x0_steps : Int32) (x0_met : Int64) (x0_queue : (Nat → Int32)) (x0_totals : (Nat → Int32)) (p1 : Int32)  {out : Int32 × (Nat → Int32)} (hf : fX7_refuse (x0_shelf, x0_rowSort, x0_rowSize, x0_rows, x0_moved, x0_shown, x0_tape, x0_tapeSize, x0_refused, x0_lines, x0_line, x0_changes, x0_coins, x0_goods, x0_good, x0_works, x0_work, x0_years, x0_gone, x0_spent, x0_at, x0_token, x0_from, x0_figures, x0_fault, x0_numbers, x0_statements, x0_left, x0_far, x0_tons, x0_way, x0_steps, x0_met, x0_queue, x0_totals) p1 = some out) : Ct l d yX7_refuse cX7_refuse 2 (some .int) { frames := 0, cells := 0, slots := 0, locals := 0 } [.ref (h0 0), .int p1] [gMd d h0 a0_kept a0_tried a0_chosen r0_rows r0_line r0_good r0_work x0_shelf x0_rowSort x0_rowSize x0_moved x0_shown x0_tape x0_tapeSize x0_refused x0_lines x0_changes x0_coins x0_goods x0_works x0_years x0_gone x0_spent x0_at x0_token x0_from x0_figures x0_fault x0_numbers x0_statements x0_left x0_far x0_tons x0_way x0_steps x0_met x0_queue x0_totals] (fun _ : Unit => (some (.int out.1), [gMd d h0 a0_kept a0_tried a0_chosen r0_rows r0_line r0_good r0_work x0_shelf x0_rowSort x0_rowSize x0_moved x0_shown x0_tape x0_tapeSize (out.2) x0_lines x0_changes x0_coins x0_goods x0_works x0_years x0_gone x0_spent x0_at x0_token x0_from x0_figures x0_fault x0_numbers x0_statements x0_left x0_far x0_tons x0_way x0_steps x0_met x0_queue x0_totals])) := by
  refine Ct.of (by decide) (Nat.le_of_ble_eq_true rfl) ?_
  intro Φ hl hK hR
  subst hl
  have hK : Ok d Φ RX7 "refuse" cX7_refuse 2 (some .int) { frames := 0, cells := 0, slots := 0, locals := 0 } := hK
  unfold fX7_refuse at hf
  have hf := un35 hf
  show J d Φ 2 [gMd d h0 a0_kept a0_tried a0_chosen r0_rows r0_line r0_good r0_work x0_shelf x0_rowSort x0_rowSize x0_moved x0_shown x0_tape x0_tapeSize x0_refused x0_lines x0_changes x0_coins x0_goods x0_works x0_years x0_gone x0_spent x0_at x0_token x0_from x0_figures x0_fault x0_numbers x0_statements x0_left x0_far x0_tons x0_way x0_steps x0_met x0_queue x0_totals] 0 0 0 [(0, .ref (h0 0)), (1, .int p1)] []
  refine J_aload_n hK qd2_115.1 rfl 0 rfl rfl ?_
  refine J_get hK fo_RX7_34 qd2_115.2.1 rfl 0 0 rfl rfl rfl ?_
  refine J_iload_n hK qd2_115.2.2.1 rfl 1 rfl rfl ?_
  refine J_ineg hK qd2_115.2.2.2.1 rfl ?_
  refine J_dup2 hK qd2_115.2.2.2.2.1 rfl rfl rfl ?_
  obtain ⟨v1, ev1, hf⟩ := bs hf
  refine J_iald hK qd2_115.2.2.2.2.2.1 rfl 0 8 rfl rfl ev1 ?_
  refine J_iconst (v := 1) hK qd2_115.2.2.2.2.2.2.1 rfl (by decide) ?_
  refine J_iadd hK qd2_115.2.2.2.2.2.2.2.1 rfl ?_
  obtain ⟨f2, ef2, hf⟩ := bs hf
  refine J_iast (g' := gMd d h0 a0_kept a0_tried a0_chosen r0_rows r0_line r0_good r0_work x0_shelf x0_rowSort x0_rowSize x0_moved x0_shown x0_tape x0_tapeSize f2 x0_lines x0_changes x0_coins x0_goods x0_works x0_years x0_gone x0_spent x0_at x0_token x0_from x0_figures x0_fault x0_numbers x0_statements x0_left x0_far x0_tons x0_way x0_steps x0_met x0_queue x0_totals) (gs' := [gMd d h0 a0_kept a0_tried a0_chosen r0_rows r0_line r0_good r0_work x0_shelf x0_rowSort x0_rowSize x0_moved x0_shown x0_tape x0_tapeSize f2 x0_lines x0_changes x0_coins x0_goods x0_works x0_years x0_gone x0_spent x0_at x0_token x0_from x0_figures x0_fault x0_numbers x0_statements x0_left x0_far x0_tons x0_way x0_steps x0_met x0_queue x0_totals]) hK qd2_115.2.2.2.2.2.2.2.2.1 rfl 0 8 rfl rfl ef2 rfl rfl ?_
  refine J_iload_n hK qd2_115.2.2.2.2.2.2.2.2.2.1 rfl 1 rfl rfl ?_
  obtain rfl := Option.some.inj hf
  exact J_iret hK hR qd2_115.2.2.2.2.2.2.2.2.2.2.1 () rfl (by decide) (by decide)

def fX7_in (p0 : Int64) (p1 : Int64) (p2 : Int64) : Option (Int32) :=
  if (lg_cmp p0 p1) < 0 then (some (0)) else (if 0 < (lg_cmp p0 p2) then (some (0)) else (some (1)))
set_option maxHeartbeats 4000000 in
set_option maxRecDepth 100000 in
theorem kX7_in (l : Launch) (d : DT)  (p0 : Int64) (p1 : Int64) (p2 : Int64)  {out : Int32} (hf : fX7_in p0 p1 p2 = some out) : Ct l d yX7_in cX7_in 6 (some .boolean) { frames := 0, cells := 0, slots := 0, locals := 0 } [.long p0, .long p1, .long p2] [] (fun _ : Unit => (some (.int out), [])) := by
  refine Ct.of (by decide) (Nat.le_of_ble_eq_true rfl) ?_
  intro Φ hl hK hR
  subst hl
  have hK : Ok d Φ RX7 "in" cX7_in 6 (some .boolean) { frames := 0, cells := 0, slots := 0, locals := 0 } := hK
  unfold fX7_in at hf
  show J d Φ 6 [] 0 0 0 [(0, .long p0), (2, .long p1), (4, .long p2)] []
  refine J_lload_n hK qd2_116.1 rfl 0 rfl rfl ?_
  refine J_lload_n hK qd2_116.2.1 rfl 1 rfl rfl ?_
  refine J_lcmp hK qd2_116.2.2.1 rfl ?_
  refine J_if_lt (tg := 17) hK qd2_116.2.2.2.1 rfl rfl (fun hc3 => ?_) (fun hc3 => ?_)
  · have hf := ip hc3 hf
    refine J_iconst (v := 0) hK qd2_116.2.2.2.2.2.2.2.2.2.2.1 rfl (by decide) ?_
    obtain rfl := Option.some.inj hf
    exact J_zret hK hR qd2_116.2.2.2.2.2.2.2.2.2.2.2.1 () rfl rfl (by decide) (by decide)
  · have hf := iq hc3 hf
    refine J_lload_n hK qd2_116.2.2.2.2.1 rfl 0 rfl rfl ?_
    refine J_lload hK qd2_116.2.2.2.2.2.1 rfl 2 rfl ?_
    refine J_lcmp hK qd2_116.2.2.2.2.2.2.1 rfl ?_
    refine J_if_gt (tg := 17) hK qd2_116.2.2.2.2.2.2.2.1 rfl rfl (fun hc10 => ?_) (fun hc10 => ?_)
    · have hf := ip hc10 hf
      refine J_iconst (v := 0) hK qd2_116.2.2.2.2.2.2.2.2.2.2.1 rfl (by decide) ?_
      obtain rfl := Option.some.inj hf
      exact J_zret hK hR qd2_116.2.2.2.2.2.2.2.2.2.2.2.1 () rfl rfl (by decide) (by decide)
    · have hf := iq hc10 hf
      refine J_iconst (v := 1) hK qd2_116.2.2.2.2.2.2.2.2.1 rfl (by decide) ?_
      refine J_goto hK qd2_116.2.2.2.2.2.2.2.2.2.1 (n := 18) rfl ?_
      obtain rfl := Option.some.inj hf
      exact J_zret hK hR qd2_116.2.2.2.2.2.2.2.2.2.2.2.1 () rfl rfl (by decide) (by decide)

def fX7_isPlace (p0 : Int32) : Option (Int32) :=
  (fX7_in ((p0).toInt64) (0 : Int64) (11 : Int64)).bind (fun v1 => (zb v1).bind fun v3 => some v3)
set_option maxHeartbeats 4000000 in
set_option maxRecDepth 100000 in
theorem kX7_isPlace (l : Launch) (d : DT)  (p0 : Int32)  {out : Int32} (hf : fX7_isPlace p0 = some out) : Ct l d yX7_isPlace cX7_isPlace 1 (some .boolean) { frames := 1, cells := 0, slots := 0, locals := 25 } [.int p0] [] (fun _ : Unit => (some (.int out), [])) := by
  refine Ct.of (by decide) (Nat.le_of_ble_eq_true rfl) ?_
  intro Φ hl hK hR
  subst hl
  have hK : Ok d Φ RX7 "isPlace" cX7_isPlace 1 (some .boolean) { frames := 1, cells := 0, slots := 0, locals := 25 } := hK
  unfold fX7_isPlace at hf
  show J d Φ 1 [] 0 0 0 [(0, .int p0)] []
  refine J_iload_n hK qd2_117.1 rfl 0 rfl rfl ?_
  refine J_i2l hK qd2_117.2.1 rfl ?_
  refine J_lconst (v := 0) hK qd2_117.2.2.1 rfl (by decide) ?_
  refine J_ldc2 (v := (11 : Int64)) hK qd2_117.2.2.2.1 rfl wk_RX7_76 ?_
  obtain ⟨v1, e2, hf⟩ := bs hf
  refine J_callS (m := 0) (m' := 0) (ce' := 0) (sl' := 0) (gr := []) (gs' := fun _ => []) (st' := fun _ => [.int v1]) (st := []) hK qd2_117.2.2.2.2.1 cv_RX7_78 ws_yX7_in (As := [.long ((p0).toInt64), .long (0 : Int64), .long (11 : Int64)]) (kX7_in _ d ((p0).toInt64) (0 : Int64) (11 : Int64) e2) rfl rfl (Nat.le_of_ble_eq_true rfl) (by decide) [] [] rfl (by decide +kernel) rfl rfl [] (by decide +kernel) (fun _ => rfl) (fun _ => rfl) rfl rfl rfl (fun _ => rfl) (fun _ => ?_)
  obtain ⟨v3, ev3, hf⟩ := bs hf
  obtain rfl := Option.some.inj hf
  exact J_zret hK hR qd2_117.2.2.2.2.2.1 () (zb_ok ev3).2 (by rw [(zb_ok ev3).1]) (by decide) (by decide)

def fX7_isLine (X0 : MdT) (p1 : Int32) : Option (Int32) :=
  u35 (fun (x0_shelf : (Nat → Int32)) (x0_rowSort : (Nat → Int32)) (x0_rowSize : (Nat → Int32)) (x0_rows : (Nat → Nat → Int64)) (x0_moved : (Nat → Int64)) (x0_shown : (Nat → Int32)) (x0_tape : (Nat → Int32)) (x0_tapeSize : Int32) (x0_refused : (Nat → Int32)) (x0_lines : Int32) (x0_line : (Nat → Nat → Int32)) (x0_changes : (Nat → Int32)) (x0_coins : (Nat → Int32)) (x0_goods : Int32) (x0_good : (Nat → Nat → Int32)) (x0_works : Int32) (x0_work : (Nat → Nat → Int32)) (x0_years : Int32) (x0_gone : Int32) (x0_spent : Int32) (x0_at : Int32) (x0_token : Int32) (x0_from : Int32) (x0_figures : Int64) (x0_fault : Int32) (x0_numbers : (Nat → Int32)) (x0_statements : Int32) (x0_left : (Nat → Int32)) (x0_far : (Nat → Int32)) (x0_tons : Int32) (x0_way : (Nat → Int32)) (x0_steps : Int32) (x0_met : Int64) (x0_queue : (Nat → Int32)) (x0_totals : (Nat → Int32)) => (fX7_in ((p1).toInt64) (0 : Int64) (((x0_lines - 1)).toInt64)).bind (fun v1 => (zb v1).bind fun v3 => some v3)) X0
set_option maxHeartbeats 4000000 in
set_option maxRecDepth 100000 in
theorem kX7_isLine (l : Launch) (d : DT) (h0 : Nat → Nat) (r0_rows : Nat → Nat) (r0_line : Nat → Nat) (r0_good : Nat → Nat) (r0_work : Nat → Nat) (a0_kept : Option Nat) (a0_tried : Option Nat) (a0_chosen : Option Nat) (x0_shelf : (Nat → Int32)) (x0_rowSort : (Nat → Int32)) (x0_rowSize : (Nat → Int32)) (x0_rows : (Nat → Nat → Int64)) (x0_moved : (Nat → Int64)) (x0_shown : (Nat → Int32)) (x0_tape : (Nat → Int32)) (x0_tapeSize : Int32) (x0_refused : (Nat → Int32)) (x0_lines : Int32) (x0_line : (Nat → Nat → Int32)) (x0_changes : (Nat → Int32)) (x0_coins : (Nat → Int32)) (x0_goods : Int32) (x0_good : (Nat → Nat → Int32)) (x0_works : Int32) (x0_work : (Nat → Nat → Int32)) (x0_years : Int32) (x0_gone : Int32) (x0_spent : Int32) (x0_at : Int32) (x0_token : Int32) (x0_from : Int32) (x0_figures : Int64) (x0_fault : Int32) (x0_numbers : (Nat → Int32)) (x0_statements : Int32) (x0_left : (Nat → Int32)) (x0_far : (Nat → Int32)) (x0_tons : Int32) (x0_way : (Nat → Int32)) (x0_steps : Int32) (x0_met : Int64) (x0_queue : (Nat → Int32)) (x0_totals : (Nat → Int32)) (p1 : Int32)  {out : Int32} (hf : fX7_isLine (x0_shelf, x0_rowSort, x0_rowSize, x0_rows, x0_moved, x0_shown, x0_tape, x0_tapeSize, x0_refused, x0_lines, x0_line, x0_changes, x0_coins, x0_goods, x0_good, x0_works, x0_work, x0_years, x0_gone, x0_spent, x0_at, x0_token, x0_from, x0_figures, x0_fault, x0_numbers, x0_statements, x0_left, x0_far, x0_tons, x0_way, x0_steps, x0_met, x0_queue, x0_totals) p1 = some out) : Ct l d yX7_isLine cX7_isLine 2 (some .boolean) { frames := 1, cells := 0, slots := 0, locals := 25 } [.ref (h0 0), .int p1] [gMd d h0 a0_kept a0_tried a0_chosen r0_rows r0_line r0_good r0_work x0_shelf x0_rowSort x0_rowSize x0_moved x0_shown x0_tape x0_tapeSize x0_refused x0_lines x0_changes x0_coins x0_goods x0_works x0_years x0_gone x0_spent x0_at x0_token x0_from x0_figures x0_fault x0_numbers x0_statements x0_left x0_far x0_tons x0_way x0_steps x0_met x0_queue x0_totals] (fun _ : Unit => (some (.int out), [gMd d h0 a0_kept a0_tried a0_chosen r0_rows r0_line r0_good r0_work x0_shelf x0_rowSort x0_rowSize x0_moved x0_shown x0_tape x0_tapeSize x0_refused x0_lines x0_changes x0_coins x0_goods x0_works x0_years x0_gone x0_spent x0_at x0_token x0_from x0_figures x0_fault x0_numbers x0_statements x0_left x0_far x0_tons x0_way x0_steps x0_met x0_queue x0_totals])) := by
  refine Ct.of (by decide) (Nat.le_of_ble_eq_true rfl) ?_
  intro Φ hl hK hR
  subst hl
  have hK : Ok d Φ RX7 "isLine" cX7_isLine 2 (some .boolean) { frames := 1, cells := 0, slots := 0, locals := 25 } := hK
  unfold fX7_isLine at hf
  have hf := un35 hf
  show J d Φ 2 [gMd d h0 a0_kept a0_tried a0_chosen r0_rows r0_line r0_good r0_work x0_shelf x0_rowSort x0_rowSize x0_moved x0_shown x0_tape x0_tapeSize x0_refused x0_lines x0_changes x0_coins x0_goods x0_works x0_years x0_gone x0_spent x0_at x0_token x0_from x0_figures x0_fault x0_numbers x0_statements x0_left x0_far x0_tons x0_way x0_steps x0_met x0_queue x0_totals] 0 0 0 [(0, .ref (h0 0)), (1, .int p1)] []
  refine J_iload_n hK qd2_118.1 rfl 1 rfl rfl ?_
  refine J_i2l hK qd2_118.2.1 rfl ?_
  refine J_lconst (v := 0) hK qd2_118.2.2.1 rfl (by decide) ?_
  refine J_aload_n hK qd2_118.2.2.2.1 rfl 0 rfl rfl ?_
  refine J_get hK fo_RX7_82 qd2_118.2.2.2.2.1 rfl 0 0 rfl rfl rfl ?_
  refine J_iconst (v := 1) hK qd2_118.2.2.2.2.2.1 rfl (by decide) ?_
  refine J_isub hK qd2_118.2.2.2.2.2.2.1 rfl ?_
  refine J_i2l hK qd2_118.2.2.2.2.2.2.2.1 rfl ?_
  obtain ⟨v1, e2, hf⟩ := bs hf
  refine J_callS (m := 1) (m' := 1) (ce' := 0) (sl' := 0) (gr := [gMd d h0 a0_kept a0_tried a0_chosen r0_rows r0_line r0_good r0_work x0_shelf x0_rowSort x0_rowSize x0_moved x0_shown x0_tape x0_tapeSize x0_refused x0_lines x0_changes x0_coins x0_goods x0_works x0_years x0_gone x0_spent x0_at x0_token x0_from x0_figures x0_fault x0_numbers x0_statements x0_left x0_far x0_tons x0_way x0_steps x0_met x0_queue x0_totals]) (gs' := fun _ => [gMd d h0 a0_kept a0_tried a0_chosen r0_rows r0_line r0_good r0_work x0_shelf x0_rowSort x0_rowSize x0_moved x0_shown x0_tape x0_tapeSize x0_refused x0_lines x0_changes x0_coins x0_goods x0_works x0_years x0_gone x0_spent x0_at x0_token x0_from x0_figures x0_fault x0_numbers x0_statements x0_left x0_far x0_tons x0_way x0_steps x0_met x0_queue x0_totals]) (st' := fun _ => [.int v1]) (st := []) hK qd2_118.2.2.2.2.2.2.2.2.1 cv_RX7_78 ws_yX7_in (As := [.long ((p1).toInt64), .long (0 : Int64), .long (((x0_lines - 1)).toInt64)]) (kX7_in _ d ((p1).toInt64) (0 : Int64) (((x0_lines - 1)).toInt64) e2) rfl rfl (Nat.le_of_ble_eq_true rfl) (by decide) [] [0] rfl (by decide +kernel) rfl rfl [0] (by decide +kernel) (fun _ => rfl) (fun _ => rfl) rfl rfl rfl (fun _ => rfl) (fun _ => ?_)
  obtain ⟨v3, ev3, hf⟩ := bs hf
  obtain rfl := Option.some.inj hf
  exact J_zret hK hR qd2_118.2.2.2.2.2.2.2.2.2.1 () (zb_ok ev3).2 (by rw [(zb_ok ev3).1]) (by decide) (by decide)

def fX7_isWork (X0 : MdT) (p1 : Int32) : Option (Int32) :=
  u35 (fun (x0_shelf : (Nat → Int32)) (x0_rowSort : (Nat → Int32)) (x0_rowSize : (Nat → Int32)) (x0_rows : (Nat → Nat → Int64)) (x0_moved : (Nat → Int64)) (x0_shown : (Nat → Int32)) (x0_tape : (Nat → Int32)) (x0_tapeSize : Int32) (x0_refused : (Nat → Int32)) (x0_lines : Int32) (x0_line : (Nat → Nat → Int32)) (x0_changes : (Nat → Int32)) (x0_coins : (Nat → Int32)) (x0_goods : Int32) (x0_good : (Nat → Nat → Int32)) (x0_works : Int32) (x0_work : (Nat → Nat → Int32)) (x0_years : Int32) (x0_gone : Int32) (x0_spent : Int32) (x0_at : Int32) (x0_token : Int32) (x0_from : Int32) (x0_figures : Int64) (x0_fault : Int32) (x0_numbers : (Nat → Int32)) (x0_statements : Int32) (x0_left : (Nat → Int32)) (x0_far : (Nat → Int32)) (x0_tons : Int32) (x0_way : (Nat → Int32)) (x0_steps : Int32) (x0_met : Int64) (x0_queue : (Nat → Int32)) (x0_totals : (Nat → Int32)) => (fX7_in ((p1).toInt64) (0 : Int64) (((x0_works - 1)).toInt64)).bind (fun v1 => (zb v1).bind fun v3 => some v3)) X0
set_option maxHeartbeats 4000000 in
set_option maxRecDepth 100000 in
theorem kX7_isWork (l : Launch) (d : DT) (h0 : Nat → Nat) (r0_rows : Nat → Nat) (r0_line : Nat → Nat) (r0_good : Nat → Nat) (r0_work : Nat → Nat) (a0_kept : Option Nat) (a0_tried : Option Nat) (a0_chosen : Option Nat) (x0_shelf : (Nat → Int32)) (x0_rowSort : (Nat → Int32)) (x0_rowSize : (Nat → Int32)) (x0_rows : (Nat → Nat → Int64)) (x0_moved : (Nat → Int64)) (x0_shown : (Nat → Int32)) (x0_tape : (Nat → Int32)) (x0_tapeSize : Int32) (x0_refused : (Nat → Int32)) (x0_lines : Int32) (x0_line : (Nat → Nat → Int32)) (x0_changes : (Nat → Int32)) (x0_coins : (Nat → Int32)) (x0_goods : Int32) (x0_good : (Nat → Nat → Int32)) (x0_works : Int32) (x0_work : (Nat → Nat → Int32)) (x0_years : Int32) (x0_gone : Int32) (x0_spent : Int32) (x0_at : Int32) (x0_token : Int32) (x0_from : Int32) (x0_figures : Int64) (x0_fault : Int32) (x0_numbers : (Nat → Int32)) (x0_statements : Int32) (x0_left : (Nat → Int32)) (x0_far : (Nat → Int32)) (x0_tons : Int32) (x0_way : (Nat → Int32)) (x0_steps : Int32) (x0_met : Int64) (x0_queue : (Nat → Int32)) (x0_totals : (Nat → Int32)) (p1 : Int32)  {out : Int32} (hf : fX7_isWork (x0_shelf, x0_rowSort, x0_rowSize, x0_rows, x0_moved, x0_shown, x0_tape, x0_tapeSize, x0_refused, x0_lines, x0_line, x0_changes, x0_coins, x0_goods, x0_good, x0_works, x0_work, x0_years, x0_gone, x0_spent, x0_at, x0_token, x0_from, x0_figures, x0_fault, x0_numbers, x0_statements, x0_left, x0_far, x0_tons, x0_way, x0_steps, x0_met, x0_queue, x0_totals) p1 = some out) : Ct l d yX7_isWork cX7_isWork 2 (some .boolean) { frames := 1, cells := 0, slots := 0, locals := 25 } [.ref (h0 0), .int p1] [gMd d h0 a0_kept a0_tried a0_chosen r0_rows r0_line r0_good r0_work x0_shelf x0_rowSort x0_rowSize x0_moved x0_shown x0_tape x0_tapeSize x0_refused x0_lines x0_changes x0_coins x0_goods x0_works x0_years x0_gone x0_spent x0_at x0_token x0_from x0_figures x0_fault x0_numbers x0_statements x0_left x0_far x0_tons x0_way x0_steps x0_met x0_queue x0_totals] (fun _ : Unit => (some (.int out), [gMd d h0 a0_kept a0_tried a0_chosen r0_rows r0_line r0_good r0_work x0_shelf x0_rowSort x0_rowSize x0_moved x0_shown x0_tape x0_tapeSize x0_refused x0_lines x0_changes x0_coins x0_goods x0_works x0_years x0_gone x0_spent x0_at x0_token x0_from x0_figures x0_fault x0_numbers x0_statements x0_left x0_far x0_tons x0_way x0_steps x0_met x0_queue x0_totals])) := by
  refine Ct.of (by decide) (Nat.le_of_ble_eq_true rfl) ?_
  intro Φ hl hK hR
  subst hl
  have hK : Ok d Φ RX7 "isWork" cX7_isWork 2 (some .boolean) { frames := 1, cells := 0, slots := 0, locals := 25 } := hK
  unfold fX7_isWork at hf
  have hf := un35 hf
  show J d Φ 2 [gMd d h0 a0_kept a0_tried a0_chosen r0_rows r0_line r0_good r0_work x0_shelf x0_rowSort x0_rowSize x0_moved x0_shown x0_tape x0_tapeSize x0_refused x0_lines x0_changes x0_coins x0_goods x0_works x0_years x0_gone x0_spent x0_at x0_token x0_from x0_figures x0_fault x0_numbers x0_statements x0_left x0_far x0_tons x0_way x0_steps x0_met x0_queue x0_totals] 0 0 0 [(0, .ref (h0 0)), (1, .int p1)] []
  refine J_iload_n hK qd2_119.1 rfl 1 rfl rfl ?_
  refine J_i2l hK qd2_119.2.1 rfl ?_
  refine J_lconst (v := 0) hK qd2_119.2.2.1 rfl (by decide) ?_
  refine J_aload_n hK qd2_119.2.2.2.1 rfl 0 rfl rfl ?_
  refine J_get hK fo_RX7_85 qd2_119.2.2.2.2.1 rfl 0 0 rfl rfl rfl ?_
  refine J_iconst (v := 1) hK qd2_119.2.2.2.2.2.1 rfl (by decide) ?_
  refine J_isub hK qd2_119.2.2.2.2.2.2.1 rfl ?_
  refine J_i2l hK qd2_119.2.2.2.2.2.2.2.1 rfl ?_
  obtain ⟨v1, e2, hf⟩ := bs hf
  refine J_callS (m := 1) (m' := 1) (ce' := 0) (sl' := 0) (gr := [gMd d h0 a0_kept a0_tried a0_chosen r0_rows r0_line r0_good r0_work x0_shelf x0_rowSort x0_rowSize x0_moved x0_shown x0_tape x0_tapeSize x0_refused x0_lines x0_changes x0_coins x0_goods x0_works x0_years x0_gone x0_spent x0_at x0_token x0_from x0_figures x0_fault x0_numbers x0_statements x0_left x0_far x0_tons x0_way x0_steps x0_met x0_queue x0_totals]) (gs' := fun _ => [gMd d h0 a0_kept a0_tried a0_chosen r0_rows r0_line r0_good r0_work x0_shelf x0_rowSort x0_rowSize x0_moved x0_shown x0_tape x0_tapeSize x0_refused x0_lines x0_changes x0_coins x0_goods x0_works x0_years x0_gone x0_spent x0_at x0_token x0_from x0_figures x0_fault x0_numbers x0_statements x0_left x0_far x0_tons x0_way x0_steps x0_met x0_queue x0_totals]) (st' := fun _ => [.int v1]) (st := []) hK qd2_119.2.2.2.2.2.2.2.2.1 cv_RX7_78 ws_yX7_in (As := [.long ((p1).toInt64), .long (0 : Int64), .long (((x0_works - 1)).toInt64)]) (kX7_in _ d ((p1).toInt64) (0 : Int64) (((x0_works - 1)).toInt64) e2) rfl rfl (Nat.le_of_ble_eq_true rfl) (by decide) [] [0] rfl (by decide +kernel) rfl rfl [0] (by decide +kernel) (fun _ => rfl) (fun _ => rfl) rfl rfl rfl (fun _ => rfl) (fun _ => ?_)
  obtain ⟨v3, ev3, hf⟩ := bs hf
  obtain rfl := Option.some.inj hf
  exact J_zret hK hR qd2_119.2.2.2.2.2.2.2.2.2.1 () (zb_ok ev3).2 (by rw [(zb_ok ev3).1]) (by decide) (by decide)

def fX7_row_s67 (p1 : Int32) (z17 : Int32) (z18 : (Nat → Nat → Int64)) : Option ((Int32 × (Nat → Nat → Int64)) ⊕ ((Nat → Nat → Int64))) :=
  if 40 ≤ z17 then (some (.inr z18)) else ((ck p1 8).bind fun q21 => (wr 40 (z18 q21) z17 (0 : Int64)).bind fun f22 => some (.inl ((z17 + 1), (va_up z18 q21 f22))))
def fX7_row (n : Nat) (X0 : MdT) (p1 : Int32) (p2 : Int32) (p3 : Int32) : Option (Int32 × ((Nat → Int32) × (Nat → Int32) × (Nat → Int32) × (Nat → Nat → Int64) × (Nat → Int32))) :=
  u35 (fun (x0_shelf : (Nat → Int32)) (x0_rowSort : (Nat → Int32)) (x0_rowSize : (Nat → Int32)) (x0_rows : (Nat → Nat → Int64)) (x0_moved : (Nat → Int64)) (x0_shown : (Nat → Int32)) (x0_tape : (Nat → Int32)) (x0_tapeSize : Int32) (x0_refused : (Nat → Int32)) (x0_lines : Int32) (x0_line : (Nat → Nat → Int32)) (x0_changes : (Nat → Int32)) (x0_coins : (Nat → Int32)) (x0_goods : Int32) (x0_good : (Nat → Nat → Int32)) (x0_works : Int32) (x0_work : (Nat → Nat → Int32)) (x0_years : Int32) (x0_gone : Int32) (x0_spent : Int32) (x0_at : Int32) (x0_token : Int32) (x0_from : Int32) (x0_figures : Int64) (x0_fault : Int32) (x0_numbers : (Nat → Int32)) (x0_statements : Int32) (x0_left : (Nat → Int32)) (x0_far : (Nat → Int32)) (x0_tons : Int32) (x0_way : (Nat → Int32)) (x0_steps : Int32) (x0_met : Int64) (x0_queue : (Nat → Int32)) (x0_totals : (Nat → Int32)) => (fX7_in ((p1).toInt64) (0 : Int64) (7 : Int64)).bind (fun v1 => if v1 = 0 then ((fX7_refuse (x0_shelf, x0_rowSort, x0_rowSize, x0_rows, x0_moved, x0_shown, x0_tape, x0_tapeSize, x0_refused, x0_lines, x0_line, x0_changes, x0_coins, x0_goods, x0_good, x0_works, x0_work, x0_years, x0_gone, x0_spent, x0_at, x0_token, x0_from, x0_figures, x0_fault, x0_numbers, x0_statements, x0_left, x0_far, x0_tons, x0_way, x0_steps, x0_met, x0_queue, x0_totals) (-2)).bind (u2 fun v3 g4 => some (v3, (x0_shelf, x0_rowSort, x0_rowSize, x0_rows, g4)))) else ((fX7_in ((p2).toInt64) (0 : Int64) (4 : Int64)).bind (fun v6 => if v6 = 0 then ((fX7_refuse (x0_shelf, x0_rowSort, x0_rowSize, x0_rows, x0_moved, x0_shown, x0_tape, x0_tapeSize, x0_refused, x0_lines, x0_line, x0_changes, x0_coins, x0_goods, x0_good, x0_works, x0_work, x0_years, x0_gone, x0_spent, x0_at, x0_token, x0_from, x0_figures, x0_fault, x0_numbers, x0_statements, x0_left, x0_far, x0_tons, x0_way, x0_steps, x0_met, x0_queue, x0_totals) (-2)).bind (u2 fun v8 g9 => some (v8, (x0_shelf, x0_rowSort, x0_rowSize, x0_rows, g9)))) else ((fX7_in ((p3).toInt64) (0 : Int64) (40 : Int64)).bind (fun v11 => if v11 = 0 then ((fX7_refuse (x0_shelf, x0_rowSort, x0_rowSize, x0_rows, x0_moved, x0_shown, x0_tape, x0_tapeSize, x0_refused, x0_lines, x0_line, x0_changes, x0_coins, x0_goods, x0_good, x0_works, x0_work, x0_years, x0_gone, x0_spent, x0_at, x0_token, x0_from, x0_figures, x0_fault, x0_numbers, x0_statements, x0_left, x0_far, x0_tons, x0_way, x0_steps, x0_met, x0_queue, x0_totals) (-2)).bind (u2 fun v23 g24 => some (v23, (x0_shelf, x0_rowSort, x0_rowSize, x0_rows, g24)))) else ((wr 8 x0_shelf p1 (1)).bind fun f13 => (wr 8 x0_rowSort p1 p2).bind fun f14 => (wr 8 x0_rowSize p1 p3).bind fun f15 => (lp (u2 (fX7_row_s67 p1)) n (0, x0_rows)).bind (fun w20 => some (1, (f13, f14, f15, w20, x0_refused)))))))))) X0
set_option maxHeartbeats 4000000 in
set_option maxRecDepth 100000 in
theorem kX7_row (l : Launch) (d : DT) (h0 : Nat → Nat) (r0_rows : Nat → Nat) (r0_line : Nat → Nat) (r0_good : Nat → Nat) (r0_work : Nat → Nat) (a0_kept : Option Nat) (a0_tried : Option Nat) (a0_chosen : Option Nat) (n : Nat) (x0_shelf : (Nat → Int32)) (x0_rowSort : (Nat → Int32)) (x0_rowSize : (Nat → Int32)) (x0_rows : (Nat → Nat → Int64)) (x0_moved : (Nat → Int64)) (x0_shown : (Nat → Int32)) (x0_tape : (Nat → Int32)) (x0_tapeSize : Int32) (x0_refused : (Nat → Int32)) (x0_lines : Int32) (x0_line : (Nat → Nat → Int32)) (x0_changes : (Nat → Int32)) (x0_coins : (Nat → Int32)) (x0_goods : Int32) (x0_good : (Nat → Nat → Int32)) (x0_works : Int32) (x0_work : (Nat → Nat → Int32)) (x0_years : Int32) (x0_gone : Int32) (x0_spent : Int32) (x0_at : Int32) (x0_token : Int32) (x0_from : Int32) (x0_figures : Int64) (x0_fault : Int32) (x0_numbers : (Nat → Int32)) (x0_statements : Int32) (x0_left : (Nat → Int32)) (x0_far : (Nat → Int32)) (x0_tons : Int32) (x0_way : (Nat → Int32)) (x0_steps : Int32) (x0_met : Int64) (x0_queue : (Nat → Int32)) (x0_totals : (Nat → Int32)) (p1 : Int32) (p2 : Int32) (p3 : Int32)  {out : Int32 × ((Nat → Int32) × (Nat → Int32) × (Nat → Int32) × (Nat → Nat → Int64) × (Nat → Int32))} (hf : fX7_row n (x0_shelf, x0_rowSort, x0_rowSize, x0_rows, x0_moved, x0_shown, x0_tape, x0_tapeSize, x0_refused, x0_lines, x0_line, x0_changes, x0_coins, x0_goods, x0_good, x0_works, x0_work, x0_years, x0_gone, x0_spent, x0_at, x0_token, x0_from, x0_figures, x0_fault, x0_numbers, x0_statements, x0_left, x0_far, x0_tons, x0_way, x0_steps, x0_met, x0_queue, x0_totals) p1 p2 p3 = some out) : Ct l d yX7_row cX7_row 5 (some .int) { frames := 1, cells := 0, slots := 0, locals := 25 } [.ref (h0 0), .int p1, .int p2, .int p3] [gMd d h0 a0_kept a0_tried a0_chosen r0_rows r0_line r0_good r0_work x0_shelf x0_rowSort x0_rowSize x0_moved x0_shown x0_tape x0_tapeSize x0_refused x0_lines x0_changes x0_coins x0_goods x0_works x0_years x0_gone x0_spent x0_at x0_token x0_from x0_figures x0_fault x0_numbers x0_statements x0_left x0_far x0_tons x0_way x0_steps x0_met x0_queue x0_totals, gridJ d r0_rows 8 40 x0_rows] (fun _ : Unit => (some (.int out.1), [gMd d h0 a0_kept a0_tried a0_chosen r0_rows r0_line r0_good r0_work (out.2.1) (out.2.2.1) (out.2.2.2.1) x0_moved x0_shown x0_tape x0_tapeSize (out.2.2.2.2.2) x0_lines x0_changes x0_coins x0_goods x0_works x0_years x0_gone x0_spent x0_at x0_token x0_from x0_figures x0_fault x0_numbers x0_statements x0_left x0_far x0_tons x0_way x0_steps x0_met x0_queue x0_totals, gridJ d r0_rows 8 40 (out.2.2.2.2.1)])) := by
  refine Ct.of (by decide) (Nat.le_of_ble_eq_true rfl) ?_
  intro Φ hl hK hR
  subst hl
  have hK : Ok d Φ RX7 "row" cX7_row 5 (some .int) { frames := 1, cells := 0, slots := 0, locals := 25 } := hK
  unfold fX7_row at hf
  have hf := un35 hf
  show J d Φ 5 [gMd d h0 a0_kept a0_tried a0_chosen r0_rows r0_line r0_good r0_work x0_shelf x0_rowSort x0_rowSize x0_moved x0_shown x0_tape x0_tapeSize x0_refused x0_lines x0_changes x0_coins x0_goods x0_works x0_years x0_gone x0_spent x0_at x0_token x0_from x0_figures x0_fault x0_numbers x0_statements x0_left x0_far x0_tons x0_way x0_steps x0_met x0_queue x0_totals, gridJ d r0_rows 8 40 x0_rows] 0 0 0 [(0, .ref (h0 0)), (1, .int p1), (2, .int p2), (3, .int p3)] []
  refine J_iload_n hK qd2_120.1 rfl 1 rfl rfl ?_
  refine J_i2l hK qd2_120.2.1 rfl ?_
  refine J_lconst (v := 0) hK qd2_120.2.2.1 rfl (by decide) ?_
  refine J_ldc2 (v := (7 : Int64)) hK qd2_120.2.2.2.1 rfl wk_RX7_88 ?_
  obtain ⟨v1, e2, hf⟩ := bs hf
  refine J_callS (m := 2) (m' := 2) (ce' := 0) (sl' := 0) (gr := [gMd d h0 a0_kept a0_tried a0_chosen r0_rows r0_line r0_good r0_work x0_shelf x0_rowSort x0_rowSize x0_moved x0_shown x0_tape x0_tapeSize x0_refused x0_lines x0_changes x0_coins x0_goods x0_works x0_years x0_gone x0_spent x0_at x0_token x0_from x0_figures x0_fault x0_numbers x0_statements x0_left x0_far x0_tons x0_way x0_steps x0_met x0_queue x0_totals, gridJ d r0_rows 8 40 x0_rows]) (gs' := fun _ => [gMd d h0 a0_kept a0_tried a0_chosen r0_rows r0_line r0_good r0_work x0_shelf x0_rowSort x0_rowSize x0_moved x0_shown x0_tape x0_tapeSize x0_refused x0_lines x0_changes x0_coins x0_goods x0_works x0_years x0_gone x0_spent x0_at x0_token x0_from x0_figures x0_fault x0_numbers x0_statements x0_left x0_far x0_tons x0_way x0_steps x0_met x0_queue x0_totals, gridJ d r0_rows 8 40 x0_rows]) (st' := fun _ => [.int v1]) (st := []) hK qd2_120.2.2.2.2.1 cv_RX7_78 ws_yX7_in (As := [.long ((p1).toInt64), .long (0 : Int64), .long (7 : Int64)]) (kX7_in _ d ((p1).toInt64) (0 : Int64) (7 : Int64) e2) rfl rfl (Nat.le_of_ble_eq_true rfl) (by decide) [] [0, 1] rfl (by decide +kernel) rfl rfl [0, 1] (by decide +kernel) (fun _ => rfl) (fun _ => rfl) rfl rfl rfl (fun _ => rfl) (fun _ => ?_)
  refine J_if_eq (tg := 36) hK qd2_120.2.2.2.2.2.1 rfl rfl (fun hc9 => ?_) (fun hc9 => ?_)
  · have hf := ip hc9 hf
    refine J_aload_n hK qd2_121.2.2.1 rfl 0 rfl rfl ?_
    refine J_bipush (v := (-2)) hK qd2_121.2.2.2.1 rfl (by decide) ?_
    obtain ⟨⟨v3, g4⟩, e5, hf⟩ := bs hf
    have hf := un2 hf
    refine J_callV (m := 2) (m' := 2) (ce' := 0) (sl' := 0) (gr := [gridJ d r0_rows 8 40 x0_rows]) (gs' := fun _ => [gMd d h0 a0_kept a0_tried a0_chosen r0_rows r0_line r0_good r0_work x0_shelf x0_rowSort x0_rowSize x0_moved x0_shown x0_tape x0_tapeSize g4 x0_lines x0_changes x0_coins x0_goods x0_works x0_years x0_gone x0_spent x0_at x0_token x0_from x0_figures x0_fault x0_numbers x0_statements x0_left x0_far x0_tons x0_way x0_steps x0_met x0_queue x0_totals, gridJ d r0_rows 8 40 x0_rows]) (st' := fun _ => [.int v3]) (st := []) hK qd2_121.2.2.2.2.1 cv_RX7_94 iv_yX7_refuse (As := [.int (-2)]) (kX7_refuse _ d h0 r0_rows r0_line r0_good r0_work a0_kept a0_tried a0_chosen x0_shelf x0_rowSort x0_rowSize x0_rows x0_moved x0_shown x0_tape x0_tapeSize x0_refused x0_lines x0_line x0_changes x0_coins x0_goods x0_good x0_works x0_work x0_years x0_gone x0_spent x0_at x0_token x0_from x0_figures x0_fault x0_numbers x0_statements x0_left x0_far x0_tons x0_way x0_steps x0_met x0_queue x0_totals (-2) e5) rfl rfl (Nat.le_of_ble_eq_true rfl) (by decide) 0 0 rfl rfl rfl [0] [1] rfl (by decide +kernel) rfl rfl [1, 0] (by decide +kernel) (fun _ => rfl) (fun _ => rfl) rfl rfl rfl (fun _ => rfl) (fun _ => ?_)
    obtain rfl := Option.some.inj hf
    exact J_iret hK hR qd2_121.2.2.2.2.2.1 () rfl (by decide) (by decide)
  · have hf := iq hc9 hf
    refine J_iload_n hK qd2_120.2.2.2.2.2.2.1 rfl 2 rfl rfl ?_
    refine J_i2l hK qd2_120.2.2.2.2.2.2.2.1 rfl ?_
    refine J_lconst (v := 0) hK qd2_120.2.2.2.2.2.2.2.2.1 rfl (by decide) ?_
    refine J_ldc2 (v := (4 : Int64)) hK qd2_120.2.2.2.2.2.2.2.2.2.1 rfl wk_RX7_90 ?_
    obtain ⟨v6, e7, hf⟩ := bs hf
    refine J_callS (m := 2) (m' := 2) (ce' := 0) (sl' := 0) (gr := [gMd d h0 a0_kept a0_tried a0_chosen r0_rows r0_line r0_good r0_work x0_shelf x0_rowSort x0_rowSize x0_moved x0_shown x0_tape x0_tapeSize x0_refused x0_lines x0_changes x0_coins x0_goods x0_works x0_years x0_gone x0_spent x0_at x0_token x0_from x0_figures x0_fault x0_numbers x0_statements x0_left x0_far x0_tons x0_way x0_steps x0_met x0_queue x0_totals, gridJ d r0_rows 8 40 x0_rows]) (gs' := fun _ => [gMd d h0 a0_kept a0_tried a0_chosen r0_rows r0_line r0_good r0_work x0_shelf x0_rowSort x0_rowSize x0_moved x0_shown x0_tape x0_tapeSize x0_refused x0_lines x0_changes x0_coins x0_goods x0_works x0_years x0_gone x0_spent x0_at x0_token x0_from x0_figures x0_fault x0_numbers x0_statements x0_left x0_far x0_tons x0_way x0_steps x0_met x0_queue x0_totals, gridJ d r0_rows 8 40 x0_rows]) (st' := fun _ => [.int v6]) (st := []) hK qd2_120.2.2.2.2.2.2.2.2.2.2.1 cv_RX7_78 ws_yX7_in (As := [.long ((p2).toInt64), .long (0 : Int64), .long (4 : Int64)]) (kX7_in _ d ((p2).toInt64) (0 : Int64) (4 : Int64) e7) rfl rfl (Nat.le_of_ble_eq_true rfl) (by decide) [] [0, 1] rfl (by decide +kernel) rfl rfl [0, 1] (by decide +kernel) (fun _ => rfl) (fun _ => rfl) rfl rfl rfl (fun _ => rfl) (fun _ => ?_)
    refine J_if_eq (tg := 36) hK qd2_120.2.2.2.2.2.2.2.2.2.2.2.1 rfl rfl (fun hc21 => ?_) (fun hc21 => ?_)
    · have hf := ip hc21 hf
      refine J_aload_n hK qd2_121.2.2.1 rfl 0 rfl rfl ?_
      refine J_bipush (v := (-2)) hK qd2_121.2.2.2.1 rfl (by decide) ?_
      obtain ⟨⟨v8, g9⟩, e10, hf⟩ := bs hf
      have hf := un2 hf
      refine J_callV (m := 2) (m' := 2) (ce' := 0) (sl' := 0) (gr := [gridJ d r0_rows 8 40 x0_rows]) (gs' := fun _ => [gMd d h0 a0_kept a0_tried a0_chosen r0_rows r0_line r0_good r0_work x0_shelf x0_rowSort x0_rowSize x0_moved x0_shown x0_tape x0_tapeSize g9 x0_lines x0_changes x0_coins x0_goods x0_works x0_years x0_gone x0_spent x0_at x0_token x0_from x0_figures x0_fault x0_numbers x0_statements x0_left x0_far x0_tons x0_way x0_steps x0_met x0_queue x0_totals, gridJ d r0_rows 8 40 x0_rows]) (st' := fun _ => [.int v8]) (st := []) hK qd2_121.2.2.2.2.1 cv_RX7_94 iv_yX7_refuse (As := [.int (-2)]) (kX7_refuse _ d h0 r0_rows r0_line r0_good r0_work a0_kept a0_tried a0_chosen x0_shelf x0_rowSort x0_rowSize x0_rows x0_moved x0_shown x0_tape x0_tapeSize x0_refused x0_lines x0_line x0_changes x0_coins x0_goods x0_good x0_works x0_work x0_years x0_gone x0_spent x0_at x0_token x0_from x0_figures x0_fault x0_numbers x0_statements x0_left x0_far x0_tons x0_way x0_steps x0_met x0_queue x0_totals (-2) e10) rfl rfl (Nat.le_of_ble_eq_true rfl) (by decide) 0 0 rfl rfl rfl [0] [1] rfl (by decide +kernel) rfl rfl [1, 0] (by decide +kernel) (fun _ => rfl) (fun _ => rfl) rfl rfl rfl (fun _ => rfl) (fun _ => ?_)
      obtain rfl := Option.some.inj hf
      exact J_iret hK hR qd2_121.2.2.2.2.2.1 () rfl (by decide) (by decide)
    · have hf := iq hc21 hf
      refine J_iload_n hK qd2_120.2.2.2.2.2.2.2.2.2.2.2.2.1 rfl 3 rfl rfl ?_
      refine J_i2l hK qd2_120.2.2.2.2.2.2.2.2.2.2.2.2.2.1 rfl ?_
      refine J_lconst (v := 0) hK qd2_120.2.2.2.2.2.2.2.2.2.2.2.2.2.2.1 rfl (by decide) ?_
      refine J_ldc2 (v := (40 : Int64)) hK qd2_120.2.2.2.2.2.2.2.2.2.2.2.2.2.2.2.1 rfl wk_RX7_92 ?_
      obtain ⟨v11, e12, hf⟩ := bs hf
      refine J_callS (m := 2) (m' := 2) (ce' := 0) (sl' := 0) (gr := [gMd d h0 a0_kept a0_tried a0_chosen r0_rows r0_line r0_good r0_work x0_shelf x0_rowSort x0_rowSize x0_moved x0_shown x0_tape x0_tapeSize x0_refused x0_lines x0_changes x0_coins x0_goods x0_works x0_years x0_gone x0_spent x0_at x0_token x0_from x0_figures x0_fault x0_numbers x0_statements x0_left x0_far x0_tons x0_way x0_steps x0_met x0_queue x0_totals, gridJ d r0_rows 8 40 x0_rows]) (gs' := fun _ => [gMd d h0 a0_kept a0_tried a0_chosen r0_rows r0_line r0_good r0_work x0_shelf x0_rowSort x0_rowSize x0_moved x0_shown x0_tape x0_tapeSize x0_refused x0_lines x0_changes x0_coins x0_goods x0_works x0_years x0_gone x0_spent x0_at x0_token x0_from x0_figures x0_fault x0_numbers x0_statements x0_left x0_far x0_tons x0_way x0_steps x0_met x0_queue x0_totals, gridJ d r0_rows 8 40 x0_rows]) (st' := fun _ => [.int v11]) (st := []) hK qd2_121.1 cv_RX7_78 ws_yX7_in (As := [.long ((p3).toInt64), .long (0 : Int64), .long (40 : Int64)]) (kX7_in _ d ((p3).toInt64) (0 : Int64) (40 : Int64) e12) rfl rfl (Nat.le_of_ble_eq_true rfl) (by decide) [] [0, 1] rfl (by decide +kernel) rfl rfl [0, 1] (by decide +kernel) (fun _ => rfl) (fun _ => rfl) rfl rfl rfl (fun _ => rfl) (fun _ => ?_)
      refine J_if_ne (tg := 43) hK qd2_121.2.1 rfl rfl (fun hc33 => ?_) (fun hc33 => ?_)
      · have hf := iq hc33 hf
        refine J_aload_n hK qd2_121.2.2.2.2.2.2.1 rfl 0 rfl rfl ?_
        refine J_get hK fo_RX7_7 qd2_121.2.2.2.2.2.2.2.1 rfl 0 0 rfl rfl rfl ?_
        refine J_iload_n hK qd2_121.2.2.2.2.2.2.2.2.1 rfl 1 rfl rfl ?_
        refine J_iconst (v := 1) hK qd2_121.2.2.2.2.2.2.2.2.2.1 rfl (by decide) ?_
        obtain ⟨f13, ef13, hf⟩ := bs hf
        refine J_iast (g' := gMd d h0 a0_kept a0_tried a0_chosen r0_rows r0_line r0_good r0_work f13 x0_rowSort x0_rowSize x0_moved x0_shown x0_tape x0_tapeSize x0_refused x0_lines x0_changes x0_coins x0_goods x0_works x0_years x0_gone x0_spent x0_at x0_token x0_from x0_figures x0_fault x0_numbers x0_statements x0_left x0_far x0_tons x0_way x0_steps x0_met x0_queue x0_totals) (gs' := [gMd d h0 a0_kept a0_tried a0_chosen r0_rows r0_line r0_good r0_work f13 x0_rowSort x0_rowSize x0_moved x0_shown x0_tape x0_tapeSize x0_refused x0_lines x0_changes x0_coins x0_goods x0_works x0_years x0_gone x0_spent x0_at x0_token x0_from x0_figures x0_fault x0_numbers x0_statements x0_left x0_far x0_tons x0_way x0_steps x0_met x0_queue x0_totals, gridJ d r0_rows 8 40 x0_rows]) hK qd2_121.2.2.2.2.2.2.2.2.2.2.1 rfl 0 1 rfl rfl ef13 rfl rfl ?_
        refine J_aload_n hK qd2_121.2.2.2.2.2.2.2.2.2.2.2.1 rfl 0 rfl rfl ?_
        refine J_get hK fo_RX7_13 qd2_121.2.2.2.2.2.2.2.2.2.2.2.2.1 rfl 0 0 rfl rfl rfl ?_
        refine J_iload_n hK qd2_121.2.2.2.2.2.2.2.2.2.2.2.2.2.1 rfl 1 rfl rfl ?_
        refine J_iload_n hK qd2_121.2.2.2.2.2.2.2.2.2.2.2.2.2.2.1 rfl 2 rfl rfl ?_
        obtain ⟨f14, ef14, hf⟩ := bs hf
        refine J_iast (g' := gMd d h0 a0_kept a0_tried a0_chosen r0_rows r0_line r0_good r0_work f13 f14 x0_rowSize x0_moved x0_shown x0_tape x0_tapeSize x0_refused x0_lines x0_changes x0_coins x0_goods x0_works x0_years x0_gone x0_spent x0_at x0_token x0_from x0_figures x0_fault x0_numbers x0_statements x0_left x0_far x0_tons x0_way x0_steps x0_met x0_queue x0_totals) (gs' := [gMd d h0 a0_kept a0_tried a0_chosen r0_rows r0_line r0_good r0_work f13 f14 x0_rowSize x0_moved x0_shown x0_tape x0_tapeSize x0_refused x0_lines x0_changes x0_coins x0_goods x0_works x0_years x0_gone x0_spent x0_at x0_token x0_from x0_figures x0_fault x0_numbers x0_statements x0_left x0_far x0_tons x0_way x0_steps x0_met x0_queue x0_totals, gridJ d r0_rows 8 40 x0_rows]) hK qd2_121.2.2.2.2.2.2.2.2.2.2.2.2.2.2.2.1 rfl 0 2 rfl rfl ef14 rfl rfl ?_
        refine J_aload_n hK qd2_122.1 rfl 0 rfl rfl ?_
        refine J_get hK fo_RX7_16 qd2_122.2.1 rfl 0 0 rfl rfl rfl ?_
        refine J_iload_n hK qd2_122.2.2.1 rfl 1 rfl rfl ?_
        refine J_iload_n hK qd2_122.2.2.2.1 rfl 3 rfl rfl ?_
        obtain ⟨f15, ef15, hf⟩ := bs hf
        refine J_iast (g' := gMd d h0 a0_kept a0_tried a0_chosen r0_rows r0_line r0_good r0_work f13 f14 f15 x0_moved x0_shown x0_tape x0_tapeSize x0_refused x0_lines x0_changes x0_coins x0_goods x0_works x0_years x0_gone x0_spent x0_at x0_token x0_from x0_figures x0_fault x0_numbers x0_statements x0_left x0_far x0_tons x0_way x0_steps x0_met x0_queue x0_totals) (gs' := [gMd d h0 a0_kept a0_tried a0_chosen r0_rows r0_line r0_good r0_work f13 f14 f15 x0_moved x0_shown x0_tape x0_tapeSize x0_refused x0_lines x0_changes x0_coins x0_goods x0_works x0_years x0_gone x0_spent x0_at x0_token x0_from x0_figures x0_fault x0_numbers x0_statements x0_left x0_far x0_tons x0_way x0_steps x0_met x0_queue x0_totals, gridJ d r0_rows 8 40 x0_rows]) hK qd2_122.2.2.2.2.1 rfl 0 3 rfl rfl ef15 rfl rfl ?_
        refine J_iconst (v := 0) hK qd2_122.2.2.2.2.2.1 rfl (by decide) ?_
        refine J_istore (L' := [(4, .int (0)), (0, .ref (h0 0)), (1, .int p1), (2, .int p2), (3, .int p3)]) hK qd2_122.2.2.2.2.2.2.1 rfl (by decide) rfl ?_
        obtain ⟨e19, hl16, hf⟩ := bs hf
        have hx16_90 : ∀ (w20 : (Nat → Nat → Int64)), w20 = e19 → J d Φ 5 [gMd d h0 a0_kept a0_tried a0_chosen r0_rows r0_line r0_good r0_work f13 f14 f15 x0_moved x0_shown x0_tape x0_tapeSize x0_refused x0_lines x0_changes x0_coins x0_goods x0_works x0_years x0_gone x0_spent x0_at x0_token x0_from x0_figures x0_fault x0_numbers x0_statements x0_left x0_far x0_tons x0_way x0_steps x0_met x0_queue x0_totals, gridJ d r0_rows 8 40 w20] 0 0 90 [] [] := by
          intro w20 he
          rw [← he] at hf
          refine J_iconst (v := 1) hK qd2_123.2.2.2.1 rfl (by decide) ?_
          obtain rfl := Option.some.inj hf
          exact J_iret hK hR qd2_123.2.2.2.2.1 () rfl (by decide) (by decide)
        have lo16 : ∀ (k : Nat) (z17 : Int32) (z18 : (Nat → Nat → Int64)), lp (u2 (fX7_row_s67 p1)) k (z17, z18) = some e19 → J d Φ 5 [gMd d h0 a0_kept a0_tried a0_chosen r0_rows r0_line r0_good r0_work f13 f14 f15 x0_moved x0_shown x0_tape x0_tapeSize x0_refused x0_lines x0_changes x0_coins x0_goods x0_works x0_years x0_gone x0_spent x0_at x0_token x0_from x0_figures x0_fault x0_numbers x0_statements x0_left x0_far x0_tons x0_way x0_steps x0_met x0_queue x0_totals, gridJ d r0_rows 8 40 z18] 0 0 67 [(0, .ref (h0 0)), (1, .int p1), (4, .int z17)] [] := by
          intro k
          induction k with
          | zero => intro z17 z18 h; cases h
          | succ k ih16 =>
            intro z17 z18 h
            obtain ⟨k2, rr16, hk2, hs16, hr16⟩ := lp_ok h
            cases hk2
            have hs16 : fX7_row_s67 p1 z17 z18 = some rr16 := hs16
            unfold fX7_row_s67 at hs16
            refine J_iload hK qd2_122.2.2.2.2.2.2.2.1 rfl 2 rfl ?_
            refine J_bipush (v := 40) hK qd2_122.2.2.2.2.2.2.2.2.1 rfl (by decide) ?_
            refine J_icmp_ge (tg := 90) hK qd2_122.2.2.2.2.2.2.2.2.2.1 rfl rfl (fun hc71 => ?_) (fun hc71 => ?_)
            · have hs16 := ip hc71 hs16
              exact J_loc [] rfl (hx16_90 z18 (lpx hs16 hr16))
            · have hs16 := iq hc71 hs16
              refine J_aload_n hK qd2_122.2.2.2.2.2.2.2.2.2.2.1 rfl 0 rfl rfl ?_
              refine J_get hK fo_RX7_21 qd2_122.2.2.2.2.2.2.2.2.2.2.2.1 rfl 0 0 rfl rfl rfl ?_
              refine J_iload_n hK qd2_122.2.2.2.2.2.2.2.2.2.2.2.2.1 rfl 1 rfl rfl ?_
              obtain ⟨q21, eq21, hs16⟩ := bs hs16
              refine J_aald hK qd2_122.2.2.2.2.2.2.2.2.2.2.2.2.2.1 rfl 0 4 rfl rfl rfl eq21 ?_
              refine J_iload hK qd2_122.2.2.2.2.2.2.2.2.2.2.2.2.2.2.1 rfl 2 rfl ?_
              refine J_lconst (v := 0) hK qd2_122.2.2.2.2.2.2.2.2.2.2.2.2.2.2.2.1 rfl (by decide) ?_
              obtain ⟨f22, ef22, hs16⟩ := bs hs16
              refine J_last (g' := gridJ d r0_rows 8 40 (va_up z18 q21 f22)) (gs' := [gMd d h0 a0_kept a0_tried a0_chosen r0_rows r0_line r0_good r0_work f13 f14 f15 x0_moved x0_shown x0_tape x0_tapeSize x0_refused x0_lines x0_changes x0_coins x0_goods x0_works x0_years x0_gone x0_spent x0_at x0_token x0_from x0_figures x0_fault x0_numbers x0_statements x0_left x0_far x0_tons x0_way x0_steps x0_met x0_queue x0_totals, gridJ d r0_rows 8 40 (va_up z18 q21 f22)]) hK qd2_123.1 rfl 1 q21 rfl (gridJ_at (ck_ok eq21).2.2) ef22 gridJ_set rfl ?_
              refine J_iinc (L' := [(4, .int (z17 + 1)), (0, .ref (h0 0)), (1, .int p1)]) (v := (z17 + 1)) hK qd2_123.2.1 rfl 2 rfl rfl (by decide) rfl ?_
              refine J_goto hK qd2_123.2.2.1 (n := 67) rfl ?_
              exact J_loc [1, 2, 0] rfl (ih16 (z17 + 1) (va_up z18 q21 f22) (lpc hs16 hr16))
        exact J_loc [1, 2, 0] rfl (lo16 n (0) x0_rows hl16)
      · have hf := ip hc33 hf
        refine J_aload_n hK qd2_121.2.2.1 rfl 0 rfl rfl ?_
        refine J_bipush (v := (-2)) hK qd2_121.2.2.2.1 rfl (by decide) ?_
        obtain ⟨⟨v23, g24⟩, e25, hf⟩ := bs hf
        have hf := un2 hf
        refine J_callV (m := 2) (m' := 2) (ce' := 0) (sl' := 0) (gr := [gridJ d r0_rows 8 40 x0_rows]) (gs' := fun _ => [gMd d h0 a0_kept a0_tried a0_chosen r0_rows r0_line r0_good r0_work x0_shelf x0_rowSort x0_rowSize x0_moved x0_shown x0_tape x0_tapeSize g24 x0_lines x0_changes x0_coins x0_goods x0_works x0_years x0_gone x0_spent x0_at x0_token x0_from x0_figures x0_fault x0_numbers x0_statements x0_left x0_far x0_tons x0_way x0_steps x0_met x0_queue x0_totals, gridJ d r0_rows 8 40 x0_rows]) (st' := fun _ => [.int v23]) (st := []) hK qd2_121.2.2.2.2.1 cv_RX7_94 iv_yX7_refuse (As := [.int (-2)]) (kX7_refuse _ d h0 r0_rows r0_line r0_good r0_work a0_kept a0_tried a0_chosen x0_shelf x0_rowSort x0_rowSize x0_rows x0_moved x0_shown x0_tape x0_tapeSize x0_refused x0_lines x0_line x0_changes x0_coins x0_goods x0_good x0_works x0_work x0_years x0_gone x0_spent x0_at x0_token x0_from x0_figures x0_fault x0_numbers x0_statements x0_left x0_far x0_tons x0_way x0_steps x0_met x0_queue x0_totals (-2) e25) rfl rfl (Nat.le_of_ble_eq_true rfl) (by decide) 0 0 rfl rfl rfl [0] [1] rfl (by decide +kernel) rfl rfl [1, 0] (by decide +kernel) (fun _ => rfl) (fun _ => rfl) rfl rfl rfl (fun _ => rfl) (fun _ => ?_)
        obtain rfl := Option.some.inj hf
        exact J_iret hK hR qd2_121.2.2.2.2.2.1 () rfl (by decide) (by decide)

def fX7_fit (p0 : Int32) (p1 : Int64) : Option (Int64) :=
  if p0 = 0 then (some ((((p1).toInt32).toInt8.toInt32).toInt64)) else (if p0 = 1 then (some ((((p1).toInt32).toInt16.toInt32).toInt64)) else (if p0 = 2 then (some (((p1).toInt32).toInt64)) else (if p0 = 3 then (some p1) else (if (lg_cmp p1 (0 : Int64)) = 0 then (some (0 : Int64)) else (some (1 : Int64))))))
set_option maxHeartbeats 4000000 in
set_option maxRecDepth 100000 in
theorem kX7_fit (l : Launch) (d : DT)  (p0 : Int32) (p1 : Int64)  {out : Int64} (hf : fX7_fit p0 p1 = some out) : Ct l d yX7_fit cX7_fit 3 (some .long) { frames := 0, cells := 0, slots := 0, locals := 0 } [.int p0, .long p1] [] (fun _ : Unit => (some (.long out), [])) := by
  refine Ct.of (by decide) (Nat.le_of_ble_eq_true rfl) ?_
  intro Φ hl hK hR
  subst hl
  have hK : Ok d Φ RX7 "fit" cX7_fit 3 (some .long) { frames := 0, cells := 0, slots := 0, locals := 0 } := hK
  unfold fX7_fit at hf
  show J d Φ 3 [] 0 0 0 [(0, .int p0), (1, .long p1)] []
  refine J_iload_n hK qd2_124.1 rfl 0 rfl rfl ?_
  by_cases hc1_0 : p0 = 0
  · have hf := ip hc1_0 hf
    refine J_swI (tg := 32) hK dX7_fit_1 (by rw [hc1_0]; decide) (by rw [hc1_0]; decide) (by rw [hc1_0]; rfl) rfl ?_
    refine J_lload_n hK qd2_125.1 rfl 1 rfl rfl ?_
    refine J_l2i hK qd2_125.2.1 rfl ?_
    refine J_i2b hK qd2_125.2.2.1 rfl ?_
    refine J_i2l hK qd2_125.2.2.2.1 rfl ?_
    obtain rfl := Option.some.inj hf
    exact J_lret hK hR qd2_125.2.2.2.2.1 () rfl (by decide) (by decide)
  have hf := iq hc1_0 hf
  by_cases hc1_1 : p0 = 1
  · have hf := ip hc1_1 hf
    refine J_swI (tg := 37) hK dX7_fit_1 (by rw [hc1_1]; decide) (by rw [hc1_1]; decide) (by rw [hc1_1]; rfl) rfl ?_
    refine J_lload_n hK qd2_125.2.2.2.2.2.1 rfl 1 rfl rfl ?_
    refine J_l2i hK qd2_125.2.2.2.2.2.2.1 rfl ?_
    refine J_i2s hK qd2_125.2.2.2.2.2.2.2.1 rfl ?_
    refine J_i2l hK qd2_125.2.2.2.2.2.2.2.2.1 rfl ?_
    obtain rfl := Option.some.inj hf
    exact J_lret hK hR qd2_125.2.2.2.2.2.2.2.2.2.1 () rfl (by decide) (by decide)
  have hf := iq hc1_1 hf
  by_cases hc1_2 : p0 = 2
  · have hf := ip hc1_2 hf
    refine J_swI (tg := 42) hK dX7_fit_1 (by rw [hc1_2]; decide) (by rw [hc1_2]; decide) (by rw [hc1_2]; rfl) rfl ?_
    refine J_lload_n hK qd2_125.2.2.2.2.2.2.2.2.2.2.1 rfl 1 rfl rfl ?_
    refine J_l2i hK qd2_125.2.2.2.2.2.2.2.2.2.2.2.1 rfl ?_
    refine J_i2l hK qd2_125.2.2.2.2.2.2.2.2.2.2.2.2.1 rfl ?_
    obtain rfl := Option.some.inj hf
    exact J_lret hK hR qd2_125.2.2.2.2.2.2.2.2.2.2.2.2.2.1 () rfl (by decide) (by decide)
  have hf := iq hc1_2 hf
  by_cases hc1_3 : p0 = 3
  · have hf := ip hc1_3 hf
    refine J_swI (tg := 46) hK dX7_fit_1 (by rw [hc1_3]; decide) (by rw [hc1_3]; decide) (by rw [hc1_3]; rfl) rfl ?_
    refine J_lload_n hK qd2_125.2.2.2.2.2.2.2.2.2.2.2.2.2.2.1 rfl 1 rfl rfl ?_
    obtain rfl := Option.some.inj hf
    exact J_lret hK hR qd2_125.2.2.2.2.2.2.2.2.2.2.2.2.2.2.2.1 () rfl (by decide) (by decide)
  have hf := iq hc1_3 hf
  refine J_swO (tg := 48) hK dX7_fit_1 (by have q0 : ¬ p0.toInt = 0 := fun h => hc1_0 (Int32.toInt_inj.mp (h.trans (by decide))); have q1 : ¬ p0.toInt = 1 := fun h => hc1_1 (Int32.toInt_inj.mp (h.trans (by decide))); have q2 : ¬ p0.toInt = 2 := fun h => hc1_2 (Int32.toInt_inj.mp (h.trans (by decide))); have q3 : ¬ p0.toInt = 3 := fun h => hc1_3 (Int32.toInt_inj.mp (h.trans (by decide))); omega) rfl ?_
  refine J_lload_n hK qd2_126.1 rfl 1 rfl rfl ?_
  refine J_lconst (v := 0) hK qd2_126.2.1 rfl (by decide) ?_
  refine J_lcmp hK qd2_126.2.2.1 rfl ?_
  refine J_if_eq (tg := 58) hK qd2_126.2.2.2.1 rfl rfl (fun hc51 => ?_) (fun hc51 => ?_)
  · have hf := ip hc51 hf
    refine J_lconst (v := 0) hK qd2_126.2.2.2.2.2.2.1 rfl (by decide) ?_
    obtain rfl := Option.some.inj hf
    exact J_lret hK hR qd2_126.2.2.2.2.2.2.2.1 () rfl (by decide) (by decide)
  · have hf := iq hc51 hf
    refine J_lconst (v := 1) hK qd2_126.2.2.2.2.1 rfl (by decide) ?_
    refine J_goto hK qd2_126.2.2.2.2.2.1 (n := 59) rfl ?_
    obtain rfl := Option.some.inj hf
    exact J_lret hK hR qd2_126.2.2.2.2.2.2.2.1 () rfl (by decide) (by decide)

def fX7_set (X0 : MdT) (p1 : Int32) (p2 : Int32) (p3 : Int64) : Option (Int32 × (Nat → Nat → Int64) × (Nat → Int32)) :=
  u35 (fun (x0_shelf : (Nat → Int32)) (x0_rowSort : (Nat → Int32)) (x0_rowSize : (Nat → Int32)) (x0_rows : (Nat → Nat → Int64)) (x0_moved : (Nat → Int64)) (x0_shown : (Nat → Int32)) (x0_tape : (Nat → Int32)) (x0_tapeSize : Int32) (x0_refused : (Nat → Int32)) (x0_lines : Int32) (x0_line : (Nat → Nat → Int32)) (x0_changes : (Nat → Int32)) (x0_coins : (Nat → Int32)) (x0_goods : Int32) (x0_good : (Nat → Nat → Int32)) (x0_works : Int32) (x0_work : (Nat → Nat → Int32)) (x0_years : Int32) (x0_gone : Int32) (x0_spent : Int32) (x0_at : Int32) (x0_token : Int32) (x0_from : Int32) (x0_figures : Int64) (x0_fault : Int32) (x0_numbers : (Nat → Int32)) (x0_statements : Int32) (x0_left : (Nat → Int32)) (x0_far : (Nat → Int32)) (x0_tons : Int32) (x0_way : (Nat → Int32)) (x0_steps : Int32) (x0_met : Int64) (x0_queue : (Nat → Int32)) (x0_totals : (Nat → Int32)) => (fX7_in ((p1).toInt64) (0 : Int64) (7 : Int64)).bind (fun v1 => if v1 = 0 then ((fX7_refuse (x0_shelf, x0_rowSort, x0_rowSize, x0_rows, x0_moved, x0_shown, x0_tape, x0_tapeSize, x0_refused, x0_lines, x0_line, x0_changes, x0_coins, x0_goods, x0_good, x0_works, x0_work, x0_years, x0_gone, x0_spent, x0_at, x0_token, x0_from, x0_figures, x0_fault, x0_numbers, x0_statements, x0_left, x0_far, x0_tons, x0_way, x0_steps, x0_met, x0_queue, x0_totals) (-2)).bind (u2 fun v22 g23 => some (v22, x0_rows, g23))) else ((rd 8 x0_shelf p1).bind fun v3 => if v3 = 2 then ((fX7_refuse (x0_shelf, x0_rowSort, x0_rowSize, x0_rows, x0_moved, x0_shown, x0_tape, x0_tapeSize, x0_refused, x0_lines, x0_line, x0_changes, x0_coins, x0_goods, x0_good, x0_works, x0_work, x0_years, x0_gone, x0_spent, x0_at, x0_token, x0_from, x0_figures, x0_fault, x0_numbers, x0_statements, x0_left, x0_far, x0_tons, x0_way, x0_steps, x0_met, x0_queue, x0_totals) (-3)).bind (u2 fun v19 g20 => some (v19, x0_rows, g20))) else ((rd 8 x0_shelf p1).bind fun v4 => if v4 = 0 then ((fX7_refuse (x0_shelf, x0_rowSort, x0_rowSize, x0_rows, x0_moved, x0_shown, x0_tape, x0_tapeSize, x0_refused, x0_lines, x0_line, x0_changes, x0_coins, x0_goods, x0_good, x0_works, x0_work, x0_years, x0_gone, x0_spent, x0_at, x0_token, x0_from, x0_figures, x0_fault, x0_numbers, x0_statements, x0_left, x0_far, x0_tons, x0_way, x0_steps, x0_met, x0_queue, x0_totals) (-4)).bind (u2 fun v16 g17 => some (v16, x0_rows, g17))) else ((rd 8 x0_rowSize p1).bind fun v5 => (fX7_in ((p2).toInt64) (0 : Int64) (((v5 - 1)).toInt64)).bind (fun v6 => if v6 = 0 then ((fX7_refuse (x0_shelf, x0_rowSort, x0_rowSize, x0_rows, x0_moved, x0_shown, x0_tape, x0_tapeSize, x0_refused, x0_lines, x0_line, x0_changes, x0_coins, x0_goods, x0_good, x0_works, x0_work, x0_years, x0_gone, x0_spent, x0_at, x0_token, x0_from, x0_figures, x0_fault, x0_numbers, x0_statements, x0_left, x0_far, x0_tons, x0_way, x0_steps, x0_met, x0_queue, x0_totals) (-2)).bind (u2 fun v13 g14 => some (v13, x0_rows, g14))) else ((ck p1 8).bind fun q8 => (rd 8 x0_rowSort p1).bind fun v9 => (fX7_fit v9 p3).bind (fun v10 => (wr 40 (x0_rows q8) p2 v10).bind fun f12 => some (1, (va_up x0_rows q8 f12), x0_refused))))))))) X0
set_option maxHeartbeats 4000000 in
set_option maxRecDepth 100000 in
theorem kX7_set (l : Launch) (d : DT) (h0 : Nat → Nat) (r0_rows : Nat → Nat) (r0_line : Nat → Nat) (r0_good : Nat → Nat) (r0_work : Nat → Nat) (a0_kept : Option Nat) (a0_tried : Option Nat) (a0_chosen : Option Nat) (x0_shelf : (Nat → Int32)) (x0_rowSort : (Nat → Int32)) (x0_rowSize : (Nat → Int32)) (x0_rows : (Nat → Nat → Int64)) (x0_moved : (Nat → Int64)) (x0_shown : (Nat → Int32)) (x0_tape : (Nat → Int32)) (x0_tapeSize : Int32) (x0_refused : (Nat → Int32)) (x0_lines : Int32) (x0_line : (Nat → Nat → Int32)) (x0_changes : (Nat → Int32)) (x0_coins : (Nat → Int32)) (x0_goods : Int32) (x0_good : (Nat → Nat → Int32)) (x0_works : Int32) (x0_work : (Nat → Nat → Int32)) (x0_years : Int32) (x0_gone : Int32) (x0_spent : Int32) (x0_at : Int32) (x0_token : Int32) (x0_from : Int32) (x0_figures : Int64) (x0_fault : Int32) (x0_numbers : (Nat → Int32)) (x0_statements : Int32) (x0_left : (Nat → Int32)) (x0_far : (Nat → Int32)) (x0_tons : Int32) (x0_way : (Nat → Int32)) (x0_steps : Int32) (x0_met : Int64) (x0_queue : (Nat → Int32)) (x0_totals : (Nat → Int32)) (p1 : Int32) (p2 : Int32) (p3 : Int64)  {out : Int32 × (Nat → Nat → Int64) × (Nat → Int32)} (hf : fX7_set (x0_shelf, x0_rowSort, x0_rowSize, x0_rows, x0_moved, x0_shown, x0_tape, x0_tapeSize, x0_refused, x0_lines, x0_line, x0_changes, x0_coins, x0_goods, x0_good, x0_works, x0_work, x0_years, x0_gone, x0_spent, x0_at, x0_token, x0_from, x0_figures, x0_fault, x0_numbers, x0_statements, x0_left, x0_far, x0_tons, x0_way, x0_steps, x0_met, x0_queue, x0_totals) p1 p2 p3 = some out) : Ct l d yX7_set cX7_set 5 (some .int) { frames := 1, cells := 0, slots := 0, locals := 25 } [.ref (h0 0), .int p1, .int p2, .long p3] [gMd d h0 a0_kept a0_tried a0_chosen r0_rows r0_line r0_good r0_work x0_shelf x0_rowSort x0_rowSize x0_moved x0_shown x0_tape x0_tapeSize x0_refused x0_lines x0_changes x0_coins x0_goods x0_works x0_years x0_gone x0_spent x0_at x0_token x0_from x0_figures x0_fault x0_numbers x0_statements x0_left x0_far x0_tons x0_way x0_steps x0_met x0_queue x0_totals, gridJ d r0_rows 8 40 x0_rows] (fun _ : Unit => (some (.int out.1), [gMd d h0 a0_kept a0_tried a0_chosen r0_rows r0_line r0_good r0_work x0_shelf x0_rowSort x0_rowSize x0_moved x0_shown x0_tape x0_tapeSize (out.2.2) x0_lines x0_changes x0_coins x0_goods x0_works x0_years x0_gone x0_spent x0_at x0_token x0_from x0_figures x0_fault x0_numbers x0_statements x0_left x0_far x0_tons x0_way x0_steps x0_met x0_queue x0_totals, gridJ d r0_rows 8 40 (out.2.1)])) := by
  refine Ct.of (by decide) (Nat.le_of_ble_eq_true rfl) ?_
  intro Φ hl hK hR
  subst hl
  have hK : Ok d Φ RX7 "set" cX7_set 5 (some .int) { frames := 1, cells := 0, slots := 0, locals := 25 } := hK
  unfold fX7_set at hf
  have hf := un35 hf
  show J d Φ 5 [gMd d h0 a0_kept a0_tried a0_chosen r0_rows r0_line r0_good r0_work x0_shelf x0_rowSort x0_rowSize x0_moved x0_shown x0_tape x0_tapeSize x0_refused x0_lines x0_changes x0_coins x0_goods x0_works x0_years x0_gone x0_spent x0_at x0_token x0_from x0_figures x0_fault x0_numbers x0_statements x0_left x0_far x0_tons x0_way x0_steps x0_met x0_queue x0_totals, gridJ d r0_rows 8 40 x0_rows] 0 0 0 [(0, .ref (h0 0)), (1, .int p1), (2, .int p2), (3, .long p3)] []
  refine J_iload_n hK qd2_127.1 rfl 1 rfl rfl ?_
  refine J_i2l hK qd2_127.2.1 rfl ?_
  refine J_lconst (v := 0) hK qd2_127.2.2.1 rfl (by decide) ?_
  refine J_ldc2 (v := (7 : Int64)) hK qd2_127.2.2.2.1 rfl wk_RX7_88 ?_
  obtain ⟨v1, e2, hf⟩ := bs hf
  refine J_callS (m := 2) (m' := 2) (ce' := 0) (sl' := 0) (gr := [gMd d h0 a0_kept a0_tried a0_chosen r0_rows r0_line r0_good r0_work x0_shelf x0_rowSort x0_rowSize x0_moved x0_shown x0_tape x0_tapeSize x0_refused x0_lines x0_changes x0_coins x0_goods x0_works x0_years x0_gone x0_spent x0_at x0_token x0_from x0_figures x0_fault x0_numbers x0_statements x0_left x0_far x0_tons x0_way x0_steps x0_met x0_queue x0_totals, gridJ d r0_rows 8 40 x0_rows]) (gs' := fun _ => [gMd d h0 a0_kept a0_tried a0_chosen r0_rows r0_line r0_good r0_work x0_shelf x0_rowSort x0_rowSize x0_moved x0_shown x0_tape x0_tapeSize x0_refused x0_lines x0_changes x0_coins x0_goods x0_works x0_years x0_gone x0_spent x0_at x0_token x0_from x0_figures x0_fault x0_numbers x0_statements x0_left x0_far x0_tons x0_way x0_steps x0_met x0_queue x0_totals, gridJ d r0_rows 8 40 x0_rows]) (st' := fun _ => [.int v1]) (st := []) hK qd2_127.2.2.2.2.1 cv_RX7_78 ws_yX7_in (As := [.long ((p1).toInt64), .long (0 : Int64), .long (7 : Int64)]) (kX7_in _ d ((p1).toInt64) (0 : Int64) (7 : Int64) e2) rfl rfl (Nat.le_of_ble_eq_true rfl) (by decide) [] [0, 1] rfl (by decide +kernel) rfl rfl [0, 1] (by decide +kernel) (fun _ => rfl) (fun _ => rfl) rfl rfl rfl (fun _ => rfl) (fun _ => ?_)
  refine J_if_ne (tg := 19) hK qd2_127.2.2.2.2.2.1 rfl rfl (fun hc9 => ?_) (fun hc9 => ?_)
  · have hf := iq hc9 hf
    refine J_aload_n hK qd2_127.2.2.2.2.2.2.2.2.2.2.1 rfl 0 rfl rfl ?_
    refine J_get hK fo_RX7_7 qd2_127.2.2.2.2.2.2.2.2.2.2.2.1 rfl 0 0 rfl rfl rfl ?_
    refine J_iload_n hK qd2_127.2.2.2.2.2.2.2.2.2.2.2.2.1 rfl 1 rfl rfl ?_
    obtain ⟨v3, ev3, hf⟩ := bs hf
    refine J_iald hK qd2_127.2.2.2.2.2.2.2.2.2.2.2.2.2.1 rfl 0 1 rfl rfl ev3 ?_
    refine J_iconst (v := 2) hK qd2_127.2.2.2.2.2.2.2.2.2.2.2.2.2.2.1 rfl (by decide) ?_
    refine J_icmp_ne (tg := 36) hK qd2_127.2.2.2.2.2.2.2.2.2.2.2.2.2.2.2.1 rfl rfl (fun hc26 => ?_) (fun hc26 => ?_)
    · have hf := iq hc26 hf
      refine J_aload_n hK qd2_128.2.2.2.2.1 rfl 0 rfl rfl ?_
      refine J_get hK fo_RX7_7 qd2_128.2.2.2.2.2.1 rfl 0 0 rfl rfl rfl ?_
      refine J_iload_n hK qd2_128.2.2.2.2.2.2.1 rfl 1 rfl rfl ?_
      obtain ⟨v4, ev4, hf⟩ := bs hf
      refine J_iald hK qd2_128.2.2.2.2.2.2.2.1 rfl 0 1 rfl rfl ev4 ?_
      refine J_if_ne (tg := 52) hK qd2_128.2.2.2.2.2.2.2.2.1 rfl rfl (fun hc42 => ?_) (fun hc42 => ?_)
      · have hf := iq hc42 hf
        refine J_iload_n hK qd2_128.2.2.2.2.2.2.2.2.2.2.2.2.2.1 rfl 2 rfl rfl ?_
        refine J_i2l hK qd2_128.2.2.2.2.2.2.2.2.2.2.2.2.2.2.1 rfl ?_
        refine J_lconst (v := 0) hK qd2_128.2.2.2.2.2.2.2.2.2.2.2.2.2.2.2.1 rfl (by decide) ?_
        refine J_aload_n hK qd2_129.1 rfl 0 rfl rfl ?_
        refine J_get hK fo_RX7_16 qd2_129.2.1 rfl 0 0 rfl rfl rfl ?_
        refine J_iload_n hK qd2_129.2.2.1 rfl 1 rfl rfl ?_
        obtain ⟨v5, ev5, hf⟩ := bs hf
        refine J_iald hK qd2_129.2.2.2.1 rfl 0 3 rfl rfl ev5 ?_
        refine J_iconst (v := 1) hK qd2_129.2.2.2.2.1 rfl (by decide) ?_
        refine J_isub hK qd2_129.2.2.2.2.2.1 rfl ?_
        refine J_i2l hK qd2_129.2.2.2.2.2.2.1 rfl ?_
        obtain ⟨v6, e7, hf⟩ := bs hf
        refine J_callS (m := 2) (m' := 2) (ce' := 0) (sl' := 0) (gr := [gMd d h0 a0_kept a0_tried a0_chosen r0_rows r0_line r0_good r0_work x0_shelf x0_rowSort x0_rowSize x0_moved x0_shown x0_tape x0_tapeSize x0_refused x0_lines x0_changes x0_coins x0_goods x0_works x0_years x0_gone x0_spent x0_at x0_token x0_from x0_figures x0_fault x0_numbers x0_statements x0_left x0_far x0_tons x0_way x0_steps x0_met x0_queue x0_totals, gridJ d r0_rows 8 40 x0_rows]) (gs' := fun _ => [gMd d h0 a0_kept a0_tried a0_chosen r0_rows r0_line r0_good r0_work x0_shelf x0_rowSort x0_rowSize x0_moved x0_shown x0_tape x0_tapeSize x0_refused x0_lines x0_changes x0_coins x0_goods x0_works x0_years x0_gone x0_spent x0_at x0_token x0_from x0_figures x0_fault x0_numbers x0_statements x0_left x0_far x0_tons x0_way x0_steps x0_met x0_queue x0_totals, gridJ d r0_rows 8 40 x0_rows]) (st' := fun _ => [.int v6]) (st := []) hK qd2_129.2.2.2.2.2.2.2.1 cv_RX7_78 ws_yX7_in (As := [.long ((p2).toInt64), .long (0 : Int64), .long (((v5 - 1)).toInt64)]) (kX7_in _ d ((p2).toInt64) (0 : Int64) (((v5 - 1)).toInt64) e7) rfl rfl (Nat.le_of_ble_eq_true rfl) (by decide) [] [0, 1] rfl (by decide +kernel) rfl rfl [0, 1] (by decide +kernel) (fun _ => rfl) (fun _ => rfl) rfl rfl rfl (fun _ => rfl) (fun _ => ?_)
        refine J_if_ne (tg := 77) hK qd2_129.2.2.2.2.2.2.2.2.1 rfl rfl (fun hc67 => ?_) (fun hc67 => ?_)
        · have hf := iq hc67 hf
          refine J_aload_n hK qd2_129.2.2.2.2.2.2.2.2.2.2.2.2.2.1 rfl 0 rfl rfl ?_
          refine J_get hK fo_RX7_21 qd2_129.2.2.2.2.2.2.2.2.2.2.2.2.2.2.1 rfl 0 0 rfl rfl rfl ?_
          refine J_iload_n hK qd2_129.2.2.2.2.2.2.2.2.2.2.2.2.2.2.2.1 rfl 1 rfl rfl ?_
          obtain ⟨q8, eq8, hf⟩ := bs hf
          refine J_aald hK qd2_130.1 rfl 0 4 rfl rfl rfl eq8 ?_
          refine J_iload_n hK qd2_130.2.1 rfl 2 rfl rfl ?_
          refine J_aload_n hK qd2_130.2.2.1 rfl 0 rfl rfl ?_
          refine J_get hK fo_RX7_13 qd2_130.2.2.2.1 rfl 0 0 rfl rfl rfl ?_
          refine J_iload_n hK qd2_130.2.2.2.2.1 rfl 1 rfl rfl ?_
          obtain ⟨v9, ev9, hf⟩ := bs hf
          refine J_iald hK qd2_130.2.2.2.2.2.1 rfl 0 2 rfl rfl ev9 ?_
          refine J_lload_n hK qd2_130.2.2.2.2.2.2.1 rfl 3 rfl rfl ?_
          obtain ⟨v10, e11, hf⟩ := bs hf
          refine J_callS (m := 2) (m' := 2) (ce' := 0) (sl' := 0) (gr := [gMd d h0 a0_kept a0_tried a0_chosen r0_rows r0_line r0_good r0_work x0_shelf x0_rowSort x0_rowSize x0_moved x0_shown x0_tape x0_tapeSize x0_refused x0_lines x0_changes x0_coins x0_goods x0_works x0_years x0_gone x0_spent x0_at x0_token x0_from x0_figures x0_fault x0_numbers x0_statements x0_left x0_far x0_tons x0_way x0_steps x0_met x0_queue x0_totals, gridJ d r0_rows 8 40 x0_rows]) (gs' := fun _ => [gMd d h0 a0_kept a0_tried a0_chosen r0_rows r0_line r0_good r0_work x0_shelf x0_rowSort x0_rowSize x0_moved x0_shown x0_tape x0_tapeSize x0_refused x0_lines x0_changes x0_coins x0_goods x0_works x0_years x0_gone x0_spent x0_at x0_token x0_from x0_figures x0_fault x0_numbers x0_statements x0_left x0_far x0_tons x0_way x0_steps x0_met x0_queue x0_totals, gridJ d r0_rows 8 40 x0_rows]) (st' := fun _ => [.long v10, .int p2, .ref (r0_rows q8)]) (st := [.int p2, .ref (r0_rows q8)]) hK qd2_130.2.2.2.2.2.2.2.1 cv_RX7_98 ws_yX7_fit (As := [.int v9, .long p3]) (kX7_fit _ d v9 p3 e11) rfl rfl (Nat.le_of_ble_eq_true rfl) (by decide) [] [0, 1] rfl (by decide +kernel) rfl rfl [0, 1] (by decide +kernel) (fun _ => rfl) (fun _ => rfl) rfl rfl rfl (fun _ => rfl) (fun _ => ?_)
          obtain ⟨f12, ef12, hf⟩ := bs hf
          refine J_last (g' := gridJ d r0_rows 8 40 (va_up x0_rows q8 f12)) (gs' := [gMd d h0 a0_kept a0_tried a0_chosen r0_rows r0_line r0_good r0_work x0_shelf x0_rowSort x0_rowSize x0_moved x0_shown x0_tape x0_tapeSize x0_refused x0_lines x0_changes x0_coins x0_goods x0_works x0_years x0_gone x0_spent x0_at x0_token x0_from x0_figures x0_fault x0_numbers x0_statements x0_left x0_far x0_tons x0_way x0_steps x0_met x0_queue x0_totals, gridJ d r0_rows 8 40 (va_up x0_rows q8 f12)]) hK qd2_130.2.2.2.2.2.2.2.2.1 rfl 1 q8 rfl (gridJ_at (ck_ok eq8).2.2) ef12 gridJ_set rfl ?_
          refine J_iconst (v := 1) hK qd2_130.2.2.2.2.2.2.2.2.2.1 rfl (by decide) ?_
          obtain rfl := Option.some.inj hf
          exact J_iret hK hR qd2_130.2.2.2.2.2.2.2.2.2.2.1 () rfl (by decide) (by decide)
        · have hf := ip hc67 hf
          refine J_aload_n hK qd2_129.2.2.2.2.2.2.2.2.2.1 rfl 0 rfl rfl ?_
          refine J_bipush (v := (-2)) hK qd2_129.2.2.2.2.2.2.2.2.2.2.1 rfl (by decide) ?_
          obtain ⟨⟨v13, g14⟩, e15, hf⟩ := bs hf
          have hf := un2 hf
          refine J_callV (m := 2) (m' := 2) (ce' := 0) (sl' := 0) (gr := [gridJ d r0_rows 8 40 x0_rows]) (gs' := fun _ => [gMd d h0 a0_kept a0_tried a0_chosen r0_rows r0_line r0_good r0_work x0_shelf x0_rowSort x0_rowSize x0_moved x0_shown x0_tape x0_tapeSize g14 x0_lines x0_changes x0_coins x0_goods x0_works x0_years x0_gone x0_spent x0_at x0_token x0_from x0_figures x0_fault x0_numbers x0_statements x0_left x0_far x0_tons x0_way x0_steps x0_met x0_queue x0_totals, gridJ d r0_rows 8 40 x0_rows]) (st' := fun _ => [.int v13]) (st := []) hK qd2_129.2.2.2.2.2.2.2.2.2.2.2.1 cv_RX7_94 iv_yX7_refuse (As := [.int (-2)]) (kX7_refuse _ d h0 r0_rows r0_line r0_good r0_work a0_kept a0_tried a0_chosen x0_shelf x0_rowSort x0_rowSize x0_rows x0_moved x0_shown x0_tape x0_tapeSize x0_refused x0_lines x0_line x0_changes x0_coins x0_goods x0_good x0_works x0_work x0_years x0_gone x0_spent x0_at x0_token x0_from x0_figures x0_fault x0_numbers x0_statements x0_left x0_far x0_tons x0_way x0_steps x0_met x0_queue x0_totals (-2) e15) rfl rfl (Nat.le_of_ble_eq_true rfl) (by decide) 0 0 rfl rfl rfl [0] [1] rfl (by decide +kernel) rfl rfl [1, 0] (by decide +kernel) (fun _ => rfl) (fun _ => rfl) rfl rfl rfl (fun _ => rfl) (fun _ => ?_)
          obtain rfl := Option.some.inj hf
          exact J_iret hK hR qd2_129.2.2.2.2.2.2.2.2.2.2.2.2.1 () rfl (by decide) (by decide)
      · have hf := ip hc42 hf
        refine J_aload_n hK qd2_128.2.2.2.2.2.2.2.2.2.1 rfl 0 rfl rfl ?_
        refine J_bipush (v := (-4)) hK qd2_128.2.2.2.2.2.2.2.2.2.2.1 rfl (by decide) ?_
        obtain ⟨⟨v16, g17⟩, e18, hf⟩ := bs hf
        have hf := un2 hf
        refine J_callV (m := 2) (m' := 2) (ce' := 0) (sl' := 0) (gr := [gridJ d r0_rows 8 40 x0_rows]) (gs' := fun _ => [gMd d h0 a0_kept a0_tried a0_chosen r0_rows r0_line r0_good r0_work x0_shelf x0_rowSort x0_rowSize x0_moved x0_shown x0_tape x0_tapeSize g17 x0_lines x0_changes x0_coins x0_goods x0_works x0_years x0_gone x0_spent x0_at x0_token x0_from x0_figures x0_fault x0_numbers x0_statements x0_left x0_far x0_tons x0_way x0_steps x0_met x0_queue x0_totals, gridJ d r0_rows 8 40 x0_rows]) (st' := fun _ => [.int v16]) (st := []) hK qd2_128.2.2.2.2.2.2.2.2.2.2.2.1 cv_RX7_94 iv_yX7_refuse (As := [.int (-4)]) (kX7_refuse _ d h0 r0_rows r0_line r0_good r0_work a0_kept a0_tried a0_chosen x0_shelf x0_rowSort x0_rowSize x0_rows x0_moved x0_shown x0_tape x0_tapeSize x0_refused x0_lines x0_line x0_changes x0_coins x0_goods x0_good x0_works x0_work x0_years x0_gone x0_spent x0_at x0_token x0_from x0_figures x0_fault x0_numbers x0_statements x0_left x0_far x0_tons x0_way x0_steps x0_met x0_queue x0_totals (-4) e18) rfl rfl (Nat.le_of_ble_eq_true rfl) (by decide) 0 0 rfl rfl rfl [0] [1] rfl (by decide +kernel) rfl rfl [1, 0] (by decide +kernel) (fun _ => rfl) (fun _ => rfl) rfl rfl rfl (fun _ => rfl) (fun _ => ?_)
        obtain rfl := Option.some.inj hf
        exact J_iret hK hR qd2_128.2.2.2.2.2.2.2.2.2.2.2.2.1 () rfl (by decide) (by decide)
    · have hf := ip hc26 hf
      refine J_aload_n hK qd2_128.1 rfl 0 rfl rfl ?_
      refine J_bipush (v := (-3)) hK qd2_128.2.1 rfl (by decide) ?_
      obtain ⟨⟨v19, g20⟩, e21, hf⟩ := bs hf
      have hf := un2 hf
      refine J_callV (m := 2) (m' := 2) (ce' := 0) (sl' := 0) (gr := [gridJ d r0_rows 8 40 x0_rows]) (gs' := fun _ => [gMd d h0 a0_kept a0_tried a0_chosen r0_rows r0_line r0_good r0_work x0_shelf x0_rowSort x0_rowSize x0_moved x0_shown x0_tape x0_tapeSize g20 x0_lines x0_changes x0_coins x0_goods x0_works x0_years x0_gone x0_spent x0_at x0_token x0_from x0_figures x0_fault x0_numbers x0_statements x0_left x0_far x0_tons x0_way x0_steps x0_met x0_queue x0_totals, gridJ d r0_rows 8 40 x0_rows]) (st' := fun _ => [.int v19]) (st := []) hK qd2_128.2.2.1 cv_RX7_94 iv_yX7_refuse (As := [.int (-3)]) (kX7_refuse _ d h0 r0_rows r0_line r0_good r0_work a0_kept a0_tried a0_chosen x0_shelf x0_rowSort x0_rowSize x0_rows x0_moved x0_shown x0_tape x0_tapeSize x0_refused x0_lines x0_line x0_changes x0_coins x0_goods x0_good x0_works x0_work x0_years x0_gone x0_spent x0_at x0_token x0_from x0_figures x0_fault x0_numbers x0_statements x0_left x0_far x0_tons x0_way x0_steps x0_met x0_queue x0_totals (-3) e21) rfl rfl (Nat.le_of_ble_eq_true rfl) (by decide) 0 0 rfl rfl rfl [0] [1] rfl (by decide +kernel) rfl rfl [1, 0] (by decide +kernel) (fun _ => rfl) (fun _ => rfl) rfl rfl rfl (fun _ => rfl) (fun _ => ?_)
      obtain rfl := Option.some.inj hf
      exact J_iret hK hR qd2_128.2.2.2.1 () rfl (by decide) (by decide)
  · have hf := ip hc9 hf
    refine J_aload_n hK qd2_127.2.2.2.2.2.2.1 rfl 0 rfl rfl ?_
    refine J_bipush (v := (-2)) hK qd2_127.2.2.2.2.2.2.2.1 rfl (by decide) ?_
    obtain ⟨⟨v22, g23⟩, e24, hf⟩ := bs hf
    have hf := un2 hf
    refine J_callV (m := 2) (m' := 2) (ce' := 0) (sl' := 0) (gr := [gridJ d r0_rows 8 40 x0_rows]) (gs' := fun _ => [gMd d h0 a0_kept a0_tried a0_chosen r0_rows r0_line r0_good r0_work x0_shelf x0_rowSort x0_rowSize x0_moved x0_shown x0_tape x0_tapeSize g23 x0_lines x0_changes x0_coins x0_goods x0_works x0_years x0_gone x0_spent x0_at x0_token x0_from x0_figures x0_fault x0_numbers x0_statements x0_left x0_far x0_tons x0_way x0_steps x0_met x0_queue x0_totals, gridJ d r0_rows 8 40 x0_rows]) (st' := fun _ => [.int v22]) (st := []) hK qd2_127.2.2.2.2.2.2.2.2.1 cv_RX7_94 iv_yX7_refuse (As := [.int (-2)]) (kX7_refuse _ d h0 r0_rows r0_line r0_good r0_work a0_kept a0_tried a0_chosen x0_shelf x0_rowSort x0_rowSize x0_rows x0_moved x0_shown x0_tape x0_tapeSize x0_refused x0_lines x0_line x0_changes x0_coins x0_goods x0_good x0_works x0_work x0_years x0_gone x0_spent x0_at x0_token x0_from x0_figures x0_fault x0_numbers x0_statements x0_left x0_far x0_tons x0_way x0_steps x0_met x0_queue x0_totals (-2) e24) rfl rfl (Nat.le_of_ble_eq_true rfl) (by decide) 0 0 rfl rfl rfl [0] [1] rfl (by decide +kernel) rfl rfl [1, 0] (by decide +kernel) (fun _ => rfl) (fun _ => rfl) rfl rfl rfl (fun _ => rfl) (fun _ => ?_)
    obtain rfl := Option.some.inj hf
    exact J_iret hK hR qd2_127.2.2.2.2.2.2.2.2.2.1 () rfl (by decide) (by decide)

def fX7_copy_s225 (p2 : Int32) (p4 : Int32) (p5 : Int32) (w48 : (Nat → Int64)) (z50 : Int32) (z51 : (Nat → Nat → Int64)) : Option ((Int32 × (Nat → Nat → Int64)) ⊕ ((Nat → Nat → Int64))) :=
  if p5 ≤ z50 then (some (.inr z51)) else ((ck p2 8).bind fun q54 => (rd 40 w48 z50).bind fun v55 => (wr 40 (z51 q54) (p4 + z50) v55).bind fun f56 => some (.inl ((z50 + 1), (va_up z51 q54 f56))))
def fX7_copy_s191 (p1 : Int32) (p3 : Int32) (p5 : Int32) (x0_rows : (Nat → Nat → Int64)) (z45 : Int32) (z46 : (Nat → Int64)) : Option ((Int32 × (Nat → Int64)) ⊕ ((Nat → Int64))) :=
  if p5 ≤ z45 then (some (.inr z46)) else ((ck p1 8).bind fun q57 => (rd 40 (x0_rows q57) (p3 + z45)).bind fun v58 => (wr 40 z46 z45 v58).bind fun f59 => some (.inl ((z45 + 1), f59)))
def fX7_copy_j93 (n : Nat) (p1 : Int32) (p2 : Int32) (p3 : Int32) (p4 : Int32) (p5 : Int32) (x0_shelf : (Nat → Int32)) (x0_rowSort : (Nat → Int32)) (x0_rowSize : (Nat → Int32)) (x0_rows : (Nat → Nat → Int64)) (x0_moved : (Nat → Int64)) (x0_shown : (Nat → Int32)) (x0_tape : (Nat → Int32)) (x0_tapeSize : Int32) (x0_refused : (Nat → Int32)) (x0_lines : Int32) (x0_line : (Nat → Nat → Int32)) (x0_changes : (Nat → Int32)) (x0_coins : (Nat → Int32)) (x0_goods : Int32) (x0_good : (Nat → Nat → Int32)) (x0_works : Int32) (x0_work : (Nat → Nat → Int32)) (x0_years : Int32) (x0_gone : Int32) (x0_spent : Int32) (x0_at : Int32) (x0_token : Int32) (x0_from : Int32) (x0_figures : Int64) (x0_fault : Int32) (x0_numbers : (Nat → Int32)) (x0_statements : Int32) (x0_left : (Nat → Int32)) (x0_far : (Nat → Int32)) (x0_tons : Int32) (x0_way : (Nat → Int32)) (x0_steps : Int32) (x0_met : Int64) (x0_queue : (Nat → Int32)) (x0_totals : (Nat → Int32)) : Option (Int32 × (Nat → Nat → Int64) × (Nat → Int64) × (Nat → Int32)) :=
  (rd 8 x0_shelf p1).bind fun v17 => if v17 = 0 then ((fX7_refuse (x0_shelf, x0_rowSort, x0_rowSize, x0_rows, x0_moved, x0_shown, x0_tape, x0_tapeSize, x0_refused, x0_lines, x0_line, x0_changes, x0_coins, x0_goods, x0_good, x0_works, x0_work, x0_years, x0_gone, x0_spent, x0_at, x0_token, x0_from, x0_figures, x0_fault, x0_numbers, x0_statements, x0_left, x0_far, x0_tons, x0_way, x0_steps, x0_met, x0_queue, x0_totals) (-4)).bind (u2 fun v18 g19 => some (v18, x0_rows, x0_moved, g19))) else ((rd 8 x0_shelf p2).bind fun v21 => if v21 = 0 then ((fX7_refuse (x0_shelf, x0_rowSort, x0_rowSize, x0_rows, x0_moved, x0_shown, x0_tape, x0_tapeSize, x0_refused, x0_lines, x0_line, x0_changes, x0_coins, x0_goods, x0_good, x0_works, x0_work, x0_years, x0_gone, x0_spent, x0_at, x0_token, x0_from, x0_figures, x0_fault, x0_numbers, x0_statements, x0_left, x0_far, x0_tons, x0_way, x0_steps, x0_met, x0_queue, x0_totals) (-4)).bind (u2 fun v63 g64 => some (v63, x0_rows, x0_moved, g64))) else (if p5 < 0 then ((fX7_refuse (x0_shelf, x0_rowSort, x0_rowSize, x0_rows, x0_moved, x0_shown, x0_tape, x0_tapeSize, x0_refused, x0_lines, x0_line, x0_changes, x0_coins, x0_goods, x0_good, x0_works, x0_work, x0_years, x0_gone, x0_spent, x0_at, x0_token, x0_from, x0_figures, x0_fault, x0_numbers, x0_statements, x0_left, x0_far, x0_tons, x0_way, x0_steps, x0_met, x0_queue, x0_totals) (-2)).bind (u2 fun v22 g23 => some (v22, x0_rows, x0_moved, g23))) else (if p3 < 0 then ((fX7_refuse (x0_shelf, x0_rowSort, x0_rowSize, x0_rows, x0_moved, x0_shown, x0_tape, x0_tapeSize, x0_refused, x0_lines, x0_line, x0_changes, x0_coins, x0_goods, x0_good, x0_works, x0_work, x0_years, x0_gone, x0_spent, x0_at, x0_token, x0_from, x0_figures, x0_fault, x0_numbers, x0_statements, x0_left, x0_far, x0_tons, x0_way, x0_steps, x0_met, x0_queue, x0_totals) (-2)).bind (u2 fun v25 g26 => some (v25, x0_rows, x0_moved, g26))) else (if p4 < 0 then ((fX7_refuse (x0_shelf, x0_rowSort, x0_rowSize, x0_rows, x0_moved, x0_shown, x0_tape, x0_tapeSize, x0_refused, x0_lines, x0_line, x0_changes, x0_coins, x0_goods, x0_good, x0_works, x0_work, x0_years, x0_gone, x0_spent, x0_at, x0_token, x0_from, x0_figures, x0_fault, x0_numbers, x0_statements, x0_left, x0_far, x0_tons, x0_way, x0_steps, x0_met, x0_queue, x0_totals) (-2)).bind (u2 fun v28 g29 => some (v28, x0_rows, x0_moved, g29))) else ((rd 8 x0_rowSize p1).bind fun v31 => if v31 < p5 then ((fX7_refuse (x0_shelf, x0_rowSort, x0_rowSize, x0_rows, x0_moved, x0_shown, x0_tape, x0_tapeSize, x0_refused, x0_lines, x0_line, x0_changes, x0_coins, x0_goods, x0_good, x0_works, x0_work, x0_years, x0_gone, x0_spent, x0_at, x0_token, x0_from, x0_figures, x0_fault, x0_numbers, x0_statements, x0_left, x0_far, x0_tons, x0_way, x0_steps, x0_met, x0_queue, x0_totals) (-2)).bind (u2 fun v32 g33 => some (v32, x0_rows, x0_moved, g33))) else ((rd 8 x0_rowSize p2).bind fun v35 => if v35 < p5 then ((fX7_refuse (x0_shelf, x0_rowSort, x0_rowSize, x0_rows, x0_moved, x0_shown, x0_tape, x0_tapeSize, x0_refused, x0_lines, x0_line, x0_changes, x0_coins, x0_goods, x0_good, x0_works, x0_work, x0_years, x0_gone, x0_spent, x0_at, x0_token, x0_from, x0_figures, x0_fault, x0_numbers, x0_statements, x0_left, x0_far, x0_tons, x0_way, x0_steps, x0_met, x0_queue, x0_totals) (-2)).bind (u2 fun v36 g37 => some (v36, x0_rows, x0_moved, g37))) else ((rd 8 x0_rowSize p1).bind fun v39 => if (v39 - p5) < p3 then ((fX7_refuse (x0_shelf, x0_rowSort, x0_rowSize, x0_rows, x0_moved, x0_shown, x0_tape, x0_tapeSize, x0_refused, x0_lines, x0_line, x0_changes, x0_coins, x0_goods, x0_good, x0_works, x0_work, x0_years, x0_gone, x0_spent, x0_at, x0_token, x0_from, x0_figures, x0_fault, x0_numbers, x0_statements, x0_left, x0_far, x0_tons, x0_way, x0_steps, x0_met, x0_queue, x0_totals) (-2)).bind (u2 fun v40 g41 => some (v40, x0_rows, x0_moved, g41))) else ((rd 8 x0_rowSize p2).bind fun v43 => if p4 ≤ (v43 - p5) then ((lp (u2 (fX7_copy_s191 p1 p3 p5 x0_rows)) n (0, x0_moved)).bind (fun w48 => (lp (u2 (fX7_copy_s225 p2 p4 p5 w48)) n (0, x0_rows)).bind (fun w53 => some (p5, w53, w48, x0_refused)))) else ((fX7_refuse (x0_shelf, x0_rowSort, x0_rowSize, x0_rows, x0_moved, x0_shown, x0_tape, x0_tapeSize, x0_refused, x0_lines, x0_line, x0_changes, x0_coins, x0_goods, x0_good, x0_works, x0_work, x0_years, x0_gone, x0_spent, x0_at, x0_token, x0_from, x0_figures, x0_fault, x0_numbers, x0_statements, x0_left, x0_far, x0_tons, x0_way, x0_steps, x0_met, x0_queue, x0_totals) (-2)).bind (u2 fun v60 g61 => some (v60, x0_rows, x0_moved, g61)))))))))))
def fX7_copy (n : Nat) (X0 : MdT) (p1 : Int32) (p2 : Int32) (p3 : Int32) (p4 : Int32) (p5 : Int32) : Option (Int32 × (Nat → Nat → Int64) × (Nat → Int64) × (Nat → Int32)) :=
  u35 (fun (x0_shelf : (Nat → Int32)) (x0_rowSort : (Nat → Int32)) (x0_rowSize : (Nat → Int32)) (x0_rows : (Nat → Nat → Int64)) (x0_moved : (Nat → Int64)) (x0_shown : (Nat → Int32)) (x0_tape : (Nat → Int32)) (x0_tapeSize : Int32) (x0_refused : (Nat → Int32)) (x0_lines : Int32) (x0_line : (Nat → Nat → Int32)) (x0_changes : (Nat → Int32)) (x0_coins : (Nat → Int32)) (x0_goods : Int32) (x0_good : (Nat → Nat → Int32)) (x0_works : Int32) (x0_work : (Nat → Nat → Int32)) (x0_years : Int32) (x0_gone : Int32) (x0_spent : Int32) (x0_at : Int32) (x0_token : Int32) (x0_from : Int32) (x0_figures : Int64) (x0_fault : Int32) (x0_numbers : (Nat → Int32)) (x0_statements : Int32) (x0_left : (Nat → Int32)) (x0_far : (Nat → Int32)) (x0_tons : Int32) (x0_way : (Nat → Int32)) (x0_steps : Int32) (x0_met : Int64) (x0_queue : (Nat → Int32)) (x0_totals : (Nat → Int32)) => (fX7_in ((p1).toInt64) (0 : Int64) (7 : Int64)).bind (fun v1 => if v1 = 0 then ((fX7_refuse (x0_shelf, x0_rowSort, x0_rowSize, x0_rows, x0_moved, x0_shown, x0_tape, x0_tapeSize, x0_refused, x0_lines, x0_line, x0_changes, x0_coins, x0_goods, x0_good, x0_works, x0_work, x0_years, x0_gone, x0_spent, x0_at, x0_token, x0_from, x0_figures, x0_fault, x0_numbers, x0_statements, x0_left, x0_far, x0_tons, x0_way, x0_steps, x0_met, x0_queue, x0_totals) (-2)).bind (u2 fun v3 g4 => some (v3, x0_rows, x0_moved, g4))) else ((fX7_in ((p2).toInt64) (0 : Int64) (7 : Int64)).bind (fun v6 => if v6 = 0 then ((fX7_refuse (x0_shelf, x0_rowSort, x0_rowSize, x0_rows, x0_moved, x0_shown, x0_tape, x0_tapeSize, x0_refused, x0_lines, x0_line, x0_changes, x0_coins, x0_goods, x0_good, x0_works, x0_work, x0_years, x0_gone, x0_spent, x0_at, x0_token, x0_from, x0_figures, x0_fault, x0_numbers, x0_statements, x0_left, x0_far, x0_tons, x0_way, x0_steps, x0_met, x0_queue, x0_totals) (-2)).bind (u2 fun v72 g73 => some (v72, x0_rows, x0_moved, g73))) else ((rd 8 x0_shelf p1).bind fun v8 => if v8 = 2 then ((fX7_refuse (x0_shelf, x0_rowSort, x0_rowSize, x0_rows, x0_moved, x0_shown, x0_tape, x0_tapeSize, x0_refused, x0_lines, x0_line, x0_changes, x0_coins, x0_goods, x0_good, x0_works, x0_work, x0_years, x0_gone, x0_spent, x0_at, x0_token, x0_from, x0_figures, x0_fault, x0_numbers, x0_statements, x0_left, x0_far, x0_tons, x0_way, x0_steps, x0_met, x0_queue, x0_totals) (-3)).bind (u2 fun v9 g10 => some (v9, x0_rows, x0_moved, g10))) else ((rd 8 x0_shelf p2).bind fun v12 => if v12 = 2 then ((fX7_refuse (x0_shelf, x0_rowSort, x0_rowSize, x0_rows, x0_moved, x0_shown, x0_tape, x0_tapeSize, x0_refused, x0_lines, x0_line, x0_changes, x0_coins, x0_goods, x0_good, x0_works, x0_work, x0_years, x0_gone, x0_spent, x0_at, x0_token, x0_from, x0_figures, x0_fault, x0_numbers, x0_statements, x0_left, x0_far, x0_tons, x0_way, x0_steps, x0_met, x0_queue, x0_totals) (-3)).bind (u2 fun v13 g14 => some (v13, x0_rows, x0_moved, g14))) else ((rd 8 x0_shelf p1).bind fun v16 => if v16 = 1 then ((rd 8 x0_shelf p2).bind fun v66 => if v66 = 1 then ((rd 8 x0_rowSort p1).bind fun v67 => (rd 8 x0_rowSort p2).bind fun v68 => if v67 = v68 then (fX7_copy_j93 n p1 p2 p3 p4 p5 x0_shelf x0_rowSort x0_rowSize x0_rows x0_moved x0_shown x0_tape x0_tapeSize x0_refused x0_lines x0_line x0_changes x0_coins x0_goods x0_good x0_works x0_work x0_years x0_gone x0_spent x0_at x0_token x0_from x0_figures x0_fault x0_numbers x0_statements x0_left x0_far x0_tons x0_way x0_steps x0_met x0_queue x0_totals) else ((fX7_refuse (x0_shelf, x0_rowSort, x0_rowSize, x0_rows, x0_moved, x0_shown, x0_tape, x0_tapeSize, x0_refused, x0_lines, x0_line, x0_changes, x0_coins, x0_goods, x0_good, x0_works, x0_work, x0_years, x0_gone, x0_spent, x0_at, x0_token, x0_from, x0_figures, x0_fault, x0_numbers, x0_statements, x0_left, x0_far, x0_tons, x0_way, x0_steps, x0_met, x0_queue, x0_totals) (-3)).bind (u2 fun v69 g70 => some (v69, x0_rows, x0_moved, g70)))) else (fX7_copy_j93 n p1 p2 p3 p4 p5 x0_shelf x0_rowSort x0_rowSize x0_rows x0_moved x0_shown x0_tape x0_tapeSize x0_refused x0_lines x0_line x0_changes x0_coins x0_goods x0_good x0_works x0_work x0_years x0_gone x0_spent x0_at x0_token x0_from x0_figures x0_fault x0_numbers x0_statements x0_left x0_far x0_tons x0_way x0_steps x0_met x0_queue x0_totals)) else (fX7_copy_j93 n p1 p2 p3 p4 p5 x0_shelf x0_rowSort x0_rowSize x0_rows x0_moved x0_shown x0_tape x0_tapeSize x0_refused x0_lines x0_line x0_changes x0_coins x0_goods x0_good x0_works x0_work x0_years x0_gone x0_spent x0_at x0_token x0_from x0_figures x0_fault x0_numbers x0_statements x0_left x0_far x0_tons x0_way x0_steps x0_met x0_queue x0_totals)))))))) X0
set_option maxHeartbeats 4000000 in
set_option maxRecDepth 100000 in
theorem kX7_copy (l : Launch) (d : DT) (h0 : Nat → Nat) (r0_rows : Nat → Nat) (r0_line : Nat → Nat) (r0_good : Nat → Nat) (r0_work : Nat → Nat) (a0_kept : Option Nat) (a0_tried : Option Nat) (a0_chosen : Option Nat) (n : Nat) (x0_shelf : (Nat → Int32)) (x0_rowSort : (Nat → Int32)) (x0_rowSize : (Nat → Int32)) (x0_rows : (Nat → Nat → Int64)) (x0_moved : (Nat → Int64)) (x0_shown : (Nat → Int32)) (x0_tape : (Nat → Int32)) (x0_tapeSize : Int32) (x0_refused : (Nat → Int32)) (x0_lines : Int32) (x0_line : (Nat → Nat → Int32)) (x0_changes : (Nat → Int32)) (x0_coins : (Nat → Int32)) (x0_goods : Int32) (x0_good : (Nat → Nat → Int32)) (x0_works : Int32) (x0_work : (Nat → Nat → Int32)) (x0_years : Int32) (x0_gone : Int32) (x0_spent : Int32) (x0_at : Int32) (x0_token : Int32) (x0_from : Int32) (x0_figures : Int64) (x0_fault : Int32) (x0_numbers : (Nat → Int32)) (x0_statements : Int32) (x0_left : (Nat → Int32)) (x0_far : (Nat → Int32)) (x0_tons : Int32) (x0_way : (Nat → Int32)) (x0_steps : Int32) (x0_met : Int64) (x0_queue : (Nat → Int32)) (x0_totals : (Nat → Int32)) (p1 : Int32) (p2 : Int32) (p3 : Int32) (p4 : Int32) (p5 : Int32)  {out : Int32 × (Nat → Nat → Int64) × (Nat → Int64) × (Nat → Int32)} (hf : fX7_copy n (x0_shelf, x0_rowSort, x0_rowSize, x0_rows, x0_moved, x0_shown, x0_tape, x0_tapeSize, x0_refused, x0_lines, x0_line, x0_changes, x0_coins, x0_goods, x0_good, x0_works, x0_work, x0_years, x0_gone, x0_spent, x0_at, x0_token, x0_from, x0_figures, x0_fault, x0_numbers, x0_statements, x0_left, x0_far, x0_tons, x0_way, x0_steps, x0_met, x0_queue, x0_totals) p1 p2 p3 p4 p5 = some out) : Ct l d yX7_copy cX7_copy 7 (some .int) { frames := 1, cells := 0, slots := 0, locals := 25 } [.ref (h0 0), .int p1, .int p2, .int p3, .int p4, .int p5] [gMd d h0 a0_kept a0_tried a0_chosen r0_rows r0_line r0_good r0_work x0_shelf x0_rowSort x0_rowSize x0_moved x0_shown x0_tape x0_tapeSize x0_refused x0_lines x0_changes x0_coins x0_goods x0_works x0_years x0_gone x0_spent x0_at x0_token x0_from x0_figures x0_fault x0_numbers x0_statements x0_left x0_far x0_tons x0_way x0_steps x0_met x0_queue x0_totals, gridJ d r0_rows 8 40 x0_rows] (fun _ : Unit => (some (.int out.1), [gMd d h0 a0_kept a0_tried a0_chosen r0_rows r0_line r0_good r0_work x0_shelf x0_rowSort x0_rowSize (out.2.2.1) x0_shown x0_tape x0_tapeSize (out.2.2.2) x0_lines x0_changes x0_coins x0_goods x0_works x0_years x0_gone x0_spent x0_at x0_token x0_from x0_figures x0_fault x0_numbers x0_statements x0_left x0_far x0_tons x0_way x0_steps x0_met x0_queue x0_totals, gridJ d r0_rows 8 40 (out.2.1)])) := by
  refine Ct.of (by decide) (Nat.le_of_ble_eq_true rfl) ?_
  intro Φ hl hK hR
  subst hl
  have hK : Ok d Φ RX7 "copy" cX7_copy 7 (some .int) { frames := 1, cells := 0, slots := 0, locals := 25 } := hK
  unfold fX7_copy at hf
  have hf := un35 hf
  show J d Φ 7 [gMd d h0 a0_kept a0_tried a0_chosen r0_rows r0_line r0_good r0_work x0_shelf x0_rowSort x0_rowSize x0_moved x0_shown x0_tape x0_tapeSize x0_refused x0_lines x0_changes x0_coins x0_goods x0_works x0_years x0_gone x0_spent x0_at x0_token x0_from x0_figures x0_fault x0_numbers x0_statements x0_left x0_far x0_tons x0_way x0_steps x0_met x0_queue x0_totals, gridJ d r0_rows 8 40 x0_rows] 0 0 0 [(0, .ref (h0 0)), (1, .int p1), (2, .int p2), (3, .int p3), (4, .int p4), (5, .int p5)] []
  refine J_iload_n hK qd2_131.1 rfl 1 rfl rfl ?_
  refine J_i2l hK qd2_131.2.1 rfl ?_
  refine J_lconst (v := 0) hK qd2_131.2.2.1 rfl (by decide) ?_
  refine J_ldc2 (v := (7 : Int64)) hK qd2_131.2.2.2.1 rfl wk_RX7_88 ?_
  obtain ⟨v1, e2, hf⟩ := bs hf
  refine J_callS (m := 2) (m' := 2) (ce' := 0) (sl' := 0) (gr := [gMd d h0 a0_kept a0_tried a0_chosen r0_rows r0_line r0_good r0_work x0_shelf x0_rowSort x0_rowSize x0_moved x0_shown x0_tape x0_tapeSize x0_refused x0_lines x0_changes x0_coins x0_goods x0_works x0_years x0_gone x0_spent x0_at x0_token x0_from x0_figures x0_fault x0_numbers x0_statements x0_left x0_far x0_tons x0_way x0_steps x0_met x0_queue x0_totals, gridJ d r0_rows 8 40 x0_rows]) (gs' := fun _ => [gMd d h0 a0_kept a0_tried a0_chosen r0_rows r0_line r0_good r0_work x0_shelf x0_rowSort x0_rowSize x0_moved x0_shown x0_tape x0_tapeSize x0_refused x0_lines x0_changes x0_coins x0_goods x0_works x0_years x0_gone x0_spent x0_at x0_token x0_from x0_figures x0_fault x0_numbers x0_statements x0_left x0_far x0_tons x0_way x0_steps x0_met x0_queue x0_totals, gridJ d r0_rows 8 40 x0_rows]) (st' := fun _ => [.int v1]) (st := []) hK qd2_131.2.2.2.2.1 cv_RX7_78 ws_yX7_in (As := [.long ((p1).toInt64), .long (0 : Int64), .long (7 : Int64)]) (kX7_in _ d ((p1).toInt64) (0 : Int64) (7 : Int64) e2) rfl rfl (Nat.le_of_ble_eq_true rfl) (by decide) [] [0, 1] rfl (by decide +kernel) rfl rfl [0, 1] (by decide +kernel) (fun _ => rfl) (fun _ => rfl) rfl rfl rfl (fun _ => rfl) (fun _ => ?_)
  refine J_if_eq (tg := 24) hK qd2_131.2.2.2.2.2.1 rfl rfl (fun hc9 => ?_) (fun hc9 => ?_)
  · have hf := ip hc9 hf
    refine J_aload_n hK qd2_131.2.2.2.2.2.2.2.2.2.2.2.2.1 rfl 0 rfl rfl ?_
    refine J_bipush (v := (-2)) hK qd2_131.2.2.2.2.2.2.2.2.2.2.2.2.2.1 rfl (by decide) ?_
    obtain ⟨⟨v3, g4⟩, e5, hf⟩ := bs hf
    have hf := un2 hf
    refine J_callV (m := 2) (m' := 2) (ce' := 0) (sl' := 0) (gr := [gridJ d r0_rows 8 40 x0_rows]) (gs' := fun _ => [gMd d h0 a0_kept a0_tried a0_chosen r0_rows r0_line r0_good r0_work x0_shelf x0_rowSort x0_rowSize x0_moved x0_shown x0_tape x0_tapeSize g4 x0_lines x0_changes x0_coins x0_goods x0_works x0_years x0_gone x0_spent x0_at x0_token x0_from x0_figures x0_fault x0_numbers x0_statements x0_left x0_far x0_tons x0_way x0_steps x0_met x0_queue x0_totals, gridJ d r0_rows 8 40 x0_rows]) (st' := fun _ => [.int v3]) (st := []) hK qd2_131.2.2.2.2.2.2.2.2.2.2.2.2.2.2.1 cv_RX7_94 iv_yX7_refuse (As := [.int (-2)]) (kX7_refuse _ d h0 r0_rows r0_line r0_good r0_work a0_kept a0_tried a0_chosen x0_shelf x0_rowSort x0_rowSize x0_rows x0_moved x0_shown x0_tape x0_tapeSize x0_refused x0_lines x0_line x0_changes x0_coins x0_goods x0_good x0_works x0_work x0_years x0_gone x0_spent x0_at x0_token x0_from x0_figures x0_fault x0_numbers x0_statements x0_left x0_far x0_tons x0_way x0_steps x0_met x0_queue x0_totals (-2) e5) rfl rfl (Nat.le_of_ble_eq_true rfl) (by decide) 0 0 rfl rfl rfl [0] [1] rfl (by decide +kernel) rfl rfl [1, 0] (by decide +kernel) (fun _ => rfl) (fun _ => rfl) rfl rfl rfl (fun _ => rfl) (fun _ => ?_)
    obtain rfl := Option.some.inj hf
    exact J_iret hK hR qd2_131.2.2.2.2.2.2.2.2.2.2.2.2.2.2.2.1 () rfl (by decide) (by decide)
  · have hf := iq hc9 hf
    refine J_iload_n hK qd2_131.2.2.2.2.2.2.1 rfl 2 rfl rfl ?_
    refine J_i2l hK qd2_131.2.2.2.2.2.2.2.1 rfl ?_
    refine J_lconst (v := 0) hK qd2_131.2.2.2.2.2.2.2.2.1 rfl (by decide) ?_
    refine J_ldc2 (v := (7 : Int64)) hK qd2_131.2.2.2.2.2.2.2.2.2.1 rfl wk_RX7_88 ?_
    obtain ⟨v6, e7, hf⟩ := bs hf
    refine J_callS (m := 2) (m' := 2) (ce' := 0) (sl' := 0) (gr := [gMd d h0 a0_kept a0_tried a0_chosen r0_rows r0_line r0_good r0_work x0_shelf x0_rowSort x0_rowSize x0_moved x0_shown x0_tape x0_tapeSize x0_refused x0_lines x0_changes x0_coins x0_goods x0_works x0_years x0_gone x0_spent x0_at x0_token x0_from x0_figures x0_fault x0_numbers x0_statements x0_left x0_far x0_tons x0_way x0_steps x0_met x0_queue x0_totals, gridJ d r0_rows 8 40 x0_rows]) (gs' := fun _ => [gMd d h0 a0_kept a0_tried a0_chosen r0_rows r0_line r0_good r0_work x0_shelf x0_rowSort x0_rowSize x0_moved x0_shown x0_tape x0_tapeSize x0_refused x0_lines x0_changes x0_coins x0_goods x0_works x0_years x0_gone x0_spent x0_at x0_token x0_from x0_figures x0_fault x0_numbers x0_statements x0_left x0_far x0_tons x0_way x0_steps x0_met x0_queue x0_totals, gridJ d r0_rows 8 40 x0_rows]) (st' := fun _ => [.int v6]) (st := []) hK qd2_131.2.2.2.2.2.2.2.2.2.2.1 cv_RX7_78 ws_yX7_in (As := [.long ((p2).toInt64), .long (0 : Int64), .long (7 : Int64)]) (kX7_in _ d ((p2).toInt64) (0 : Int64) (7 : Int64) e7) rfl rfl (Nat.le_of_ble_eq_true rfl) (by decide) [] [0, 1] rfl (by decide +kernel) rfl rfl [0, 1] (by decide +kernel) (fun _ => rfl) (fun _ => rfl) rfl rfl rfl (fun _ => rfl) (fun _ => ?_)
    refine J_if_ne (tg := 31) hK qd2_131.2.2.2.2.2.2.2.2.2.2.2.1 rfl rfl (fun hc21 => ?_) (fun hc21 => ?_)
    · have hf := iq hc21 hf
      refine J_aload_n hK qd2_132.1 rfl 0 rfl rfl ?_
      refine J_get hK fo_RX7_7 qd2_132.2.1 rfl 0 0 rfl rfl rfl ?_
      refine J_iload_n hK qd2_132.2.2.1 rfl 1 rfl rfl ?_
      obtain ⟨v8, ev8, hf⟩ := bs hf
      refine J_iald hK qd2_132.2.2.2.1 rfl 0 1 rfl rfl ev8 ?_
      refine J_iconst (v := 2) hK qd2_132.2.2.2.2.1 rfl (by decide) ?_
      refine J_icmp_eq (tg := 86) hK qd2_132.2.2.2.2.2.1 rfl rfl (fun hc38 => ?_) (fun hc38 => ?_)
      · have hf := ip hc38 hf
        refine J_aload_n hK qd2_134.2.1 rfl 0 rfl rfl ?_
        refine J_bipush (v := (-3)) hK qd2_134.2.2.1 rfl (by decide) ?_
        obtain ⟨⟨v9, g10⟩, e11, hf⟩ := bs hf
        have hf := un2 hf
        refine J_callV (m := 2) (m' := 2) (ce' := 0) (sl' := 0) (gr := [gridJ d r0_rows 8 40 x0_rows]) (gs' := fun _ => [gMd d h0 a0_kept a0_tried a0_chosen r0_rows r0_line r0_good r0_work x0_shelf x0_rowSort x0_rowSize x0_moved x0_shown x0_tape x0_tapeSize g10 x0_lines x0_changes x0_coins x0_goods x0_works x0_years x0_gone x0_spent x0_at x0_token x0_from x0_figures x0_fault x0_numbers x0_statements x0_left x0_far x0_tons x0_way x0_steps x0_met x0_queue x0_totals, gridJ d r0_rows 8 40 x0_rows]) (st' := fun _ => [.int v9]) (st := []) hK qd2_134.2.2.2.1 cv_RX7_94 iv_yX7_refuse (As := [.int (-3)]) (kX7_refuse _ d h0 r0_rows r0_line r0_good r0_work a0_kept a0_tried a0_chosen x0_shelf x0_rowSort x0_rowSize x0_rows x0_moved x0_shown x0_tape x0_tapeSize x0_refused x0_lines x0_line x0_changes x0_coins x0_goods x0_good x0_works x0_work x0_years x0_gone x0_spent x0_at x0_token x0_from x0_figures x0_fault x0_numbers x0_statements x0_left x0_far x0_tons x0_way x0_steps x0_met x0_queue x0_totals (-3) e11) rfl rfl (Nat.le_of_ble_eq_true rfl) (by decide) 0 0 rfl rfl rfl [0] [1] rfl (by decide +kernel) rfl rfl [1, 0] (by decide +kernel) (fun _ => rfl) (fun _ => rfl) rfl rfl rfl (fun _ => rfl) (fun _ => ?_)
        obtain rfl := Option.some.inj hf
        exact J_iret hK hR qd2_134.2.2.2.2.1 () rfl (by decide) (by decide)
      · have hf := iq hc38 hf
        refine J_aload_n hK qd2_132.2.2.2.2.2.2.1 rfl 0 rfl rfl ?_
        refine J_get hK fo_RX7_7 qd2_132.2.2.2.2.2.2.2.1 rfl 0 0 rfl rfl rfl ?_
        refine J_iload_n hK qd2_132.2.2.2.2.2.2.2.2.1 rfl 2 rfl rfl ?_
        obtain ⟨v12, ev12, hf⟩ := bs hf
        refine J_iald hK qd2_132.2.2.2.2.2.2.2.2.2.1 rfl 0 1 rfl rfl ev12 ?_
        refine J_iconst (v := 2) hK qd2_132.2.2.2.2.2.2.2.2.2.2.1 rfl (by decide) ?_
        refine J_icmp_eq (tg := 86) hK qd2_132.2.2.2.2.2.2.2.2.2.2.2.1 rfl rfl (fun hc48 => ?_) (fun hc48 => ?_)
        · have hf := ip hc48 hf
          refine J_aload_n hK qd2_134.2.1 rfl 0 rfl rfl ?_
          refine J_bipush (v := (-3)) hK qd2_134.2.2.1 rfl (by decide) ?_
          obtain ⟨⟨v13, g14⟩, e15, hf⟩ := bs hf
          have hf := un2 hf
          refine J_callV (m := 2) (m' := 2) (ce' := 0) (sl' := 0) (gr := [gridJ d r0_rows 8 40 x0_rows]) (gs' := fun _ => [gMd d h0 a0_kept a0_tried a0_chosen r0_rows r0_line r0_good r0_work x0_shelf x0_rowSort x0_rowSize x0_moved x0_shown x0_tape x0_tapeSize g14 x0_lines x0_changes x0_coins x0_goods x0_works x0_years x0_gone x0_spent x0_at x0_token x0_from x0_figures x0_fault x0_numbers x0_statements x0_left x0_far x0_tons x0_way x0_steps x0_met x0_queue x0_totals, gridJ d r0_rows 8 40 x0_rows]) (st' := fun _ => [.int v13]) (st := []) hK qd2_134.2.2.2.1 cv_RX7_94 iv_yX7_refuse (As := [.int (-3)]) (kX7_refuse _ d h0 r0_rows r0_line r0_good r0_work a0_kept a0_tried a0_chosen x0_shelf x0_rowSort x0_rowSize x0_rows x0_moved x0_shown x0_tape x0_tapeSize x0_refused x0_lines x0_line x0_changes x0_coins x0_goods x0_good x0_works x0_work x0_years x0_gone x0_spent x0_at x0_token x0_from x0_figures x0_fault x0_numbers x0_statements x0_left x0_far x0_tons x0_way x0_steps x0_met x0_queue x0_totals (-3) e15) rfl rfl (Nat.le_of_ble_eq_true rfl) (by decide) 0 0 rfl rfl rfl [0] [1] rfl (by decide +kernel) rfl rfl [1, 0] (by decide +kernel) (fun _ => rfl) (fun _ => rfl) rfl rfl rfl (fun _ => rfl) (fun _ => ?_)
          obtain rfl := Option.some.inj hf
          exact J_iret hK hR qd2_134.2.2.2.2.1 () rfl (by decide) (by decide)
        · have hf := iq hc48 hf
          refine J_aload_n hK qd2_132.2.2.2.2.2.2.2.2.2.2.2.2.1 rfl 0 rfl rfl ?_
          refine J_get hK fo_RX7_7 qd2_132.2.2.2.2.2.2.2.2.2.2.2.2.2.1 rfl 0 0 rfl rfl rfl ?_
          refine J_iload_n hK qd2_132.2.2.2.2.2.2.2.2.2.2.2.2.2.2.1 rfl 1 rfl rfl ?_
          obtain ⟨v16, ev16, hf⟩ := bs hf
          refine J_iald hK qd2_132.2.2.2.2.2.2.2.2.2.2.2.2.2.2.2.1 rfl 0 1 rfl rfl ev16 ?_
          refine J_iconst (v := 1) hK qd2_133.1 rfl (by decide) ?_
          have j93 : fX7_copy_j93 n p1 p2 p3 p4 p5 x0_shelf x0_rowSort x0_rowSize x0_rows x0_moved x0_shown x0_tape x0_tapeSize x0_refused x0_lines x0_line x0_changes x0_coins x0_goods x0_good x0_works x0_work x0_years x0_gone x0_spent x0_at x0_token x0_from x0_figures x0_fault x0_numbers x0_statements x0_left x0_far x0_tons x0_way x0_steps x0_met x0_queue x0_totals = some out → J d Φ 7 [gMd d h0 a0_kept a0_tried a0_chosen r0_rows r0_line r0_good r0_work x0_shelf x0_rowSort x0_rowSize x0_moved x0_shown x0_tape x0_tapeSize x0_refused x0_lines x0_changes x0_coins x0_goods x0_works x0_years x0_gone x0_spent x0_at x0_token x0_from x0_figures x0_fault x0_numbers x0_statements x0_left x0_far x0_tons x0_way x0_steps x0_met x0_queue x0_totals, gridJ d r0_rows 8 40 x0_rows] 0 0 93 [(0, .ref (h0 0)), (1, .int p1), (2, .int p2), (3, .int p3), (4, .int p4), (5, .int p5)] [] := by
            intro  hf
            unfold fX7_copy_j93 at hf
            refine J_aload_n hK qd2_134.2.2.2.2.2.1 rfl 0 rfl rfl ?_
            refine J_get hK fo_RX7_7 qd2_134.2.2.2.2.2.2.1 rfl 0 0 rfl rfl rfl ?_
            refine J_iload_n hK qd2_134.2.2.2.2.2.2.2.1 rfl 1 rfl rfl ?_
            obtain ⟨v17, ev17, hf⟩ := bs hf
            refine J_iald hK qd2_134.2.2.2.2.2.2.2.2.1 rfl 0 1 rfl rfl ev17 ?_
            refine J_if_eq (tg := 111) hK qd2_134.2.2.2.2.2.2.2.2.2.1 rfl rfl (fun hc99 => ?_) (fun hc99 => ?_)
            · have hf := ip hc99 hf
              refine J_aload_n hK qd2_134.2.2.2.2.2.2.2.2.2.2.2.2.2.2.2.1 rfl 0 rfl rfl ?_
              refine J_bipush (v := (-4)) hK qd2_135.1 rfl (by decide) ?_
              obtain ⟨⟨v18, g19⟩, e20, hf⟩ := bs hf
              have hf := un2 hf
              refine J_callV (m := 2) (m' := 2) (ce' := 0) (sl' := 0) (gr := [gridJ d r0_rows 8 40 x0_rows]) (gs' := fun _ => [gMd d h0 a0_kept a0_tried a0_chosen r0_rows r0_line r0_good r0_work x0_shelf x0_rowSort x0_rowSize x0_moved x0_shown x0_tape x0_tapeSize g19 x0_lines x0_changes x0_coins x0_goods x0_works x0_years x0_gone x0_spent x0_at x0_token x0_from x0_figures x0_fault x0_numbers x0_statements x0_left x0_far x0_tons x0_way x0_steps x0_met x0_queue x0_totals, gridJ d r0_rows 8 40 x0_rows]) (st' := fun _ => [.int v18]) (st := []) hK qd2_135.2.1 cv_RX7_94 iv_yX7_refuse (As := [.int (-4)]) (kX7_refuse _ d h0 r0_rows r0_line r0_good r0_work a0_kept a0_tried a0_chosen x0_shelf x0_rowSort x0_rowSize x0_rows x0_moved x0_shown x0_tape x0_tapeSize x0_refused x0_lines x0_line x0_changes x0_coins x0_goods x0_good x0_works x0_work x0_years x0_gone x0_spent x0_at x0_token x0_from x0_figures x0_fault x0_numbers x0_statements x0_left x0_far x0_tons x0_way x0_steps x0_met x0_queue x0_totals (-4) e20) rfl rfl (Nat.le_of_ble_eq_true rfl) (by decide) 0 0 rfl rfl rfl [0] [1] rfl (by decide +kernel) rfl rfl [1, 0] (by decide +kernel) (fun _ => rfl) (fun _ => rfl) rfl rfl rfl (fun _ => rfl) (fun _ => ?_)
              obtain rfl := Option.some.inj hf
              exact J_iret hK hR qd2_135.2.2.1 () rfl (by decide) (by decide)
            · have hf := iq hc99 hf
              refine J_aload_n hK qd2_134.2.2.2.2.2.2.2.2.2.2.1 rfl 0 rfl rfl ?_
              refine J_get hK fo_RX7_7 qd2_134.2.2.2.2.2.2.2.2.2.2.2.1 rfl 0 0 rfl rfl rfl ?_
              refine J_iload_n hK qd2_134.2.2.2.2.2.2.2.2.2.2.2.2.1 rfl 2 rfl rfl ?_
              obtain ⟨v21, ev21, hf⟩ := bs hf
              refine J_iald hK qd2_134.2.2.2.2.2.2.2.2.2.2.2.2.2.1 rfl 0 1 rfl rfl ev21 ?_
              refine J_if_ne (tg := 118) hK qd2_134.2.2.2.2.2.2.2.2.2.2.2.2.2.2.1 rfl rfl (fun hc108 => ?_) (fun hc108 => ?_)
              · have hf := iq hc108 hf
                refine J_iload hK qd2_135.2.2.2.1 rfl 5 rfl ?_
                refine J_if_lt (tg := 181) hK qd2_135.2.2.2.2.1 rfl rfl (fun hc120 => ?_) (fun hc120 => ?_)
                · have hf := ip hc120 hf
                  refine J_aload_n hK qd2_137.2.2.2.2.2.1 rfl 0 rfl rfl ?_
                  refine J_bipush (v := (-2)) hK qd2_137.2.2.2.2.2.2.1 rfl (by decide) ?_
                  obtain ⟨⟨v22, g23⟩, e24, hf⟩ := bs hf
                  have hf := un2 hf
                  refine J_callV (m := 2) (m' := 2) (ce' := 0) (sl' := 0) (gr := [gridJ d r0_rows 8 40 x0_rows]) (gs' := fun _ => [gMd d h0 a0_kept a0_tried a0_chosen r0_rows r0_line r0_good r0_work x0_shelf x0_rowSort x0_rowSize x0_moved x0_shown x0_tape x0_tapeSize g23 x0_lines x0_changes x0_coins x0_goods x0_works x0_years x0_gone x0_spent x0_at x0_token x0_from x0_figures x0_fault x0_numbers x0_statements x0_left x0_far x0_tons x0_way x0_steps x0_met x0_queue x0_totals, gridJ d r0_rows 8 40 x0_rows]) (st' := fun _ => [.int v22]) (st := []) hK qd2_137.2.2.2.2.2.2.2.1 cv_RX7_94 iv_yX7_refuse (As := [.int (-2)]) (kX7_refuse _ d h0 r0_rows r0_line r0_good r0_work a0_kept a0_tried a0_chosen x0_shelf x0_rowSort x0_rowSize x0_rows x0_moved x0_shown x0_tape x0_tapeSize x0_refused x0_lines x0_line x0_changes x0_coins x0_goods x0_good x0_works x0_work x0_years x0_gone x0_spent x0_at x0_token x0_from x0_figures x0_fault x0_numbers x0_statements x0_left x0_far x0_tons x0_way x0_steps x0_met x0_queue x0_totals (-2) e24) rfl rfl (Nat.le_of_ble_eq_true rfl) (by decide) 0 0 rfl rfl rfl [0] [1] rfl (by decide +kernel) rfl rfl [1, 0] (by decide +kernel) (fun _ => rfl) (fun _ => rfl) rfl rfl rfl (fun _ => rfl) (fun _ => ?_)
                  obtain rfl := Option.some.inj hf
                  exact J_iret hK hR qd2_137.2.2.2.2.2.2.2.2.1 () rfl (by decide) (by decide)
                · have hf := iq hc120 hf
                  refine J_iload_n hK qd2_135.2.2.2.2.2.1 rfl 3 rfl rfl ?_
                  refine J_if_lt (tg := 181) hK qd2_135.2.2.2.2.2.2.1 rfl rfl (fun hc124 => ?_) (fun hc124 => ?_)
                  · have hf := ip hc124 hf
                    refine J_aload_n hK qd2_137.2.2.2.2.2.1 rfl 0 rfl rfl ?_
                    refine J_bipush (v := (-2)) hK qd2_137.2.2.2.2.2.2.1 rfl (by decide) ?_
                    obtain ⟨⟨v25, g26⟩, e27, hf⟩ := bs hf
                    have hf := un2 hf
                    refine J_callV (m := 2) (m' := 2) (ce' := 0) (sl' := 0) (gr := [gridJ d r0_rows 8 40 x0_rows]) (gs' := fun _ => [gMd d h0 a0_kept a0_tried a0_chosen r0_rows r0_line r0_good r0_work x0_shelf x0_rowSort x0_rowSize x0_moved x0_shown x0_tape x0_tapeSize g26 x0_lines x0_changes x0_coins x0_goods x0_works x0_years x0_gone x0_spent x0_at x0_token x0_from x0_figures x0_fault x0_numbers x0_statements x0_left x0_far x0_tons x0_way x0_steps x0_met x0_queue x0_totals, gridJ d r0_rows 8 40 x0_rows]) (st' := fun _ => [.int v25]) (st := []) hK qd2_137.2.2.2.2.2.2.2.1 cv_RX7_94 iv_yX7_refuse (As := [.int (-2)]) (kX7_refuse _ d h0 r0_rows r0_line r0_good r0_work a0_kept a0_tried a0_chosen x0_shelf x0_rowSort x0_rowSize x0_rows x0_moved x0_shown x0_tape x0_tapeSize x0_refused x0_lines x0_line x0_changes x0_coins x0_goods x0_good x0_works x0_work x0_years x0_gone x0_spent x0_at x0_token x0_from x0_figures x0_fault x0_numbers x0_statements x0_left x0_far x0_tons x0_way x0_steps x0_met x0_queue x0_totals (-2) e27) rfl rfl (Nat.le_of_ble_eq_true rfl) (by decide) 0 0 rfl rfl rfl [0] [1] rfl (by decide +kernel) rfl rfl [1, 0] (by decide +kernel) (fun _ => rfl) (fun _ => rfl) rfl rfl rfl (fun _ => rfl) (fun _ => ?_)
                    obtain rfl := Option.some.inj hf
                    exact J_iret hK hR qd2_137.2.2.2.2.2.2.2.2.1 () rfl (by decide) (by decide)
                  · have hf := iq hc124 hf
                    refine J_iload hK qd2_135.2.2.2.2.2.2.2.1 rfl 4 rfl ?_
                    refine J_if_lt (tg := 181) hK qd2_135.2.2.2.2.2.2.2.2.1 rfl rfl (fun hc129 => ?_) (fun hc129 => ?_)
                    · have hf := ip hc129 hf
                      refine J_aload_n hK qd2_137.2.2.2.2.2.1 rfl 0 rfl rfl ?_
                      refine J_bipush (v := (-2)) hK qd2_137.2.2.2.2.2.2.1 rfl (by decide) ?_
                      obtain ⟨⟨v28, g29⟩, e30, hf⟩ := bs hf
                      have hf := un2 hf
                      refine J_callV (m := 2) (m' := 2) (ce' := 0) (sl' := 0) (gr := [gridJ d r0_rows 8 40 x0_rows]) (gs' := fun _ => [gMd d h0 a0_kept a0_tried a0_chosen r0_rows r0_line r0_good r0_work x0_shelf x0_rowSort x0_rowSize x0_moved x0_shown x0_tape x0_tapeSize g29 x0_lines x0_changes x0_coins x0_goods x0_works x0_years x0_gone x0_spent x0_at x0_token x0_from x0_figures x0_fault x0_numbers x0_statements x0_left x0_far x0_tons x0_way x0_steps x0_met x0_queue x0_totals, gridJ d r0_rows 8 40 x0_rows]) (st' := fun _ => [.int v28]) (st := []) hK qd2_137.2.2.2.2.2.2.2.1 cv_RX7_94 iv_yX7_refuse (As := [.int (-2)]) (kX7_refuse _ d h0 r0_rows r0_line r0_good r0_work a0_kept a0_tried a0_chosen x0_shelf x0_rowSort x0_rowSize x0_rows x0_moved x0_shown x0_tape x0_tapeSize x0_refused x0_lines x0_line x0_changes x0_coins x0_goods x0_good x0_works x0_work x0_years x0_gone x0_spent x0_at x0_token x0_from x0_figures x0_fault x0_numbers x0_statements x0_left x0_far x0_tons x0_way x0_steps x0_met x0_queue x0_totals (-2) e30) rfl rfl (Nat.le_of_ble_eq_true rfl) (by decide) 0 0 rfl rfl rfl [0] [1] rfl (by decide +kernel) rfl rfl [1, 0] (by decide +kernel) (fun _ => rfl) (fun _ => rfl) rfl rfl rfl (fun _ => rfl) (fun _ => ?_)
                      obtain rfl := Option.some.inj hf
                      exact J_iret hK hR qd2_137.2.2.2.2.2.2.2.2.1 () rfl (by decide) (by decide)
                    · have hf := iq hc129 hf
                      refine J_iload hK qd2_135.2.2.2.2.2.2.2.2.2.1 rfl 5 rfl ?_
                      refine J_aload_n hK qd2_135.2.2.2.2.2.2.2.2.2.2.1 rfl 0 rfl rfl ?_
                      refine J_get hK fo_RX7_16 qd2_135.2.2.2.2.2.2.2.2.2.2.2.1 rfl 0 0 rfl rfl rfl ?_
                      refine J_iload_n hK qd2_135.2.2.2.2.2.2.2.2.2.2.2.2.1 rfl 1 rfl rfl ?_
                      obtain ⟨v31, ev31, hf⟩ := bs hf
                      refine J_iald hK qd2_135.2.2.2.2.2.2.2.2.2.2.2.2.2.1 rfl 0 3 rfl rfl ev31 ?_
                      refine J_icmp_gt (tg := 181) hK qd2_135.2.2.2.2.2.2.2.2.2.2.2.2.2.2.1 rfl rfl (fun hc140 => ?_) (fun hc140 => ?_)
                      · have hf := ip hc140 hf
                        refine J_aload_n hK qd2_137.2.2.2.2.2.1 rfl 0 rfl rfl ?_
                        refine J_bipush (v := (-2)) hK qd2_137.2.2.2.2.2.2.1 rfl (by decide) ?_
                        obtain ⟨⟨v32, g33⟩, e34, hf⟩ := bs hf
                        have hf := un2 hf
                        refine J_callV (m := 2) (m' := 2) (ce' := 0) (sl' := 0) (gr := [gridJ d r0_rows 8 40 x0_rows]) (gs' := fun _ => [gMd d h0 a0_kept a0_tried a0_chosen r0_rows r0_line r0_good r0_work x0_shelf x0_rowSort x0_rowSize x0_moved x0_shown x0_tape x0_tapeSize g33 x0_lines x0_changes x0_coins x0_goods x0_works x0_years x0_gone x0_spent x0_at x0_token x0_from x0_figures x0_fault x0_numbers x0_statements x0_left x0_far x0_tons x0_way x0_steps x0_met x0_queue x0_totals, gridJ d r0_rows 8 40 x0_rows]) (st' := fun _ => [.int v32]) (st := []) hK qd2_137.2.2.2.2.2.2.2.1 cv_RX7_94 iv_yX7_refuse (As := [.int (-2)]) (kX7_refuse _ d h0 r0_rows r0_line r0_good r0_work a0_kept a0_tried a0_chosen x0_shelf x0_rowSort x0_rowSize x0_rows x0_moved x0_shown x0_tape x0_tapeSize x0_refused x0_lines x0_line x0_changes x0_coins x0_goods x0_good x0_works x0_work x0_years x0_gone x0_spent x0_at x0_token x0_from x0_figures x0_fault x0_numbers x0_statements x0_left x0_far x0_tons x0_way x0_steps x0_met x0_queue x0_totals (-2) e34) rfl rfl (Nat.le_of_ble_eq_true rfl) (by decide) 0 0 rfl rfl rfl [0] [1] rfl (by decide +kernel) rfl rfl [1, 0] (by decide +kernel) (fun _ => rfl) (fun _ => rfl) rfl rfl rfl (fun _ => rfl) (fun _ => ?_)
                        obtain rfl := Option.some.inj hf
                        exact J_iret hK hR qd2_137.2.2.2.2.2.2.2.2.1 () rfl (by decide) (by decide)
                      · have hf := iq hc140 hf
                        refine J_iload hK qd2_135.2.2.2.2.2.2.2.2.2.2.2.2.2.2.2.1 rfl 5 rfl ?_
                        refine J_aload_n hK qd2_136.1 rfl 0 rfl rfl ?_
                        refine J_get hK fo_RX7_16 qd2_136.2.1 rfl 0 0 rfl rfl rfl ?_
                        refine J_iload_n hK qd2_136.2.2.1 rfl 2 rfl rfl ?_
                        obtain ⟨v35, ev35, hf⟩ := bs hf
                        refine J_iald hK qd2_136.2.2.2.1 rfl 0 3 rfl rfl ev35 ?_
                        refine J_icmp_gt (tg := 181) hK qd2_136.2.2.2.2.1 rfl rfl (fun hc151 => ?_) (fun hc151 => ?_)
                        · have hf := ip hc151 hf
                          refine J_aload_n hK qd2_137.2.2.2.2.2.1 rfl 0 rfl rfl ?_
                          refine J_bipush (v := (-2)) hK qd2_137.2.2.2.2.2.2.1 rfl (by decide) ?_
                          obtain ⟨⟨v36, g37⟩, e38, hf⟩ := bs hf
                          have hf := un2 hf
                          refine J_callV (m := 2) (m' := 2) (ce' := 0) (sl' := 0) (gr := [gridJ d r0_rows 8 40 x0_rows]) (gs' := fun _ => [gMd d h0 a0_kept a0_tried a0_chosen r0_rows r0_line r0_good r0_work x0_shelf x0_rowSort x0_rowSize x0_moved x0_shown x0_tape x0_tapeSize g37 x0_lines x0_changes x0_coins x0_goods x0_works x0_years x0_gone x0_spent x0_at x0_token x0_from x0_figures x0_fault x0_numbers x0_statements x0_left x0_far x0_tons x0_way x0_steps x0_met x0_queue x0_totals, gridJ d r0_rows 8 40 x0_rows]) (st' := fun _ => [.int v36]) (st := []) hK qd2_137.2.2.2.2.2.2.2.1 cv_RX7_94 iv_yX7_refuse (As := [.int (-2)]) (kX7_refuse _ d h0 r0_rows r0_line r0_good r0_work a0_kept a0_tried a0_chosen x0_shelf x0_rowSort x0_rowSize x0_rows x0_moved x0_shown x0_tape x0_tapeSize x0_refused x0_lines x0_line x0_changes x0_coins x0_goods x0_good x0_works x0_work x0_years x0_gone x0_spent x0_at x0_token x0_from x0_figures x0_fault x0_numbers x0_statements x0_left x0_far x0_tons x0_way x0_steps x0_met x0_queue x0_totals (-2) e38) rfl rfl (Nat.le_of_ble_eq_true rfl) (by decide) 0 0 rfl rfl rfl [0] [1] rfl (by decide +kernel) rfl rfl [1, 0] (by decide +kernel) (fun _ => rfl) (fun _ => rfl) rfl rfl rfl (fun _ => rfl) (fun _ => ?_)
                          obtain rfl := Option.some.inj hf
                          exact J_iret hK hR qd2_137.2.2.2.2.2.2.2.2.1 () rfl (by decide) (by decide)
                        · have hf := iq hc151 hf
                          refine J_iload_n hK qd2_136.2.2.2.2.2.1 rfl 3 rfl rfl ?_
                          refine J_aload_n hK qd2_136.2.2.2.2.2.2.1 rfl 0 rfl rfl ?_
                          refine J_get hK fo_RX7_16 qd2_136.2.2.2.2.2.2.2.1 rfl 0 0 rfl rfl rfl ?_
                          refine J_iload_n hK qd2_136.2.2.2.2.2.2.2.2.1 rfl 1 rfl rfl ?_
                          obtain ⟨v39, ev39, hf⟩ := bs hf
                          refine J_iald hK qd2_136.2.2.2.2.2.2.2.2.2.1 rfl 0 3 rfl rfl ev39 ?_
                          refine J_iload hK qd2_136.2.2.2.2.2.2.2.2.2.2.1 rfl 5 rfl ?_
                          refine J_isub hK qd2_136.2.2.2.2.2.2.2.2.2.2.2.1 rfl ?_
                          refine J_icmp_gt (tg := 181) hK qd2_136.2.2.2.2.2.2.2.2.2.2.2.2.1 rfl rfl (fun hc164 => ?_) (fun hc164 => ?_)
                          · have hf := ip hc164 hf
                            refine J_aload_n hK qd2_137.2.2.2.2.2.1 rfl 0 rfl rfl ?_
                            refine J_bipush (v := (-2)) hK qd2_137.2.2.2.2.2.2.1 rfl (by decide) ?_
                            obtain ⟨⟨v40, g41⟩, e42, hf⟩ := bs hf
                            have hf := un2 hf
                            refine J_callV (m := 2) (m' := 2) (ce' := 0) (sl' := 0) (gr := [gridJ d r0_rows 8 40 x0_rows]) (gs' := fun _ => [gMd d h0 a0_kept a0_tried a0_chosen r0_rows r0_line r0_good r0_work x0_shelf x0_rowSort x0_rowSize x0_moved x0_shown x0_tape x0_tapeSize g41 x0_lines x0_changes x0_coins x0_goods x0_works x0_years x0_gone x0_spent x0_at x0_token x0_from x0_figures x0_fault x0_numbers x0_statements x0_left x0_far x0_tons x0_way x0_steps x0_met x0_queue x0_totals, gridJ d r0_rows 8 40 x0_rows]) (st' := fun _ => [.int v40]) (st := []) hK qd2_137.2.2.2.2.2.2.2.1 cv_RX7_94 iv_yX7_refuse (As := [.int (-2)]) (kX7_refuse _ d h0 r0_rows r0_line r0_good r0_work a0_kept a0_tried a0_chosen x0_shelf x0_rowSort x0_rowSize x0_rows x0_moved x0_shown x0_tape x0_tapeSize x0_refused x0_lines x0_line x0_changes x0_coins x0_goods x0_good x0_works x0_work x0_years x0_gone x0_spent x0_at x0_token x0_from x0_figures x0_fault x0_numbers x0_statements x0_left x0_far x0_tons x0_way x0_steps x0_met x0_queue x0_totals (-2) e42) rfl rfl (Nat.le_of_ble_eq_true rfl) (by decide) 0 0 rfl rfl rfl [0] [1] rfl (by decide +kernel) rfl rfl [1, 0] (by decide +kernel) (fun _ => rfl) (fun _ => rfl) rfl rfl rfl (fun _ => rfl) (fun _ => ?_)
                            obtain rfl := Option.some.inj hf
                            exact J_iret hK hR qd2_137.2.2.2.2.2.2.2.2.1 () rfl (by decide) (by decide)
                          · have hf := iq hc164 hf
                            refine J_iload hK qd2_136.2.2.2.2.2.2.2.2.2.2.2.2.2.1 rfl 4 rfl ?_
                            refine J_aload_n hK qd2_136.2.2.2.2.2.2.2.2.2.2.2.2.2.2.1 rfl 0 rfl rfl ?_
                            refine J_get hK fo_RX7_16 qd2_136.2.2.2.2.2.2.2.2.2.2.2.2.2.2.2.1 rfl 0 0 rfl rfl rfl ?_
                            refine J_iload_n hK qd2_137.1 rfl 2 rfl rfl ?_
                            obtain ⟨v43, ev43, hf⟩ := bs hf
                            refine J_iald hK qd2_137.2.1 rfl 0 3 rfl rfl ev43 ?_
                            refine J_iload hK qd2_137.2.2.1 rfl 5 rfl ?_
                            refine J_isub hK qd2_137.2.2.2.1 rfl ?_
                            refine J_icmp_le (tg := 188) hK qd2_137.2.2.2.2.1 rfl rfl (fun hc178 => ?_) (fun hc178 => ?_)
                            · have hf := ip hc178 hf
                              refine J_iconst (v := 0) hK qd2_137.2.2.2.2.2.2.2.2.2.1 rfl (by decide) ?_
                              refine J_istore (L' := [(6, .int (0)), (0, .ref (h0 0)), (1, .int p1), (2, .int p2), (3, .int p3), (4, .int p4), (5, .int p5)]) hK qd2_137.2.2.2.2.2.2.2.2.2.2.1 rfl (by decide) rfl ?_
                              obtain ⟨e47, hl44, hf⟩ := bs hf
                              have hx44_222 : ∀ (w48 : (Nat → Int64)), w48 = e47 → J d Φ 7 [gMd d h0 a0_kept a0_tried a0_chosen r0_rows r0_line r0_good r0_work x0_shelf x0_rowSort x0_rowSize w48 x0_shown x0_tape x0_tapeSize x0_refused x0_lines x0_changes x0_coins x0_goods x0_works x0_years x0_gone x0_spent x0_at x0_token x0_from x0_figures x0_fault x0_numbers x0_statements x0_left x0_far x0_tons x0_way x0_steps x0_met x0_queue x0_totals, gridJ d r0_rows 8 40 x0_rows] 0 0 222 [(0, .ref (h0 0)), (2, .int p2), (4, .int p4), (5, .int p5)] [] := by
                                intro w48 he
                                rw [← he] at hf
                                refine J_iconst (v := 0) hK qd2_138.2.2.2.2.2.2.2.2.2.2.2.2.1 rfl (by decide) ?_
                                refine J_istore (L' := [(6, .int (0)), (0, .ref (h0 0)), (2, .int p2), (4, .int p4), (5, .int p5)]) hK qd2_138.2.2.2.2.2.2.2.2.2.2.2.2.2.1 rfl (by decide) rfl ?_
                                obtain ⟨e52, hl49, hf⟩ := bs hf
                                have hx49_257 : ∀ (w53 : (Nat → Nat → Int64)), w53 = e52 → J d Φ 7 [gMd d h0 a0_kept a0_tried a0_chosen r0_rows r0_line r0_good r0_work x0_shelf x0_rowSort x0_rowSize w48 x0_shown x0_tape x0_tapeSize x0_refused x0_lines x0_changes x0_coins x0_goods x0_works x0_years x0_gone x0_spent x0_at x0_token x0_from x0_figures x0_fault x0_numbers x0_statements x0_left x0_far x0_tons x0_way x0_steps x0_met x0_queue x0_totals, gridJ d r0_rows 8 40 w53] 0 0 257 [(5, .int p5)] [] := by
                                  intro w53 he
                                  rw [← he] at hf
                                  refine J_iload hK qd2_139.2.2.2.2.2.2.2.2.2.2.2.2.2.2.2.1 rfl 0 rfl ?_
                                  obtain rfl := Option.some.inj hf
                                  exact J_iret hK hR qd2_140.1 () rfl (by decide) (by decide)
                                have lo49 : ∀ (k : Nat) (z50 : Int32) (z51 : (Nat → Nat → Int64)), lp (u2 (fX7_copy_s225 p2 p4 p5 w48)) k (z50, z51) = some e52 → J d Φ 7 [gMd d h0 a0_kept a0_tried a0_chosen r0_rows r0_line r0_good r0_work x0_shelf x0_rowSort x0_rowSize w48 x0_shown x0_tape x0_tapeSize x0_refused x0_lines x0_changes x0_coins x0_goods x0_works x0_years x0_gone x0_spent x0_at x0_token x0_from x0_figures x0_fault x0_numbers x0_statements x0_left x0_far x0_tons x0_way x0_steps x0_met x0_queue x0_totals, gridJ d r0_rows 8 40 z51] 0 0 225 [(0, .ref (h0 0)), (2, .int p2), (4, .int p4), (5, .int p5), (6, .int z50)] [] := by
                                  intro k
                                  induction k with
                                  | zero => intro z50 z51 h; cases h
                                  | succ k ih49 =>
                                    intro z50 z51 h
                                    obtain ⟨k2, rr49, hk2, hs49, hr49⟩ := lp_ok h
                                    cases hk2
                                    have hs49 : fX7_copy_s225 p2 p4 p5 w48 z50 z51 = some rr49 := hs49
                                    unfold fX7_copy_s225 at hs49
                                    refine J_iload hK qd2_138.2.2.2.2.2.2.2.2.2.2.2.2.2.2.1 rfl 4 rfl ?_
                                    refine J_iload hK qd2_138.2.2.2.2.2.2.2.2.2.2.2.2.2.2.2.1 rfl 3 rfl ?_
                                    refine J_icmp_ge (tg := 257) hK qd2_139.1 rfl rfl (fun hc229 => ?_) (fun hc229 => ?_)
                                    · have hs49 := ip hc229 hs49
                                      exact J_loc [3] rfl (hx49_257 z51 (lpx hs49 hr49))
                                    · have hs49 := iq hc229 hs49
                                      refine J_aload_n hK qd2_139.2.1 rfl 0 rfl rfl ?_
                                      refine J_get hK fo_RX7_21 qd2_139.2.2.1 rfl 0 0 rfl rfl rfl ?_
                                      refine J_iload_n hK qd2_139.2.2.2.1 rfl 1 rfl rfl ?_
                                      obtain ⟨q54, eq54, hs49⟩ := bs hs49
                                      refine J_aald hK qd2_139.2.2.2.2.1 rfl 0 4 rfl rfl rfl eq54 ?_
                                      refine J_iload hK qd2_139.2.2.2.2.2.1 rfl 2 rfl ?_
                                      refine J_iload hK qd2_139.2.2.2.2.2.2.1 rfl 4 rfl ?_
                                      refine J_iadd hK qd2_139.2.2.2.2.2.2.2.1 rfl ?_
                                      refine J_aload_n hK qd2_139.2.2.2.2.2.2.2.2.1 rfl 0 rfl rfl ?_
                                      refine J_get hK fo_RX7_24 qd2_139.2.2.2.2.2.2.2.2.2.1 rfl 0 0 rfl rfl rfl ?_
                                      refine J_iload hK qd2_139.2.2.2.2.2.2.2.2.2.2.1 rfl 4 rfl ?_
                                      obtain ⟨v55, ev55, hs49⟩ := bs hs49
                                      refine J_lald hK qd2_139.2.2.2.2.2.2.2.2.2.2.2.1 rfl 0 5 rfl rfl ev55 ?_
                                      obtain ⟨f56, ef56, hs49⟩ := bs hs49
                                      refine J_last (g' := gridJ d r0_rows 8 40 (va_up z51 q54 f56)) (gs' := [gMd d h0 a0_kept a0_tried a0_chosen r0_rows r0_line r0_good r0_work x0_shelf x0_rowSort x0_rowSize w48 x0_shown x0_tape x0_tapeSize x0_refused x0_lines x0_changes x0_coins x0_goods x0_works x0_years x0_gone x0_spent x0_at x0_token x0_from x0_figures x0_fault x0_numbers x0_statements x0_left x0_far x0_tons x0_way x0_steps x0_met x0_queue x0_totals, gridJ d r0_rows 8 40 (va_up z51 q54 f56)]) hK qd2_139.2.2.2.2.2.2.2.2.2.2.2.2.1 rfl 1 q54 rfl (gridJ_at (ck_ok eq54).2.2) ef56 gridJ_set rfl ?_
                                      refine J_iinc (L' := [(6, .int (z50 + 1)), (0, .ref (h0 0)), (2, .int p2), (4, .int p4), (5, .int p5)]) (v := (z50 + 1)) hK qd2_139.2.2.2.2.2.2.2.2.2.2.2.2.2.1 rfl 4 rfl rfl (by decide) rfl ?_
                                      refine J_goto hK qd2_139.2.2.2.2.2.2.2.2.2.2.2.2.2.2.1 (n := 225) rfl ?_
                                      exact J_loc [1, 2, 3, 4, 0] rfl (ih49 (z50 + 1) (va_up z51 q54 f56) (lpc hs49 hr49))
                                exact J_loc [1, 2, 3, 4, 0] rfl (lo49 n (0) x0_rows hl49)
                              have lo44 : ∀ (k : Nat) (z45 : Int32) (z46 : (Nat → Int64)), lp (u2 (fX7_copy_s191 p1 p3 p5 x0_rows)) k (z45, z46) = some e47 → J d Φ 7 [gMd d h0 a0_kept a0_tried a0_chosen r0_rows r0_line r0_good r0_work x0_shelf x0_rowSort x0_rowSize z46 x0_shown x0_tape x0_tapeSize x0_refused x0_lines x0_changes x0_coins x0_goods x0_works x0_years x0_gone x0_spent x0_at x0_token x0_from x0_figures x0_fault x0_numbers x0_statements x0_left x0_far x0_tons x0_way x0_steps x0_met x0_queue x0_totals, gridJ d r0_rows 8 40 x0_rows] 0 0 191 [(0, .ref (h0 0)), (1, .int p1), (2, .int p2), (3, .int p3), (4, .int p4), (5, .int p5), (6, .int z45)] [] := by
                                intro k
                                induction k with
                                | zero => intro z45 z46 h; cases h
                                | succ k ih44 =>
                                  intro z45 z46 h
                                  obtain ⟨k2, rr44, hk2, hs44, hr44⟩ := lp_ok h
                                  cases hk2
                                  have hs44 : fX7_copy_s191 p1 p3 p5 x0_rows z45 z46 = some rr44 := hs44
                                  unfold fX7_copy_s191 at hs44
                                  refine J_iload hK qd2_137.2.2.2.2.2.2.2.2.2.2.2.1 rfl 6 rfl ?_
                                  refine J_iload hK qd2_137.2.2.2.2.2.2.2.2.2.2.2.2.1 rfl 5 rfl ?_
                                  refine J_icmp_ge (tg := 222) hK qd2_137.2.2.2.2.2.2.2.2.2.2.2.2.2.1 rfl rfl (fun hc195 => ?_) (fun hc195 => ?_)
                                  · have hs44 := ip hc195 hs44
                                    exact J_loc [0, 2, 4, 5] rfl (hx44_222 z46 (lpx hs44 hr44))
                                  · have hs44 := iq hc195 hs44
                                    refine J_aload_n hK qd2_137.2.2.2.2.2.2.2.2.2.2.2.2.2.2.1 rfl 0 rfl rfl ?_
                                    refine J_get hK fo_RX7_24 qd2_137.2.2.2.2.2.2.2.2.2.2.2.2.2.2.2.1 rfl 0 0 rfl rfl rfl ?_
                                    refine J_iload hK qd2_138.1 rfl 6 rfl ?_
                                    refine J_aload_n hK qd2_138.2.1 rfl 0 rfl rfl ?_
                                    refine J_get hK fo_RX7_21 qd2_138.2.2.1 rfl 0 0 rfl rfl rfl ?_
                                    refine J_iload_n hK qd2_138.2.2.2.1 rfl 1 rfl rfl ?_
                                    obtain ⟨q57, eq57, hs44⟩ := bs hs44
                                    refine J_aald hK qd2_138.2.2.2.2.1 rfl 0 4 rfl rfl rfl eq57 ?_
                                    refine J_iload_n hK qd2_138.2.2.2.2.2.1 rfl 3 rfl rfl ?_
                                    refine J_iload hK qd2_138.2.2.2.2.2.2.1 rfl 6 rfl ?_
                                    refine J_iadd hK qd2_138.2.2.2.2.2.2.2.1 rfl ?_
                                    obtain ⟨v58, ev58, hs44⟩ := bs hs44
                                    refine J_lald hK qd2_138.2.2.2.2.2.2.2.2.1 rfl 1 q57 rfl (gridJ_at (ck_ok eq57).2.2) ev58 ?_
                                    obtain ⟨f59, ef59, hs44⟩ := bs hs44
                                    refine J_last (g' := gMd d h0 a0_kept a0_tried a0_chosen r0_rows r0_line r0_good r0_work x0_shelf x0_rowSort x0_rowSize f59 x0_shown x0_tape x0_tapeSize x0_refused x0_lines x0_changes x0_coins x0_goods x0_works x0_years x0_gone x0_spent x0_at x0_token x0_from x0_figures x0_fault x0_numbers x0_statements x0_left x0_far x0_tons x0_way x0_steps x0_met x0_queue x0_totals) (gs' := [gMd d h0 a0_kept a0_tried a0_chosen r0_rows r0_line r0_good r0_work x0_shelf x0_rowSort x0_rowSize f59 x0_shown x0_tape x0_tapeSize x0_refused x0_lines x0_changes x0_coins x0_goods x0_works x0_years x0_gone x0_spent x0_at x0_token x0_from x0_figures x0_fault x0_numbers x0_statements x0_left x0_far x0_tons x0_way x0_steps x0_met x0_queue x0_totals, gridJ d r0_rows 8 40 x0_rows]) hK qd2_138.2.2.2.2.2.2.2.2.2.1 rfl 0 5 rfl rfl ef59 rfl rfl ?_
                                    refine J_iinc (L' := [(6, .int (z45 + 1)), (0, .ref (h0 0)), (1, .int p1), (2, .int p2), (3, .int p3), (4, .int p4), (5, .int p5)]) (v := (z45 + 1)) hK qd2_138.2.2.2.2.2.2.2.2.2.2.1 rfl 6 rfl rfl (by decide) rfl ?_
                                    refine J_goto hK qd2_138.2.2.2.2.2.2.2.2.2.2.2.1 (n := 191) rfl ?_
                                    exact J_loc [1, 2, 3, 4, 5, 6, 0] rfl (ih44 (z45 + 1) f59 (lpc hs44 hr44))
                              exact J_loc [1, 2, 3, 4, 5, 6, 0] rfl (lo44 n (0) x0_moved hl44)
                            · have hf := iq hc178 hf
                              refine J_aload_n hK qd2_137.2.2.2.2.2.1 rfl 0 rfl rfl ?_
                              refine J_bipush (v := (-2)) hK qd2_137.2.2.2.2.2.2.1 rfl (by decide) ?_
                              obtain ⟨⟨v60, g61⟩, e62, hf⟩ := bs hf
                              have hf := un2 hf
                              refine J_callV (m := 2) (m' := 2) (ce' := 0) (sl' := 0) (gr := [gridJ d r0_rows 8 40 x0_rows]) (gs' := fun _ => [gMd d h0 a0_kept a0_tried a0_chosen r0_rows r0_line r0_good r0_work x0_shelf x0_rowSort x0_rowSize x0_moved x0_shown x0_tape x0_tapeSize g61 x0_lines x0_changes x0_coins x0_goods x0_works x0_years x0_gone x0_spent x0_at x0_token x0_from x0_figures x0_fault x0_numbers x0_statements x0_left x0_far x0_tons x0_way x0_steps x0_met x0_queue x0_totals, gridJ d r0_rows 8 40 x0_rows]) (st' := fun _ => [.int v60]) (st := []) hK qd2_137.2.2.2.2.2.2.2.1 cv_RX7_94 iv_yX7_refuse (As := [.int (-2)]) (kX7_refuse _ d h0 r0_rows r0_line r0_good r0_work a0_kept a0_tried a0_chosen x0_shelf x0_rowSort x0_rowSize x0_rows x0_moved x0_shown x0_tape x0_tapeSize x0_refused x0_lines x0_line x0_changes x0_coins x0_goods x0_good x0_works x0_work x0_years x0_gone x0_spent x0_at x0_token x0_from x0_figures x0_fault x0_numbers x0_statements x0_left x0_far x0_tons x0_way x0_steps x0_met x0_queue x0_totals (-2) e62) rfl rfl (Nat.le_of_ble_eq_true rfl) (by decide) 0 0 rfl rfl rfl [0] [1] rfl (by decide +kernel) rfl rfl [1, 0] (by decide +kernel) (fun _ => rfl) (fun _ => rfl) rfl rfl rfl (fun _ => rfl) (fun _ => ?_)
                              obtain rfl := Option.some.inj hf
                              exact J_iret hK hR qd2_137.2.2.2.2.2.2.2.2.1 () rfl (by decide) (by decide)
              · have hf := ip hc108 hf
                refine J_aload_n hK qd2_134.2.2.2.2.2.2.2.2.2.2.2.2.2.2.2.1 rfl 0 rfl rfl ?_
                refine J_bipush (v := (-4)) hK qd2_135.1 rfl (by decide) ?_
                obtain ⟨⟨v63, g64⟩, e65, hf⟩ := bs hf
                have hf := un2 hf
                refine J_callV (m := 2) (m' := 2) (ce' := 0) (sl' := 0) (gr := [gridJ d r0_rows 8 40 x0_rows]) (gs' := fun _ => [gMd d h0 a0_kept a0_tried a0_chosen r0_rows r0_line r0_good r0_work x0_shelf x0_rowSort x0_rowSize x0_moved x0_shown x0_tape x0_tapeSize g64 x0_lines x0_changes x0_coins x0_goods x0_works x0_years x0_gone x0_spent x0_at x0_token x0_from x0_figures x0_fault x0_numbers x0_statements x0_left x0_far x0_tons x0_way x0_steps x0_met x0_queue x0_totals, gridJ d r0_rows 8 40 x0_rows]) (st' := fun _ => [.int v63]) (st := []) hK qd2_135.2.1 cv_RX7_94 iv_yX7_refuse (As := [.int (-4)]) (kX7_refuse _ d h0 r0_rows r0_line r0_good r0_work a0_kept a0_tried a0_chosen x0_shelf x0_rowSort x0_rowSize x0_rows x0_moved x0_shown x0_tape x0_tapeSize x0_refused x0_lines x0_line x0_changes x0_coins x0_goods x0_good x0_works x0_work x0_years x0_gone x0_spent x0_at x0_token x0_from x0_figures x0_fault x0_numbers x0_statements x0_left x0_far x0_tons x0_way x0_steps x0_met x0_queue x0_totals (-4) e65) rfl rfl (Nat.le_of_ble_eq_true rfl) (by decide) 0 0 rfl rfl rfl [0] [1] rfl (by decide +kernel) rfl rfl [1, 0] (by decide +kernel) (fun _ => rfl) (fun _ => rfl) rfl rfl rfl (fun _ => rfl) (fun _ => ?_)
                obtain rfl := Option.some.inj hf
                exact J_iret hK hR qd2_135.2.2.1 () rfl (by decide) (by decide)
          refine J_icmp_ne (tg := 93) hK qd2_133.2.1 rfl rfl (fun hc58 => ?_) (fun hc58 => ?_)
          · have hf := iq hc58 hf
            exact (j93  hf)
          · have hf := ip hc58 hf
            refine J_aload_n hK qd2_133.2.2.1 rfl 0 rfl rfl ?_
            refine J_get hK fo_RX7_7 qd2_133.2.2.2.1 rfl 0 0 rfl rfl rfl ?_
            refine J_iload_n hK qd2_133.2.2.2.2.1 rfl 2 rfl rfl ?_
            obtain ⟨v66, ev66, hf⟩ := bs hf
            refine J_iald hK qd2_133.2.2.2.2.2.1 rfl 0 1 rfl rfl ev66 ?_
            refine J_iconst (v := 1) hK qd2_133.2.2.2.2.2.2.1 rfl (by decide) ?_
            refine J_icmp_ne (tg := 93) hK qd2_133.2.2.2.2.2.2.2.1 rfl rfl (fun hc68 => ?_) (fun hc68 => ?_)
            · have hf := iq hc68 hf
              exact (j93  hf)
            · have hf := ip hc68 hf
              refine J_aload_n hK qd2_133.2.2.2.2.2.2.2.2.1 rfl 0 rfl rfl ?_
              refine J_get hK fo_RX7_13 qd2_133.2.2.2.2.2.2.2.2.2.1 rfl 0 0 rfl rfl rfl ?_
              refine J_iload_n hK qd2_133.2.2.2.2.2.2.2.2.2.2.1 rfl 1 rfl rfl ?_
              obtain ⟨v67, ev67, hf⟩ := bs hf
              refine J_iald hK qd2_133.2.2.2.2.2.2.2.2.2.2.2.1 rfl 0 2 rfl rfl ev67 ?_
              refine J_aload_n hK qd2_133.2.2.2.2.2.2.2.2.2.2.2.2.1 rfl 0 rfl rfl ?_
              refine J_get hK fo_RX7_13 qd2_133.2.2.2.2.2.2.2.2.2.2.2.2.2.1 rfl 0 0 rfl rfl rfl ?_
              refine J_iload_n hK qd2_133.2.2.2.2.2.2.2.2.2.2.2.2.2.2.1 rfl 2 rfl rfl ?_
              obtain ⟨v68, ev68, hf⟩ := bs hf
              refine J_iald hK qd2_133.2.2.2.2.2.2.2.2.2.2.2.2.2.2.2.1 rfl 0 2 rfl rfl ev68 ?_
              refine J_icmp_eq (tg := 93) hK qd2_134.1 rfl rfl (fun hc83 => ?_) (fun hc83 => ?_)
              · have hf := ip hc83 hf
                exact (j93  hf)
              · have hf := iq hc83 hf
                refine J_aload_n hK qd2_134.2.1 rfl 0 rfl rfl ?_
                refine J_bipush (v := (-3)) hK qd2_134.2.2.1 rfl (by decide) ?_
                obtain ⟨⟨v69, g70⟩, e71, hf⟩ := bs hf
                have hf := un2 hf
                refine J_callV (m := 2) (m' := 2) (ce' := 0) (sl' := 0) (gr := [gridJ d r0_rows 8 40 x0_rows]) (gs' := fun _ => [gMd d h0 a0_kept a0_tried a0_chosen r0_rows r0_line r0_good r0_work x0_shelf x0_rowSort x0_rowSize x0_moved x0_shown x0_tape x0_tapeSize g70 x0_lines x0_changes x0_coins x0_goods x0_works x0_years x0_gone x0_spent x0_at x0_token x0_from x0_figures x0_fault x0_numbers x0_statements x0_left x0_far x0_tons x0_way x0_steps x0_met x0_queue x0_totals, gridJ d r0_rows 8 40 x0_rows]) (st' := fun _ => [.int v69]) (st := []) hK qd2_134.2.2.2.1 cv_RX7_94 iv_yX7_refuse (As := [.int (-3)]) (kX7_refuse _ d h0 r0_rows r0_line r0_good r0_work a0_kept a0_tried a0_chosen x0_shelf x0_rowSort x0_rowSize x0_rows x0_moved x0_shown x0_tape x0_tapeSize x0_refused x0_lines x0_line x0_changes x0_coins x0_goods x0_good x0_works x0_work x0_years x0_gone x0_spent x0_at x0_token x0_from x0_figures x0_fault x0_numbers x0_statements x0_left x0_far x0_tons x0_way x0_steps x0_met x0_queue x0_totals (-3) e71) rfl rfl (Nat.le_of_ble_eq_true rfl) (by decide) 0 0 rfl rfl rfl [0] [1] rfl (by decide +kernel) rfl rfl [1, 0] (by decide +kernel) (fun _ => rfl) (fun _ => rfl) rfl rfl rfl (fun _ => rfl) (fun _ => ?_)
                obtain rfl := Option.some.inj hf
                exact J_iret hK hR qd2_134.2.2.2.2.1 () rfl (by decide) (by decide)
    · have hf := ip hc21 hf
      refine J_aload_n hK qd2_131.2.2.2.2.2.2.2.2.2.2.2.2.1 rfl 0 rfl rfl ?_
      refine J_bipush (v := (-2)) hK qd2_131.2.2.2.2.2.2.2.2.2.2.2.2.2.1 rfl (by decide) ?_
      obtain ⟨⟨v72, g73⟩, e74, hf⟩ := bs hf
      have hf := un2 hf
      refine J_callV (m := 2) (m' := 2) (ce' := 0) (sl' := 0) (gr := [gridJ d r0_rows 8 40 x0_rows]) (gs' := fun _ => [gMd d h0 a0_kept a0_tried a0_chosen r0_rows r0_line r0_good r0_work x0_shelf x0_rowSort x0_rowSize x0_moved x0_shown x0_tape x0_tapeSize g73 x0_lines x0_changes x0_coins x0_goods x0_works x0_years x0_gone x0_spent x0_at x0_token x0_from x0_figures x0_fault x0_numbers x0_statements x0_left x0_far x0_tons x0_way x0_steps x0_met x0_queue x0_totals, gridJ d r0_rows 8 40 x0_rows]) (st' := fun _ => [.int v72]) (st := []) hK qd2_131.2.2.2.2.2.2.2.2.2.2.2.2.2.2.1 cv_RX7_94 iv_yX7_refuse (As := [.int (-2)]) (kX7_refuse _ d h0 r0_rows r0_line r0_good r0_work a0_kept a0_tried a0_chosen x0_shelf x0_rowSort x0_rowSize x0_rows x0_moved x0_shown x0_tape x0_tapeSize x0_refused x0_lines x0_line x0_changes x0_coins x0_goods x0_good x0_works x0_work x0_years x0_gone x0_spent x0_at x0_token x0_from x0_figures x0_fault x0_numbers x0_statements x0_left x0_far x0_tons x0_way x0_steps x0_met x0_queue x0_totals (-2) e74) rfl rfl (Nat.le_of_ble_eq_true rfl) (by decide) 0 0 rfl rfl rfl [0] [1] rfl (by decide +kernel) rfl rfl [1, 0] (by decide +kernel) (fun _ => rfl) (fun _ => rfl) rfl rfl rfl (fun _ => rfl) (fun _ => ?_)
      obtain rfl := Option.some.inj hf
      exact J_iret hK hR qd2_131.2.2.2.2.2.2.2.2.2.2.2.2.2.2.2.1 () rfl (by decide) (by decide)

def fX7_element (X0 : MdT) (p1 : Int32) (p2 : Int32) : Option (Int64) :=
  u35 (fun (x0_shelf : (Nat → Int32)) (x0_rowSort : (Nat → Int32)) (x0_rowSize : (Nat → Int32)) (x0_rows : (Nat → Nat → Int64)) (x0_moved : (Nat → Int64)) (x0_shown : (Nat → Int32)) (x0_tape : (Nat → Int32)) (x0_tapeSize : Int32) (x0_refused : (Nat → Int32)) (x0_lines : Int32) (x0_line : (Nat → Nat → Int32)) (x0_changes : (Nat → Int32)) (x0_coins : (Nat → Int32)) (x0_goods : Int32) (x0_good : (Nat → Nat → Int32)) (x0_works : Int32) (x0_work : (Nat → Nat → Int32)) (x0_years : Int32) (x0_gone : Int32) (x0_spent : Int32) (x0_at : Int32) (x0_token : Int32) (x0_from : Int32) (x0_figures : Int64) (x0_fault : Int32) (x0_numbers : (Nat → Int32)) (x0_statements : Int32) (x0_left : (Nat → Int32)) (x0_far : (Nat → Int32)) (x0_tons : Int32) (x0_way : (Nat → Int32)) (x0_steps : Int32) (x0_met : Int64) (x0_queue : (Nat → Int32)) (x0_totals : (Nat → Int32)) => (fX7_in ((p1).toInt64) (0 : Int64) (7 : Int64)).bind (fun v1 => if v1 = 0 then (some (0 : Int64)) else ((rd 8 x0_shelf p1).bind fun v3 => if v3 = 1 then ((rd 8 x0_rowSize p1).bind fun v4 => (fX7_in ((p2).toInt64) (0 : Int64) (((v4 - 1)).toInt64)).bind (fun v5 => if v5 = 0 then (some (0 : Int64)) else ((ck p1 8).bind fun q7 => (rd 40 (x0_rows q7) p2).bind fun v8 => some v8))) else (some (0 : Int64))))) X0
set_option maxHeartbeats 4000000 in
set_option maxRecDepth 100000 in
theorem kX7_element (l : Launch) (d : DT) (h0 : Nat → Nat) (r0_rows : Nat → Nat) (r0_line : Nat → Nat) (r0_good : Nat → Nat) (r0_work : Nat → Nat) (a0_kept : Option Nat) (a0_tried : Option Nat) (a0_chosen : Option Nat) (x0_shelf : (Nat → Int32)) (x0_rowSort : (Nat → Int32)) (x0_rowSize : (Nat → Int32)) (x0_rows : (Nat → Nat → Int64)) (x0_moved : (Nat → Int64)) (x0_shown : (Nat → Int32)) (x0_tape : (Nat → Int32)) (x0_tapeSize : Int32) (x0_refused : (Nat → Int32)) (x0_lines : Int32) (x0_line : (Nat → Nat → Int32)) (x0_changes : (Nat → Int32)) (x0_coins : (Nat → Int32)) (x0_goods : Int32) (x0_good : (Nat → Nat → Int32)) (x0_works : Int32) (x0_work : (Nat → Nat → Int32)) (x0_years : Int32) (x0_gone : Int32) (x0_spent : Int32) (x0_at : Int32) (x0_token : Int32) (x0_from : Int32) (x0_figures : Int64) (x0_fault : Int32) (x0_numbers : (Nat → Int32)) (x0_statements : Int32) (x0_left : (Nat → Int32)) (x0_far : (Nat → Int32)) (x0_tons : Int32) (x0_way : (Nat → Int32)) (x0_steps : Int32) (x0_met : Int64) (x0_queue : (Nat → Int32)) (x0_totals : (Nat → Int32)) (p1 : Int32) (p2 : Int32)  {out : Int64} (hf : fX7_element (x0_shelf, x0_rowSort, x0_rowSize, x0_rows, x0_moved, x0_shown, x0_tape, x0_tapeSize, x0_refused, x0_lines, x0_line, x0_changes, x0_coins, x0_goods, x0_good, x0_works, x0_work, x0_years, x0_gone, x0_spent, x0_at, x0_token, x0_from, x0_figures, x0_fault, x0_numbers, x0_statements, x0_left, x0_far, x0_tons, x0_way, x0_steps, x0_met, x0_queue, x0_totals) p1 p2 = some out) : Ct l d yX7_element cX7_element 3 (some .long) { frames := 1, cells := 0, slots := 0, locals := 25 } [.ref (h0 0), .int p1, .int p2] [gMd d h0 a0_kept a0_tried a0_chosen r0_rows r0_line r0_good r0_work x0_shelf x0_rowSort x0_rowSize x0_moved x0_shown x0_tape x0_tapeSize x0_refused x0_lines x0_changes x0_coins x0_goods x0_works x0_years x0_gone x0_spent x0_at x0_token x0_from x0_figures x0_fault x0_numbers x0_statements x0_left x0_far x0_tons x0_way x0_steps x0_met x0_queue x0_totals, gridJ d r0_rows 8 40 x0_rows] (fun _ : Unit => (some (.long out), [gMd d h0 a0_kept a0_tried a0_chosen r0_rows r0_line r0_good r0_work x0_shelf x0_rowSort x0_rowSize x0_moved x0_shown x0_tape x0_tapeSize x0_refused x0_lines x0_changes x0_coins x0_goods x0_works x0_years x0_gone x0_spent x0_at x0_token x0_from x0_figures x0_fault x0_numbers x0_statements x0_left x0_far x0_tons x0_way x0_steps x0_met x0_queue x0_totals, gridJ d r0_rows 8 40 x0_rows])) := by
  refine Ct.of (by decide) (Nat.le_of_ble_eq_true rfl) ?_
  intro Φ hl hK hR
  subst hl
  have hK : Ok d Φ RX7 "element" cX7_element 3 (some .long) { frames := 1, cells := 0, slots := 0, locals := 25 } := hK
  unfold fX7_element at hf
  have hf := un35 hf
  show J d Φ 3 [gMd d h0 a0_kept a0_tried a0_chosen r0_rows r0_line r0_good r0_work x0_shelf x0_rowSort x0_rowSize x0_moved x0_shown x0_tape x0_tapeSize x0_refused x0_lines x0_changes x0_coins x0_goods x0_works x0_years x0_gone x0_spent x0_at x0_token x0_from x0_figures x0_fault x0_numbers x0_statements x0_left x0_far x0_tons x0_way x0_steps x0_met x0_queue x0_totals, gridJ d r0_rows 8 40 x0_rows] 0 0 0 [(0, .ref (h0 0)), (1, .int p1), (2, .int p2)] []
  refine J_iload_n hK qd2_141.1 rfl 1 rfl rfl ?_
  refine J_i2l hK qd2_141.2.1 rfl ?_
  refine J_lconst (v := 0) hK qd2_141.2.2.1 rfl (by decide) ?_
  refine J_ldc2 (v := (7 : Int64)) hK qd2_141.2.2.2.1 rfl wk_RX7_88 ?_
  obtain ⟨v1, e2, hf⟩ := bs hf
  refine J_callS (m := 2) (m' := 2) (ce' := 0) (sl' := 0) (gr := [gMd d h0 a0_kept a0_tried a0_chosen r0_rows r0_line r0_good r0_work x0_shelf x0_rowSort x0_rowSize x0_moved x0_shown x0_tape x0_tapeSize x0_refused x0_lines x0_changes x0_coins x0_goods x0_works x0_years x0_gone x0_spent x0_at x0_token x0_from x0_figures x0_fault x0_numbers x0_statements x0_left x0_far x0_tons x0_way x0_steps x0_met x0_queue x0_totals, gridJ d r0_rows 8 40 x0_rows]) (gs' := fun _ => [gMd d h0 a0_kept a0_tried a0_chosen r0_rows r0_line r0_good r0_work x0_shelf x0_rowSort x0_rowSize x0_moved x0_shown x0_tape x0_tapeSize x0_refused x0_lines x0_changes x0_coins x0_goods x0_works x0_years x0_gone x0_spent x0_at x0_token x0_from x0_figures x0_fault x0_numbers x0_statements x0_left x0_far x0_tons x0_way x0_steps x0_met x0_queue x0_totals, gridJ d r0_rows 8 40 x0_rows]) (st' := fun _ => [.int v1]) (st := []) hK qd2_141.2.2.2.2.1 cv_RX7_78 ws_yX7_in (As := [.long ((p1).toInt64), .long (0 : Int64), .long (7 : Int64)]) (kX7_in _ d ((p1).toInt64) (0 : Int64) (7 : Int64) e2) rfl rfl (Nat.le_of_ble_eq_true rfl) (by decide) [] [0, 1] rfl (by decide +kernel) rfl rfl [0, 1] (by decide +kernel) (fun _ => rfl) (fun _ => rfl) rfl rfl rfl (fun _ => rfl) (fun _ => ?_)
  refine J_if_eq (tg := 51) hK qd2_141.2.2.2.2.2.1 rfl rfl (fun hc9 => ?_) (fun hc9 => ?_)
  · have hf := ip hc9 hf
    refine J_lconst (v := 0) hK qd2_142.2.2.2.2.2.2.2.2.2.2.2.2.2.2.2.1 rfl (by decide) ?_
    obtain rfl := Option.some.inj hf
    exact J_lret hK hR qd2_143.1 () rfl (by decide) (by decide)
  · have hf := iq hc9 hf
    refine J_aload_n hK qd2_141.2.2.2.2.2.2.1 rfl 0 rfl rfl ?_
    refine J_get hK fo_RX7_7 qd2_141.2.2.2.2.2.2.2.1 rfl 0 0 rfl rfl rfl ?_
    refine J_iload_n hK qd2_141.2.2.2.2.2.2.2.2.1 rfl 1 rfl rfl ?_
    obtain ⟨v3, ev3, hf⟩ := bs hf
    refine J_iald hK qd2_141.2.2.2.2.2.2.2.2.2.1 rfl 0 1 rfl rfl ev3 ?_
    refine J_iconst (v := 1) hK qd2_141.2.2.2.2.2.2.2.2.2.2.1 rfl (by decide) ?_
    refine J_icmp_ne (tg := 51) hK qd2_141.2.2.2.2.2.2.2.2.2.2.2.1 rfl rfl (fun hc19 => ?_) (fun hc19 => ?_)
    · have hf := iq hc19 hf
      refine J_lconst (v := 0) hK qd2_142.2.2.2.2.2.2.2.2.2.2.2.2.2.2.2.1 rfl (by decide) ?_
      obtain rfl := Option.some.inj hf
      exact J_lret hK hR qd2_143.1 () rfl (by decide) (by decide)
    · have hf := ip hc19 hf
      refine J_iload_n hK qd2_141.2.2.2.2.2.2.2.2.2.2.2.2.1 rfl 2 rfl rfl ?_
      refine J_i2l hK qd2_141.2.2.2.2.2.2.2.2.2.2.2.2.2.1 rfl ?_
      refine J_lconst (v := 0) hK qd2_141.2.2.2.2.2.2.2.2.2.2.2.2.2.2.1 rfl (by decide) ?_
      refine J_aload_n hK qd2_141.2.2.2.2.2.2.2.2.2.2.2.2.2.2.2.1 rfl 0 rfl rfl ?_
      refine J_get hK fo_RX7_16 qd2_142.1 rfl 0 0 rfl rfl rfl ?_
      refine J_iload_n hK qd2_142.2.1 rfl 1 rfl rfl ?_
      obtain ⟨v4, ev4, hf⟩ := bs hf
      refine J_iald hK qd2_142.2.2.1 rfl 0 3 rfl rfl ev4 ?_
      refine J_iconst (v := 1) hK qd2_142.2.2.2.1 rfl (by decide) ?_
      refine J_isub hK qd2_142.2.2.2.2.1 rfl ?_
      refine J_i2l hK qd2_142.2.2.2.2.2.1 rfl ?_
      obtain ⟨v5, e6, hf⟩ := bs hf
      refine J_callS (m := 2) (m' := 2) (ce' := 0) (sl' := 0) (gr := [gMd d h0 a0_kept a0_tried a0_chosen r0_rows r0_line r0_good r0_work x0_shelf x0_rowSort x0_rowSize x0_moved x0_shown x0_tape x0_tapeSize x0_refused x0_lines x0_changes x0_coins x0_goods x0_works x0_years x0_gone x0_spent x0_at x0_token x0_from x0_figures x0_fault x0_numbers x0_statements x0_left x0_far x0_tons x0_way x0_steps x0_met x0_queue x0_totals, gridJ d r0_rows 8 40 x0_rows]) (gs' := fun _ => [gMd d h0 a0_kept a0_tried a0_chosen r0_rows r0_line r0_good r0_work x0_shelf x0_rowSort x0_rowSize x0_moved x0_shown x0_tape x0_tapeSize x0_refused x0_lines x0_changes x0_coins x0_goods x0_works x0_years x0_gone x0_spent x0_at x0_token x0_from x0_figures x0_fault x0_numbers x0_statements x0_left x0_far x0_tons x0_way x0_steps x0_met x0_queue x0_totals, gridJ d r0_rows 8 40 x0_rows]) (st' := fun _ => [.int v5]) (st := []) hK qd2_142.2.2.2.2.2.2.1 cv_RX7_78 ws_yX7_in (As := [.long ((p2).toInt64), .long (0 : Int64), .long (((v4 - 1)).toInt64)]) (kX7_in _ d ((p2).toInt64) (0 : Int64) (((v4 - 1)).toInt64) e6) rfl rfl (Nat.le_of_ble_eq_true rfl) (by decide) [] [0, 1] rfl (by decide +kernel) rfl rfl [0, 1] (by decide +kernel) (fun _ => rfl) (fun _ => rfl) rfl rfl rfl (fun _ => rfl) (fun _ => ?_)
      refine J_if_eq (tg := 51) hK qd2_142.2.2.2.2.2.2.2.1 rfl rfl (fun hc37 => ?_) (fun hc37 => ?_)
      · have hf := ip hc37 hf
        refine J_lconst (v := 0) hK qd2_142.2.2.2.2.2.2.2.2.2.2.2.2.2.2.2.1 rfl (by decide) ?_
        obtain rfl := Option.some.inj hf
        exact J_lret hK hR qd2_143.1 () rfl (by decide) (by decide)
      · have hf := iq hc37 hf
        refine J_aload_n hK qd2_142.2.2.2.2.2.2.2.2.1 rfl 0 rfl rfl ?_
        refine J_get hK fo_RX7_21 qd2_142.2.2.2.2.2.2.2.2.2.1 rfl 0 0 rfl rfl rfl ?_
        refine J_iload_n hK qd2_142.2.2.2.2.2.2.2.2.2.2.1 rfl 1 rfl rfl ?_
        obtain ⟨q7, eq7, hf⟩ := bs hf
        refine J_aald hK qd2_142.2.2.2.2.2.2.2.2.2.2.2.1 rfl 0 4 rfl rfl rfl eq7 ?_
        refine J_iload_n hK qd2_142.2.2.2.2.2.2.2.2.2.2.2.2.1 rfl 2 rfl rfl ?_
        obtain ⟨v8, ev8, hf⟩ := bs hf
        refine J_lald hK qd2_142.2.2.2.2.2.2.2.2.2.2.2.2.2.1 rfl 1 q7 rfl (gridJ_at (ck_ok eq7).2.2) ev8 ?_
        refine J_goto hK qd2_142.2.2.2.2.2.2.2.2.2.2.2.2.2.2.1 (n := 52) rfl ?_
        obtain rfl := Option.some.inj hf
        exact J_lret hK hR qd2_143.1 () rfl (by decide) (by decide)

def fX7_holds (X0 : MdT) (p1 : Int32) : Option (Int32) :=
  u35 (fun (x0_shelf : (Nat → Int32)) (x0_rowSort : (Nat → Int32)) (x0_rowSize : (Nat → Int32)) (x0_rows : (Nat → Nat → Int64)) (x0_moved : (Nat → Int64)) (x0_shown : (Nat → Int32)) (x0_tape : (Nat → Int32)) (x0_tapeSize : Int32) (x0_refused : (Nat → Int32)) (x0_lines : Int32) (x0_line : (Nat → Nat → Int32)) (x0_changes : (Nat → Int32)) (x0_coins : (Nat → Int32)) (x0_goods : Int32) (x0_good : (Nat → Nat → Int32)) (x0_works : Int32) (x0_work : (Nat → Nat → Int32)) (x0_years : Int32) (x0_gone : Int32) (x0_spent : Int32) (x0_at : Int32) (x0_token : Int32) (x0_from : Int32) (x0_figures : Int64) (x0_fault : Int32) (x0_numbers : (Nat → Int32)) (x0_statements : Int32) (x0_left : (Nat → Int32)) (x0_far : (Nat → Int32)) (x0_tons : Int32) (x0_way : (Nat → Int32)) (x0_steps : Int32) (x0_met : Int64) (x0_queue : (Nat → Int32)) (x0_totals : (Nat → Int32)) => (fX7_in ((p1).toInt64) (0 : Int64) (7 : Int64)).bind (fun v1 => if v1 = 0 then (some (-1)) else ((rd 8 x0_shelf p1).bind fun v3 => if v3 = 0 then (some (-1)) else ((rd 8 x0_shelf p1).bind fun v4 => if v4 = 1 then ((rd 8 x0_rowSort p1).bind fun v6 => some v6) else ((rd 8 x0_shown p1).bind fun v5 => some (10 + v5)))))) X0
set_option maxHeartbeats 4000000 in
set_option maxRecDepth 100000 in
theorem kX7_holds (l : Launch) (d : DT) (h0 : Nat → Nat) (r0_rows : Nat → Nat) (r0_line : Nat → Nat) (r0_good : Nat → Nat) (r0_work : Nat → Nat) (a0_kept : Option Nat) (a0_tried : Option Nat) (a0_chosen : Option Nat) (x0_shelf : (Nat → Int32)) (x0_rowSort : (Nat → Int32)) (x0_rowSize : (Nat → Int32)) (x0_rows : (Nat → Nat → Int64)) (x0_moved : (Nat → Int64)) (x0_shown : (Nat → Int32)) (x0_tape : (Nat → Int32)) (x0_tapeSize : Int32) (x0_refused : (Nat → Int32)) (x0_lines : Int32) (x0_line : (Nat → Nat → Int32)) (x0_changes : (Nat → Int32)) (x0_coins : (Nat → Int32)) (x0_goods : Int32) (x0_good : (Nat → Nat → Int32)) (x0_works : Int32) (x0_work : (Nat → Nat → Int32)) (x0_years : Int32) (x0_gone : Int32) (x0_spent : Int32) (x0_at : Int32) (x0_token : Int32) (x0_from : Int32) (x0_figures : Int64) (x0_fault : Int32) (x0_numbers : (Nat → Int32)) (x0_statements : Int32) (x0_left : (Nat → Int32)) (x0_far : (Nat → Int32)) (x0_tons : Int32) (x0_way : (Nat → Int32)) (x0_steps : Int32) (x0_met : Int64) (x0_queue : (Nat → Int32)) (x0_totals : (Nat → Int32)) (p1 : Int32)  {out : Int32} (hf : fX7_holds (x0_shelf, x0_rowSort, x0_rowSize, x0_rows, x0_moved, x0_shown, x0_tape, x0_tapeSize, x0_refused, x0_lines, x0_line, x0_changes, x0_coins, x0_goods, x0_good, x0_works, x0_work, x0_years, x0_gone, x0_spent, x0_at, x0_token, x0_from, x0_figures, x0_fault, x0_numbers, x0_statements, x0_left, x0_far, x0_tons, x0_way, x0_steps, x0_met, x0_queue, x0_totals) p1 = some out) : Ct l d yX7_holds cX7_holds 2 (some .int) { frames := 1, cells := 0, slots := 0, locals := 25 } [.ref (h0 0), .int p1] [gMd d h0 a0_kept a0_tried a0_chosen r0_rows r0_line r0_good r0_work x0_shelf x0_rowSort x0_rowSize x0_moved x0_shown x0_tape x0_tapeSize x0_refused x0_lines x0_changes x0_coins x0_goods x0_works x0_years x0_gone x0_spent x0_at x0_token x0_from x0_figures x0_fault x0_numbers x0_statements x0_left x0_far x0_tons x0_way x0_steps x0_met x0_queue x0_totals] (fun _ : Unit => (some (.int out), [gMd d h0 a0_kept a0_tried a0_chosen r0_rows r0_line r0_good r0_work x0_shelf x0_rowSort x0_rowSize x0_moved x0_shown x0_tape x0_tapeSize x0_refused x0_lines x0_changes x0_coins x0_goods x0_works x0_years x0_gone x0_spent x0_at x0_token x0_from x0_figures x0_fault x0_numbers x0_statements x0_left x0_far x0_tons x0_way x0_steps x0_met x0_queue x0_totals])) := by
  refine Ct.of (by decide) (Nat.le_of_ble_eq_true rfl) ?_
  intro Φ hl hK hR
  subst hl
  have hK : Ok d Φ RX7 "holds" cX7_holds 2 (some .int) { frames := 1, cells := 0, slots := 0, locals := 25 } := hK
  unfold fX7_holds at hf
  have hf := un35 hf
  show J d Φ 2 [gMd d h0 a0_kept a0_tried a0_chosen r0_rows r0_line r0_good r0_work x0_shelf x0_rowSort x0_rowSize x0_moved x0_shown x0_tape x0_tapeSize x0_refused x0_lines x0_changes x0_coins x0_goods x0_works x0_years x0_gone x0_spent x0_at x0_token x0_from x0_figures x0_fault x0_numbers x0_statements x0_left x0_far x0_tons x0_way x0_steps x0_met x0_queue x0_totals] 0 0 0 [(0, .ref (h0 0)), (1, .int p1)] []
  refine J_iload_n hK qd2_144.1 rfl 1 rfl rfl ?_
  refine J_i2l hK qd2_144.2.1 rfl ?_
  refine J_lconst (v := 0) hK qd2_144.2.2.1 rfl (by decide) ?_
  refine J_ldc2 (v := (7 : Int64)) hK qd2_144.2.2.2.1 rfl wk_RX7_88 ?_
  obtain ⟨v1, e2, hf⟩ := bs hf
  refine J_callS (m := 1) (m' := 1) (ce' := 0) (sl' := 0) (gr := [gMd d h0 a0_kept a0_tried a0_chosen r0_rows r0_line r0_good r0_work x0_shelf x0_rowSort x0_rowSize x0_moved x0_shown x0_tape x0_tapeSize x0_refused x0_lines x0_changes x0_coins x0_goods x0_works x0_years x0_gone x0_spent x0_at x0_token x0_from x0_figures x0_fault x0_numbers x0_statements x0_left x0_far x0_tons x0_way x0_steps x0_met x0_queue x0_totals]) (gs' := fun _ => [gMd d h0 a0_kept a0_tried a0_chosen r0_rows r0_line r0_good r0_work x0_shelf x0_rowSort x0_rowSize x0_moved x0_shown x0_tape x0_tapeSize x0_refused x0_lines x0_changes x0_coins x0_goods x0_works x0_years x0_gone x0_spent x0_at x0_token x0_from x0_figures x0_fault x0_numbers x0_statements x0_left x0_far x0_tons x0_way x0_steps x0_met x0_queue x0_totals]) (st' := fun _ => [.int v1]) (st := []) hK qd2_144.2.2.2.2.1 cv_RX7_78 ws_yX7_in (As := [.long ((p1).toInt64), .long (0 : Int64), .long (7 : Int64)]) (kX7_in _ d ((p1).toInt64) (0 : Int64) (7 : Int64) e2) rfl rfl (Nat.le_of_ble_eq_true rfl) (by decide) [] [0] rfl (by decide +kernel) rfl rfl [0] (by decide +kernel) (fun _ => rfl) (fun _ => rfl) rfl rfl rfl (fun _ => rfl) (fun _ => ?_)
  refine J_if_eq (tg := 21) hK qd2_144.2.2.2.2.2.1 rfl rfl (fun hc9 => ?_) (fun hc9 => ?_)
  · have hf := ip hc9 hf
    refine J_iconst (v := (-1)) hK qd2_144.2.2.2.2.2.2.2.2.2.2.2.1 rfl (by decide) ?_
    obtain rfl := Option.some.inj hf
    exact J_iret hK hR qd2_144.2.2.2.2.2.2.2.2.2.2.2.2.1 () rfl (by decide) (by decide)
  · have hf := iq hc9 hf
    refine J_aload_n hK qd2_144.2.2.2.2.2.2.1 rfl 0 rfl rfl ?_
    refine J_get hK fo_RX7_7 qd2_144.2.2.2.2.2.2.2.1 rfl 0 0 rfl rfl rfl ?_
    refine J_iload_n hK qd2_144.2.2.2.2.2.2.2.2.1 rfl 1 rfl rfl ?_
    obtain ⟨v3, ev3, hf⟩ := bs hf
    refine J_iald hK qd2_144.2.2.2.2.2.2.2.2.2.1 rfl 0 1 rfl rfl ev3 ?_
    refine J_if_ne (tg := 23) hK qd2_144.2.2.2.2.2.2.2.2.2.2.1 rfl rfl (fun hc18 => ?_) (fun hc18 => ?_)
    · have hf := iq hc18 hf
      refine J_aload_n hK qd2_144.2.2.2.2.2.2.2.2.2.2.2.2.2.1 rfl 0 rfl rfl ?_
      refine J_get hK fo_RX7_7 qd2_144.2.2.2.2.2.2.2.2.2.2.2.2.2.2.1 rfl 0 0 rfl rfl rfl ?_
      refine J_iload_n hK qd2_144.2.2.2.2.2.2.2.2.2.2.2.2.2.2.2.1 rfl 1 rfl rfl ?_
      obtain ⟨v4, ev4, hf⟩ := bs hf
      refine J_iald hK qd2_145.1 rfl 0 1 rfl rfl ev4 ?_
      refine J_iconst (v := 1) hK qd2_145.2.1 rfl (by decide) ?_
      refine J_icmp_ne (tg := 42) hK qd2_145.2.2.1 rfl rfl (fun hc30 => ?_) (fun hc30 => ?_)
      · have hf := iq hc30 hf
        refine J_bipush (v := 10) hK qd2_145.2.2.2.2.2.2.2.2.1 rfl (by decide) ?_
        refine J_aload_n hK qd2_145.2.2.2.2.2.2.2.2.2.1 rfl 0 rfl rfl ?_
        refine J_get hK fo_RX7_28 qd2_145.2.2.2.2.2.2.2.2.2.2.1 rfl 0 0 rfl rfl rfl ?_
        refine J_iload_n hK qd2_145.2.2.2.2.2.2.2.2.2.2.2.1 rfl 1 rfl rfl ?_
        obtain ⟨v5, ev5, hf⟩ := bs hf
        refine J_iald hK qd2_145.2.2.2.2.2.2.2.2.2.2.2.2.1 rfl 0 6 rfl rfl ev5 ?_
        refine J_iadd hK qd2_145.2.2.2.2.2.2.2.2.2.2.2.2.2.1 rfl ?_
        obtain rfl := Option.some.inj hf
        exact J_iret hK hR qd2_145.2.2.2.2.2.2.2.2.2.2.2.2.2.2.1 () rfl (by decide) (by decide)
      · have hf := ip hc30 hf
        refine J_aload_n hK qd2_145.2.2.2.1 rfl 0 rfl rfl ?_
        refine J_get hK fo_RX7_13 qd2_145.2.2.2.2.1 rfl 0 0 rfl rfl rfl ?_
        refine J_iload_n hK qd2_145.2.2.2.2.2.1 rfl 1 rfl rfl ?_
        obtain ⟨v6, ev6, hf⟩ := bs hf
        refine J_iald hK qd2_145.2.2.2.2.2.2.1 rfl 0 2 rfl rfl ev6 ?_
        refine J_goto hK qd2_145.2.2.2.2.2.2.2.1 (n := 51) rfl ?_
        obtain rfl := Option.some.inj hf
        exact J_iret hK hR qd2_145.2.2.2.2.2.2.2.2.2.2.2.2.2.2.1 () rfl (by decide) (by decide)
    · have hf := ip hc18 hf
      refine J_iconst (v := (-1)) hK qd2_144.2.2.2.2.2.2.2.2.2.2.2.1 rfl (by decide) ?_
      obtain rfl := Option.some.inj hf
      exact J_iret hK hR qd2_144.2.2.2.2.2.2.2.2.2.2.2.2.1 () rfl (by decide) (by decide)

def fX7_show_j47 (p1 : Int32) (p2 : Int32) (x0_shelf : (Nat → Int32)) (x0_shown : (Nat → Int32)) (x0_refused : (Nat → Int32)) (y6 : Int32) : Option (Int32 × (Nat → Int32) × (Nat → Int32) × (Nat → Int32)) :=
  (wr 8 x0_shelf p1 y6).bind fun f7 => (wr 8 x0_shown p1 p2).bind fun f8 => some (1, f7, f8, x0_refused)
def fX7_show_j32 (p1 : Int32) (p2 : Int32) (x0_shelf : (Nat → Int32)) (x0_shown : (Nat → Int32)) (x0_refused : (Nat → Int32)) : Option (Int32 × (Nat → Int32) × (Nat → Int32) × (Nat → Int32)) :=
  if p2 = (-1) then (fX7_show_j47 p1 p2 x0_shelf x0_shown x0_refused (0)) else (fX7_show_j47 p1 p2 x0_shelf x0_shown x0_refused (2))
def fX7_show (X0 : MdT) (p1 : Int32) (p2 : Int32) : Option (Int32 × (Nat → Int32) × (Nat → Int32) × (Nat → Int32)) :=
  u35 (fun (x0_shelf : (Nat → Int32)) (x0_rowSort : (Nat → Int32)) (x0_rowSize : (Nat → Int32)) (x0_rows : (Nat → Nat → Int64)) (x0_moved : (Nat → Int64)) (x0_shown : (Nat → Int32)) (x0_tape : (Nat → Int32)) (x0_tapeSize : Int32) (x0_refused : (Nat → Int32)) (x0_lines : Int32) (x0_line : (Nat → Nat → Int32)) (x0_changes : (Nat → Int32)) (x0_coins : (Nat → Int32)) (x0_goods : Int32) (x0_good : (Nat → Nat → Int32)) (x0_works : Int32) (x0_work : (Nat → Nat → Int32)) (x0_years : Int32) (x0_gone : Int32) (x0_spent : Int32) (x0_at : Int32) (x0_token : Int32) (x0_from : Int32) (x0_figures : Int64) (x0_fault : Int32) (x0_numbers : (Nat → Int32)) (x0_statements : Int32) (x0_left : (Nat → Int32)) (x0_far : (Nat → Int32)) (x0_tons : Int32) (x0_way : (Nat → Int32)) (x0_steps : Int32) (x0_met : Int64) (x0_queue : (Nat → Int32)) (x0_totals : (Nat → Int32)) => (fX7_in ((p1).toInt64) (0 : Int64) (7 : Int64)).bind (fun v1 => if v1 = 0 then ((fX7_refuse (x0_shelf, x0_rowSort, x0_rowSize, x0_rows, x0_moved, x0_shown, x0_tape, x0_tapeSize, x0_refused, x0_lines, x0_line, x0_changes, x0_coins, x0_goods, x0_good, x0_works, x0_work, x0_years, x0_gone, x0_spent, x0_at, x0_token, x0_from, x0_figures, x0_fault, x0_numbers, x0_statements, x0_left, x0_far, x0_tons, x0_way, x0_steps, x0_met, x0_queue, x0_totals) (-2)).bind (u2 fun v3 g4 => some (v3, x0_shelf, x0_shown, g4))) else (if p2 = (-1) then (fX7_show_j32 p1 p2 x0_shelf x0_shown x0_refused) else ((fX7_isWork (x0_shelf, x0_rowSort, x0_rowSize, x0_rows, x0_moved, x0_shown, x0_tape, x0_tapeSize, x0_refused, x0_lines, x0_line, x0_changes, x0_coins, x0_goods, x0_good, x0_works, x0_work, x0_years, x0_gone, x0_spent, x0_at, x0_token, x0_from, x0_figures, x0_fault, x0_numbers, x0_statements, x0_left, x0_far, x0_tons, x0_way, x0_steps, x0_met, x0_queue, x0_totals) p2).bind (fun v9 => if v9 = 0 then ((fX7_refuse (x0_shelf, x0_rowSort, x0_rowSize, x0_rows, x0_moved, x0_shown, x0_tape, x0_tapeSize, x0_refused, x0_lines, x0_line, x0_changes, x0_coins, x0_goods, x0_good, x0_works, x0_work, x0_years, x0_gone, x0_spent, x0_at, x0_token, x0_from, x0_figures, x0_fault, x0_numbers, x0_statements, x0_left, x0_far, x0_tons, x0_way, x0_steps, x0_met, x0_queue, x0_totals) (-2)).bind (u2 fun v11 g12 => some (v11, x0_shelf, x0_shown, g12))) else (fX7_show_j32 p1 p2 x0_shelf x0_shown x0_refused)))))) X0
set_option maxHeartbeats 4000000 in
set_option maxRecDepth 100000 in
theorem kX7_show (l : Launch) (d : DT) (h0 : Nat → Nat) (r0_rows : Nat → Nat) (r0_line : Nat → Nat) (r0_good : Nat → Nat) (r0_work : Nat → Nat) (a0_kept : Option Nat) (a0_tried : Option Nat) (a0_chosen : Option Nat) (x0_shelf : (Nat → Int32)) (x0_rowSort : (Nat → Int32)) (x0_rowSize : (Nat → Int32)) (x0_rows : (Nat → Nat → Int64)) (x0_moved : (Nat → Int64)) (x0_shown : (Nat → Int32)) (x0_tape : (Nat → Int32)) (x0_tapeSize : Int32) (x0_refused : (Nat → Int32)) (x0_lines : Int32) (x0_line : (Nat → Nat → Int32)) (x0_changes : (Nat → Int32)) (x0_coins : (Nat → Int32)) (x0_goods : Int32) (x0_good : (Nat → Nat → Int32)) (x0_works : Int32) (x0_work : (Nat → Nat → Int32)) (x0_years : Int32) (x0_gone : Int32) (x0_spent : Int32) (x0_at : Int32) (x0_token : Int32) (x0_from : Int32) (x0_figures : Int64) (x0_fault : Int32) (x0_numbers : (Nat → Int32)) (x0_statements : Int32) (x0_left : (Nat → Int32)) (x0_far : (Nat → Int32)) (x0_tons : Int32) (x0_way : (Nat → Int32)) (x0_steps : Int32) (x0_met : Int64) (x0_queue : (Nat → Int32)) (x0_totals : (Nat → Int32)) (p1 : Int32) (p2 : Int32)  {out : Int32 × (Nat → Int32) × (Nat → Int32) × (Nat → Int32)} (hf : fX7_show (x0_shelf, x0_rowSort, x0_rowSize, x0_rows, x0_moved, x0_shown, x0_tape, x0_tapeSize, x0_refused, x0_lines, x0_line, x0_changes, x0_coins, x0_goods, x0_good, x0_works, x0_work, x0_years, x0_gone, x0_spent, x0_at, x0_token, x0_from, x0_figures, x0_fault, x0_numbers, x0_statements, x0_left, x0_far, x0_tons, x0_way, x0_steps, x0_met, x0_queue, x0_totals) p1 p2 = some out) : Ct l d yX7_show cX7_show 3 (some .int) { frames := 2, cells := 0, slots := 0, locals := 46 } [.ref (h0 0), .int p1, .int p2] [gMd d h0 a0_kept a0_tried a0_chosen r0_rows r0_line r0_good r0_work x0_shelf x0_rowSort x0_rowSize x0_moved x0_shown x0_tape x0_tapeSize x0_refused x0_lines x0_changes x0_coins x0_goods x0_works x0_years x0_gone x0_spent x0_at x0_token x0_from x0_figures x0_fault x0_numbers x0_statements x0_left x0_far x0_tons x0_way x0_steps x0_met x0_queue x0_totals] (fun _ : Unit => (some (.int out.1), [gMd d h0 a0_kept a0_tried a0_chosen r0_rows r0_line r0_good r0_work (out.2.1) x0_rowSort x0_rowSize x0_moved (out.2.2.1) x0_tape x0_tapeSize (out.2.2.2) x0_lines x0_changes x0_coins x0_goods x0_works x0_years x0_gone x0_spent x0_at x0_token x0_from x0_figures x0_fault x0_numbers x0_statements x0_left x0_far x0_tons x0_way x0_steps x0_met x0_queue x0_totals])) := by
  refine Ct.of (by decide) (Nat.le_of_ble_eq_true rfl) ?_
  intro Φ hl hK hR
  subst hl
  have hK : Ok d Φ RX7 "show" cX7_show 3 (some .int) { frames := 2, cells := 0, slots := 0, locals := 46 } := hK
  unfold fX7_show at hf
  have hf := un35 hf
  show J d Φ 3 [gMd d h0 a0_kept a0_tried a0_chosen r0_rows r0_line r0_good r0_work x0_shelf x0_rowSort x0_rowSize x0_moved x0_shown x0_tape x0_tapeSize x0_refused x0_lines x0_changes x0_coins x0_goods x0_works x0_years x0_gone x0_spent x0_at x0_token x0_from x0_figures x0_fault x0_numbers x0_statements x0_left x0_far x0_tons x0_way x0_steps x0_met x0_queue x0_totals] 0 0 0 [(0, .ref (h0 0)), (1, .int p1), (2, .int p2)] []
  refine J_iload_n hK qd2_146.1 rfl 1 rfl rfl ?_
  refine J_i2l hK qd2_146.2.1 rfl ?_
  refine J_lconst (v := 0) hK qd2_146.2.2.1 rfl (by decide) ?_
  refine J_ldc2 (v := (7 : Int64)) hK qd2_146.2.2.2.1 rfl wk_RX7_88 ?_
  obtain ⟨v1, e2, hf⟩ := bs hf
  refine J_callS (m := 1) (m' := 1) (ce' := 0) (sl' := 0) (gr := [gMd d h0 a0_kept a0_tried a0_chosen r0_rows r0_line r0_good r0_work x0_shelf x0_rowSort x0_rowSize x0_moved x0_shown x0_tape x0_tapeSize x0_refused x0_lines x0_changes x0_coins x0_goods x0_works x0_years x0_gone x0_spent x0_at x0_token x0_from x0_figures x0_fault x0_numbers x0_statements x0_left x0_far x0_tons x0_way x0_steps x0_met x0_queue x0_totals]) (gs' := fun _ => [gMd d h0 a0_kept a0_tried a0_chosen r0_rows r0_line r0_good r0_work x0_shelf x0_rowSort x0_rowSize x0_moved x0_shown x0_tape x0_tapeSize x0_refused x0_lines x0_changes x0_coins x0_goods x0_works x0_years x0_gone x0_spent x0_at x0_token x0_from x0_figures x0_fault x0_numbers x0_statements x0_left x0_far x0_tons x0_way x0_steps x0_met x0_queue x0_totals]) (st' := fun _ => [.int v1]) (st := []) hK qd2_146.2.2.2.2.1 cv_RX7_78 ws_yX7_in (As := [.long ((p1).toInt64), .long (0 : Int64), .long (7 : Int64)]) (kX7_in _ d ((p1).toInt64) (0 : Int64) (7 : Int64) e2) rfl rfl (Nat.le_of_ble_eq_true rfl) (by decide) [] [0] rfl (by decide +kernel) rfl rfl [0] (by decide +kernel) (fun _ => rfl) (fun _ => rfl) rfl rfl rfl (fun _ => rfl) (fun _ => ?_)
  refine J_if_eq (tg := 25) hK qd2_146.2.2.2.2.2.1 rfl rfl (fun hc9 => ?_) (fun hc9 => ?_)
  · have hf := ip hc9 hf
    refine J_aload_n hK qd2_146.2.2.2.2.2.2.2.2.2.2.2.2.2.1 rfl 0 rfl rfl ?_
    refine J_bipush (v := (-2)) hK qd2_146.2.2.2.2.2.2.2.2.2.2.2.2.2.2.1 rfl (by decide) ?_
    obtain ⟨⟨v3, g4⟩, e5, hf⟩ := bs hf
    have hf := un2 hf
    refine J_callV (m := 1) (m' := 1) (ce' := 0) (sl' := 0) (gr := []) (gs' := fun _ => [gMd d h0 a0_kept a0_tried a0_chosen r0_rows r0_line r0_good r0_work x0_shelf x0_rowSort x0_rowSize x0_moved x0_shown x0_tape x0_tapeSize g4 x0_lines x0_changes x0_coins x0_goods x0_works x0_years x0_gone x0_spent x0_at x0_token x0_from x0_figures x0_fault x0_numbers x0_statements x0_left x0_far x0_tons x0_way x0_steps x0_met x0_queue x0_totals]) (st' := fun _ => [.int v3]) (st := []) hK qd2_146.2.2.2.2.2.2.2.2.2.2.2.2.2.2.2.1 cv_RX7_94 iv_yX7_refuse (As := [.int (-2)]) (kX7_refuse _ d h0 r0_rows r0_line r0_good r0_work a0_kept a0_tried a0_chosen x0_shelf x0_rowSort x0_rowSize x0_rows x0_moved x0_shown x0_tape x0_tapeSize x0_refused x0_lines x0_line x0_changes x0_coins x0_goods x0_good x0_works x0_work x0_years x0_gone x0_spent x0_at x0_token x0_from x0_figures x0_fault x0_numbers x0_statements x0_left x0_far x0_tons x0_way x0_steps x0_met x0_queue x0_totals (-2) e5) rfl rfl (Nat.le_of_ble_eq_true rfl) (by decide) 0 0 rfl rfl rfl [0] [] rfl (by decide +kernel) rfl rfl [0] (by decide +kernel) (fun _ => rfl) (fun _ => rfl) rfl rfl rfl (fun _ => rfl) (fun _ => ?_)
    obtain rfl := Option.some.inj hf
    exact J_iret hK hR qd2_147.1 () rfl (by decide) (by decide)
  · have hf := iq hc9 hf
    refine J_iload_n hK qd2_146.2.2.2.2.2.2.1 rfl 2 rfl rfl ?_
    refine J_iconst (v := (-1)) hK qd2_146.2.2.2.2.2.2.2.1 rfl (by decide) ?_
    have j32 : fX7_show_j32 p1 p2 x0_shelf x0_shown x0_refused = some out → J d Φ 3 [gMd d h0 a0_kept a0_tried a0_chosen r0_rows r0_line r0_good r0_work x0_shelf x0_rowSort x0_rowSize x0_moved x0_shown x0_tape x0_tapeSize x0_refused x0_lines x0_changes x0_coins x0_goods x0_works x0_years x0_gone x0_spent x0_at x0_token x0_from x0_figures x0_fault x0_numbers x0_statements x0_left x0_far x0_tons x0_way x0_steps x0_met x0_queue x0_totals] 0 0 32 [(0, .ref (h0 0)), (1, .int p1), (2, .int p2)] [] := by
      intro  hf
      unfold fX7_show_j32 at hf
      refine J_aload_n hK qd2_147.2.1 rfl 0 rfl rfl ?_
      refine J_get hK fo_RX7_7 qd2_147.2.2.1 rfl 0 0 rfl rfl rfl ?_
      refine J_iload_n hK qd2_147.2.2.2.1 rfl 1 rfl rfl ?_
      refine J_iload_n hK qd2_147.2.2.2.2.1 rfl 2 rfl rfl ?_
      refine J_iconst (v := (-1)) hK qd2_147.2.2.2.2.2.1 rfl (by decide) ?_
      have j47 : ∀ (y6 : Int32), fX7_show_j47 p1 p2 x0_shelf x0_shown x0_refused y6 = some out → J d Φ 3 [gMd d h0 a0_kept a0_tried a0_chosen r0_rows r0_line r0_good r0_work x0_shelf x0_rowSort x0_rowSize x0_moved x0_shown x0_tape x0_tapeSize x0_refused x0_lines x0_changes x0_coins x0_goods x0_works x0_years x0_gone x0_spent x0_at x0_token x0_from x0_figures x0_fault x0_numbers x0_statements x0_left x0_far x0_tons x0_way x0_steps x0_met x0_queue x0_totals] 0 0 47 [(0, .ref (h0 0)), (1, .int p1), (2, .int p2)] [.int y6, .int p1, .ref (h0 1)] := by
        intro y6 hf
        unfold fX7_show_j47 at hf
        obtain ⟨f7, ef7, hf⟩ := bs hf
        refine J_iast (g' := gMd d h0 a0_kept a0_tried a0_chosen r0_rows r0_line r0_good r0_work f7 x0_rowSort x0_rowSize x0_moved x0_shown x0_tape x0_tapeSize x0_refused x0_lines x0_changes x0_coins x0_goods x0_works x0_years x0_gone x0_spent x0_at x0_token x0_from x0_figures x0_fault x0_numbers x0_statements x0_left x0_far x0_tons x0_way x0_steps x0_met x0_queue x0_totals) (gs' := [gMd d h0 a0_kept a0_tried a0_chosen r0_rows r0_line r0_good r0_work f7 x0_rowSort x0_rowSize x0_moved x0_shown x0_tape x0_tapeSize x0_refused x0_lines x0_changes x0_coins x0_goods x0_works x0_years x0_gone x0_spent x0_at x0_token x0_from x0_figures x0_fault x0_numbers x0_statements x0_left x0_far x0_tons x0_way x0_steps x0_met x0_queue x0_totals]) hK qd2_147.2.2.2.2.2.2.2.2.2.2.1 rfl 0 1 rfl rfl ef7 rfl rfl ?_
        refine J_aload_n hK qd2_147.2.2.2.2.2.2.2.2.2.2.2.1 rfl 0 rfl rfl ?_
        refine J_get hK fo_RX7_28 qd2_147.2.2.2.2.2.2.2.2.2.2.2.2.1 rfl 0 0 rfl rfl rfl ?_
        refine J_iload_n hK qd2_147.2.2.2.2.2.2.2.2.2.2.2.2.2.1 rfl 1 rfl rfl ?_
        refine J_iload_n hK qd2_147.2.2.2.2.2.2.2.2.2.2.2.2.2.2.1 rfl 2 rfl rfl ?_
        obtain ⟨f8, ef8, hf⟩ := bs hf
        refine J_iast (g' := gMd d h0 a0_kept a0_tried a0_chosen r0_rows r0_line r0_good r0_work f7 x0_rowSort x0_rowSize x0_moved f8 x0_tape x0_tapeSize x0_refused x0_lines x0_changes x0_coins x0_goods x0_works x0_years x0_gone x0_spent x0_at x0_token x0_from x0_figures x0_fault x0_numbers x0_statements x0_left x0_far x0_tons x0_way x0_steps x0_met x0_queue x0_totals) (gs' := [gMd d h0 a0_kept a0_tried a0_chosen r0_rows r0_line r0_good r0_work f7 x0_rowSort x0_rowSize x0_moved f8 x0_tape x0_tapeSize x0_refused x0_lines x0_changes x0_coins x0_goods x0_works x0_years x0_gone x0_spent x0_at x0_token x0_from x0_figures x0_fault x0_numbers x0_statements x0_left x0_far x0_tons x0_way x0_steps x0_met x0_queue x0_totals]) hK qd2_147.2.2.2.2.2.2.2.2.2.2.2.2.2.2.2.1 rfl 0 6 rfl rfl ef8 rfl rfl ?_
        refine J_iconst (v := 1) hK qd2_148.1 rfl (by decide) ?_
        obtain rfl := Option.some.inj hf
        exact J_iret hK hR qd2_148.2.1 () rfl (by decide) (by decide)
      refine J_icmp_ne (tg := 46) hK qd2_147.2.2.2.2.2.2.1 rfl rfl (fun hc39 => ?_) (fun hc39 => ?_)
      · have hf := iq hc39 hf
        refine J_iconst (v := 2) hK qd2_147.2.2.2.2.2.2.2.2.2.1 rfl (by decide) ?_
        exact (j47 (2) hf)
      · have hf := ip hc39 hf
        refine J_iconst (v := 0) hK qd2_147.2.2.2.2.2.2.2.1 rfl (by decide) ?_
        refine J_goto hK qd2_147.2.2.2.2.2.2.2.2.1 (n := 47) rfl ?_
        exact (j47 (0) hf)
    refine J_icmp_eq (tg := 32) hK qd2_146.2.2.2.2.2.2.2.2.1 rfl rfl (fun hc14 => ?_) (fun hc14 => ?_)
    · have hf := ip hc14 hf
      exact (j32  hf)
    · have hf := iq hc14 hf
      refine J_aload_n hK qd2_146.2.2.2.2.2.2.2.2.2.1 rfl 0 rfl rfl ?_
      refine J_iload_n hK qd2_146.2.2.2.2.2.2.2.2.2.2.1 rfl 2 rfl rfl ?_
      obtain ⟨v9, e10, hf⟩ := bs hf
      refine J_callV (m := 1) (m' := 1) (ce' := 0) (sl' := 0) (gr := []) (gs' := fun _ => [gMd d h0 a0_kept a0_tried a0_chosen r0_rows r0_line r0_good r0_work x0_shelf x0_rowSort x0_rowSize x0_moved x0_shown x0_tape x0_tapeSize x0_refused x0_lines x0_changes x0_coins x0_goods x0_works x0_years x0_gone x0_spent x0_at x0_token x0_from x0_figures x0_fault x0_numbers x0_statements x0_left x0_far x0_tons x0_way x0_steps x0_met x0_queue x0_totals]) (st' := fun _ => [.int v9]) (st := []) hK qd2_146.2.2.2.2.2.2.2.2.2.2.2.1 cv_RX7_102 iv_yX7_isWork (As := [.int p2]) (kX7_isWork _ d h0 r0_rows r0_line r0_good r0_work a0_kept a0_tried a0_chosen x0_shelf x0_rowSort x0_rowSize x0_rows x0_moved x0_shown x0_tape x0_tapeSize x0_refused x0_lines x0_line x0_changes x0_coins x0_goods x0_good x0_works x0_work x0_years x0_gone x0_spent x0_at x0_token x0_from x0_figures x0_fault x0_numbers x0_statements x0_left x0_far x0_tons x0_way x0_steps x0_met x0_queue x0_totals p2 e10) rfl rfl (Nat.le_of_ble_eq_true rfl) (by decide) 0 0 rfl rfl rfl [0] [] rfl (by decide +kernel) rfl rfl [0] (by decide +kernel) (fun _ => rfl) (fun _ => rfl) rfl rfl rfl (fun _ => rfl) (fun _ => ?_)
      refine J_if_ne (tg := 32) hK qd2_146.2.2.2.2.2.2.2.2.2.2.2.2.1 rfl rfl (fun hc22 => ?_) (fun hc22 => ?_)
      · have hf := iq hc22 hf
        exact (j32  hf)
      · have hf := ip hc22 hf
        refine J_aload_n hK qd2_146.2.2.2.2.2.2.2.2.2.2.2.2.2.1 rfl 0 rfl rfl ?_
        refine J_bipush (v := (-2)) hK qd2_146.2.2.2.2.2.2.2.2.2.2.2.2.2.2.1 rfl (by decide) ?_
        obtain ⟨⟨v11, g12⟩, e13, hf⟩ := bs hf
        have hf := un2 hf
        refine J_callV (m := 1) (m' := 1) (ce' := 0) (sl' := 0) (gr := []) (gs' := fun _ => [gMd d h0 a0_kept a0_tried a0_chosen r0_rows r0_line r0_good r0_work x0_shelf x0_rowSort x0_rowSize x0_moved x0_shown x0_tape x0_tapeSize g12 x0_lines x0_changes x0_coins x0_goods x0_works x0_years x0_gone x0_spent x0_at x0_token x0_from x0_figures x0_fault x0_numbers x0_statements x0_left x0_far x0_tons x0_way x0_steps x0_met x0_queue x0_totals]) (st' := fun _ => [.int v11]) (st := []) hK qd2_146.2.2.2.2.2.2.2.2.2.2.2.2.2.2.2.1 cv_RX7_94 iv_yX7_refuse (As := [.int (-2)]) (kX7_refuse _ d h0 r0_rows r0_line r0_good r0_work a0_kept a0_tried a0_chosen x0_shelf x0_rowSort x0_rowSize x0_rows x0_moved x0_shown x0_tape x0_tapeSize x0_refused x0_lines x0_line x0_changes x0_coins x0_goods x0_good x0_works x0_work x0_years x0_gone x0_spent x0_at x0_token x0_from x0_figures x0_fault x0_numbers x0_statements x0_left x0_far x0_tons x0_way x0_steps x0_met x0_queue x0_totals (-2) e13) rfl rfl (Nat.le_of_ble_eq_true rfl) (by decide) 0 0 rfl rfl rfl [0] [] rfl (by decide +kernel) rfl rfl [0] (by decide +kernel) (fun _ => rfl) (fun _ => rfl) rfl rfl rfl (fun _ => rfl) (fun _ => ?_)
        obtain rfl := Option.some.inj hf
        exact J_iret hK hR qd2_147.1 () rfl (by decide) (by decide)
end
section
def fX7_isUnder_j19 (p0 : Int32) (p1 : Int32) : Option (Int32) :=
  if p1 = 4 then (if p0 = 5 then (some (1)) else (some (0))) else (some (0))
def fX7_isUnder (p0 : Int32) (p1 : Int32) : Option (Int32) :=
  if p1 = 0 then (some (1)) else (if p0 = p1 then (some (1)) else (if p1 = 1 then (if p0 = 2 then (some (1)) else (fX7_isUnder_j19 p0 p1)) else (fX7_isUnder_j19 p0 p1)))
set_option maxHeartbeats 4000000 in
set_option maxRecDepth 100000 in
theorem kX7_isUnder (l : Launch) (d : DT)  (p0 : Int32) (p1 : Int32)  {out : Int32} (hf : fX7_isUnder p0 p1 = some out) : Ct l d yX7_isUnder cX7_isUnder 2 (some .boolean) { frames := 0, cells := 0, slots := 0, locals := 0 } [.int p0, .int p1] [] (fun _ : Unit => (some (.int out), [])) := by
  refine Ct.of (by decide) (Nat.le_of_ble_eq_true rfl) ?_
  intro Φ hl hK hR
  subst hl
  have hK : Ok d Φ RX7 "isUnder" cX7_isUnder 2 (some .boolean) { frames := 0, cells := 0, slots := 0, locals := 0 } := hK
  unfold fX7_isUnder at hf
  show J d Φ 2 [] 0 0 0 [(0, .int p0), (1, .int p1)] []
  refine J_iload_n hK qd2_149.1 rfl 1 rfl rfl ?_
  refine J_if_eq (tg := 29) hK qd2_149.2.1 rfl rfl (fun hc1 => ?_) (fun hc1 => ?_)
  · have hf := ip hc1 hf
    refine J_iconst (v := 1) hK qd2_150.2.1 rfl (by decide) ?_
    refine J_goto hK qd2_150.2.2.1 (n := 34) rfl ?_
    obtain rfl := Option.some.inj hf
    exact J_zret hK hR qd2_150.2.2.2.2.1 () rfl rfl (by decide) (by decide)
  · have hf := iq hc1 hf
    refine J_iload_n hK qd2_149.2.2.1 rfl 0 rfl rfl ?_
    refine J_iload_n hK qd2_149.2.2.2.1 rfl 1 rfl rfl ?_
    refine J_icmp_eq (tg := 29) hK qd2_149.2.2.2.2.1 rfl rfl (fun hc6 => ?_) (fun hc6 => ?_)
    · have hf := ip hc6 hf
      refine J_iconst (v := 1) hK qd2_150.2.1 rfl (by decide) ?_
      refine J_goto hK qd2_150.2.2.1 (n := 34) rfl ?_
      obtain rfl := Option.some.inj hf
      exact J_zret hK hR qd2_150.2.2.2.2.1 () rfl rfl (by decide) (by decide)
    · have hf := iq hc6 hf
      refine J_iload_n hK qd2_149.2.2.2.2.2.1 rfl 1 rfl rfl ?_
      refine J_iconst (v := 1) hK qd2_149.2.2.2.2.2.2.1 rfl (by decide) ?_
      have j19 : fX7_isUnder_j19 p0 p1 = some out → J d Φ 2 [] 0 0 19 [(0, .int p0), (1, .int p1)] [] := by
        intro  hf
        unfold fX7_isUnder_j19 at hf
        refine J_iload_n hK qd2_149.2.2.2.2.2.2.2.2.2.2.2.1 rfl 1 rfl rfl ?_
        refine J_iconst (v := 4) hK qd2_149.2.2.2.2.2.2.2.2.2.2.2.2.1 rfl (by decide) ?_
        refine J_icmp_ne (tg := 33) hK qd2_149.2.2.2.2.2.2.2.2.2.2.2.2.2.1 rfl rfl (fun hc21 => ?_) (fun hc21 => ?_)
        · have hf := iq hc21 hf
          refine J_iconst (v := 0) hK qd2_150.2.2.2.1 rfl (by decide) ?_
          obtain rfl := Option.some.inj hf
          exact J_zret hK hR qd2_150.2.2.2.2.1 () rfl rfl (by decide) (by decide)
        · have hf := ip hc21 hf
          refine J_iload_n hK qd2_149.2.2.2.2.2.2.2.2.2.2.2.2.2.2.1 rfl 0 rfl rfl ?_
          refine J_iconst (v := 5) hK qd2_149.2.2.2.2.2.2.2.2.2.2.2.2.2.2.2.1 rfl (by decide) ?_
          refine J_icmp_ne (tg := 33) hK qd2_150.1 rfl rfl (fun hc26 => ?_) (fun hc26 => ?_)
          · have hf := iq hc26 hf
            refine J_iconst (v := 0) hK qd2_150.2.2.2.1 rfl (by decide) ?_
            obtain rfl := Option.some.inj hf
            exact J_zret hK hR qd2_150.2.2.2.2.1 () rfl rfl (by decide) (by decide)
          · have hf := ip hc26 hf
            refine J_iconst (v := 1) hK qd2_150.2.1 rfl (by decide) ?_
            refine J_goto hK qd2_150.2.2.1 (n := 34) rfl ?_
            obtain rfl := Option.some.inj hf
            exact J_zret hK hR qd2_150.2.2.2.2.1 () rfl rfl (by decide) (by decide)
      refine J_icmp_ne (tg := 19) hK qd2_149.2.2.2.2.2.2.2.1 rfl rfl (fun hc11 => ?_) (fun hc11 => ?_)
      · have hf := iq hc11 hf
        exact (j19  hf)
      · have hf := ip hc11 hf
        refine J_iload_n hK qd2_149.2.2.2.2.2.2.2.2.1 rfl 0 rfl rfl ?_
        refine J_iconst (v := 2) hK qd2_149.2.2.2.2.2.2.2.2.2.1 rfl (by decide) ?_
        refine J_icmp_eq (tg := 29) hK qd2_149.2.2.2.2.2.2.2.2.2.2.1 rfl rfl (fun hc16 => ?_) (fun hc16 => ?_)
        · have hf := ip hc16 hf
          refine J_iconst (v := 1) hK qd2_150.2.1 rfl (by decide) ?_
          refine J_goto hK qd2_150.2.2.1 (n := 34) rfl ?_
          obtain rfl := Option.some.inj hf
          exact J_zret hK hR qd2_150.2.2.2.2.1 () rfl rfl (by decide) (by decide)
        · have hf := iq hc16 hf
          exact (j19  hf)

def fX7_says_j78 (p1 : Int32) (p2 : Int32) (x0_shelf : (Nat → Int32)) (x0_rowSort : (Nat → Int32)) (x0_rowSize : (Nat → Int32)) (x0_rows : (Nat → Nat → Int64)) (x0_moved : (Nat → Int64)) (x0_shown : (Nat → Int32)) (x0_tape : (Nat → Int32)) (x0_tapeSize : Int32) (x0_refused : (Nat → Int32)) (x0_lines : Int32) (x0_line : (Nat → Nat → Int32)) (x0_changes : (Nat → Int32)) (x0_coins : (Nat → Int32)) (x0_goods : Int32) (x0_good : (Nat → Nat → Int32)) (x0_works : Int32) (x0_work : (Nat → Nat → Int32)) (x0_years : Int32) (x0_gone : Int32) (x0_spent : Int32) (x0_at : Int32) (x0_token : Int32) (x0_from : Int32) (x0_figures : Int64) (x0_fault : Int32) (x0_numbers : (Nat → Int32)) (x0_statements : Int32) (x0_left : (Nat → Int32)) (x0_far : (Nat → Int32)) (x0_tons : Int32) (x0_way : (Nat → Int32)) (x0_steps : Int32) (x0_met : Int64) (x0_queue : (Nat → Int32)) (x0_totals : (Nat → Int32)) : Option (Int32 × (Nat → Int32)) :=
  (rd 8 x0_shelf p1).bind fun v13 => if v13 = 0 then ((fX7_refuse (x0_shelf, x0_rowSort, x0_rowSize, x0_rows, x0_moved, x0_shown, x0_tape, x0_tapeSize, x0_refused, x0_lines, x0_line, x0_changes, x0_coins, x0_goods, x0_good, x0_works, x0_work, x0_years, x0_gone, x0_spent, x0_at, x0_token, x0_from, x0_figures, x0_fault, x0_numbers, x0_statements, x0_left, x0_far, x0_tons, x0_way, x0_steps, x0_met, x0_queue, x0_totals) (-4)).bind (u2 fun v20 g21 => some (v20, g21))) else ((rd 8 x0_shown p1).bind fun v14 => (ck v14 7).bind fun q15 => if p2 = 0 then ((rd 5 (x0_work q15) (3)).bind fun v19 => some (v19, x0_refused)) else (if 4 ≤ p2 then ((rd 5 (x0_work q15) (1)).bind fun v16 => (rd 5 (x0_work q15) (2)).bind fun v17 => some (((100 * v16) + v17), x0_refused)) else ((rd 5 (x0_work q15) (1)).bind fun v18 => some (v18, x0_refused))))
def fX7_says (X0 : MdT) (p1 : Int32) (p2 : Int32) : Option (Int32 × (Nat → Int32)) :=
  u35 (fun (x0_shelf : (Nat → Int32)) (x0_rowSort : (Nat → Int32)) (x0_rowSize : (Nat → Int32)) (x0_rows : (Nat → Nat → Int64)) (x0_moved : (Nat → Int64)) (x0_shown : (Nat → Int32)) (x0_tape : (Nat → Int32)) (x0_tapeSize : Int32) (x0_refused : (Nat → Int32)) (x0_lines : Int32) (x0_line : (Nat → Nat → Int32)) (x0_changes : (Nat → Int32)) (x0_coins : (Nat → Int32)) (x0_goods : Int32) (x0_good : (Nat → Nat → Int32)) (x0_works : Int32) (x0_work : (Nat → Nat → Int32)) (x0_years : Int32) (x0_gone : Int32) (x0_spent : Int32) (x0_at : Int32) (x0_token : Int32) (x0_from : Int32) (x0_figures : Int64) (x0_fault : Int32) (x0_numbers : (Nat → Int32)) (x0_statements : Int32) (x0_left : (Nat → Int32)) (x0_far : (Nat → Int32)) (x0_tons : Int32) (x0_way : (Nat → Int32)) (x0_steps : Int32) (x0_met : Int64) (x0_queue : (Nat → Int32)) (x0_totals : (Nat → Int32)) => (fX7_in ((p1).toInt64) (0 : Int64) (7 : Int64)).bind (fun v1 => if v1 = 0 then ((fX7_refuse (x0_shelf, x0_rowSort, x0_rowSize, x0_rows, x0_moved, x0_shown, x0_tape, x0_tapeSize, x0_refused, x0_lines, x0_line, x0_changes, x0_coins, x0_goods, x0_good, x0_works, x0_work, x0_years, x0_gone, x0_spent, x0_at, x0_token, x0_from, x0_figures, x0_fault, x0_numbers, x0_statements, x0_left, x0_far, x0_tons, x0_way, x0_steps, x0_met, x0_queue, x0_totals) (-2)).bind (u2 fun v3 g4 => some (v3, g4))) else ((fX7_in ((p2).toInt64) (0 : Int64) (5 : Int64)).bind (fun v6 => if v6 = 0 then ((fX7_refuse (x0_shelf, x0_rowSort, x0_rowSize, x0_rows, x0_moved, x0_shown, x0_tape, x0_tapeSize, x0_refused, x0_lines, x0_line, x0_changes, x0_coins, x0_goods, x0_good, x0_works, x0_work, x0_years, x0_gone, x0_spent, x0_at, x0_token, x0_from, x0_figures, x0_fault, x0_numbers, x0_statements, x0_left, x0_far, x0_tons, x0_way, x0_steps, x0_met, x0_queue, x0_totals) (-2)).bind (u2 fun v31 g32 => some (v31, g32))) else ((rd 8 x0_shelf p1).bind fun v8 => if v8 = 1 then ((fX7_refuse (x0_shelf, x0_rowSort, x0_rowSize, x0_rows, x0_moved, x0_shown, x0_tape, x0_tapeSize, x0_refused, x0_lines, x0_line, x0_changes, x0_coins, x0_goods, x0_good, x0_works, x0_work, x0_years, x0_gone, x0_spent, x0_at, x0_token, x0_from, x0_figures, x0_fault, x0_numbers, x0_statements, x0_left, x0_far, x0_tons, x0_way, x0_steps, x0_met, x0_queue, x0_totals) (-3)).bind (u2 fun v9 g10 => some (v9, g10))) else ((rd 8 x0_shelf p1).bind fun v12 => if v12 = 2 then ((rd 8 x0_shown p1).bind fun v23 => (ck v23 7).bind fun q24 => (rd 5 (x0_work q24) (0)).bind fun v25 => (fX7_isUnder v25 p2).bind (fun v26 => if v26 = 0 then ((fX7_refuse (x0_shelf, x0_rowSort, x0_rowSize, x0_rows, x0_moved, x0_shown, x0_tape, x0_tapeSize, x0_refused, x0_lines, x0_line, x0_changes, x0_coins, x0_goods, x0_good, x0_works, x0_work, x0_years, x0_gone, x0_spent, x0_at, x0_token, x0_from, x0_figures, x0_fault, x0_numbers, x0_statements, x0_left, x0_far, x0_tons, x0_way, x0_steps, x0_met, x0_queue, x0_totals) (-3)).bind (u2 fun v28 g29 => some (v28, g29))) else (fX7_says_j78 p1 p2 x0_shelf x0_rowSort x0_rowSize x0_rows x0_moved x0_shown x0_tape x0_tapeSize x0_refused x0_lines x0_line x0_changes x0_coins x0_goods x0_good x0_works x0_work x0_years x0_gone x0_spent x0_at x0_token x0_from x0_figures x0_fault x0_numbers x0_statements x0_left x0_far x0_tons x0_way x0_steps x0_met x0_queue x0_totals))) else (fX7_says_j78 p1 p2 x0_shelf x0_rowSort x0_rowSize x0_rows x0_moved x0_shown x0_tape x0_tapeSize x0_refused x0_lines x0_line x0_changes x0_coins x0_goods x0_good x0_works x0_work x0_years x0_gone x0_spent x0_at x0_token x0_from x0_figures x0_fault x0_numbers x0_statements x0_left x0_far x0_tons x0_way x0_steps x0_met x0_queue x0_totals))))))) X0
set_option maxHeartbeats 4000000 in
set_option maxRecDepth 100000 in
theorem kX7_says (l : Launch) (d : DT) (h0 : Nat → Nat) (r0_rows : Nat → Nat) (r0_line : Nat → Nat) (r0_good : Nat → Nat) (r0_work : Nat → Nat) (a0_kept : Option Nat) (a0_tried : Option Nat) (a0_chosen : Option Nat) (x0_shelf : (Nat → Int32)) (x0_rowSort : (Nat → Int32)) (x0_rowSize : (Nat → Int32)) (x0_rows : (Nat → Nat → Int64)) (x0_moved : (Nat → Int64)) (x0_shown : (Nat → Int32)) (x0_tape : (Nat → Int32)) (x0_tapeSize : Int32) (x0_refused : (Nat → Int32)) (x0_lines : Int32) (x0_line : (Nat → Nat → Int32)) (x0_changes : (Nat → Int32)) (x0_coins : (Nat → Int32)) (x0_goods : Int32) (x0_good : (Nat → Nat → Int32)) (x0_works : Int32) (x0_work : (Nat → Nat → Int32)) (x0_years : Int32) (x0_gone : Int32) (x0_spent : Int32) (x0_at : Int32) (x0_token : Int32) (x0_from : Int32) (x0_figures : Int64) (x0_fault : Int32) (x0_numbers : (Nat → Int32)) (x0_statements : Int32) (x0_left : (Nat → Int32)) (x0_far : (Nat → Int32)) (x0_tons : Int32) (x0_way : (Nat → Int32)) (x0_steps : Int32) (x0_met : Int64) (x0_queue : (Nat → Int32)) (x0_totals : (Nat → Int32)) (p1 : Int32) (p2 : Int32)  {out : Int32 × (Nat → Int32)} (hf : fX7_says (x0_shelf, x0_rowSort, x0_rowSize, x0_rows, x0_moved, x0_shown, x0_tape, x0_tapeSize, x0_refused, x0_lines, x0_line, x0_changes, x0_coins, x0_goods, x0_good, x0_works, x0_work, x0_years, x0_gone, x0_spent, x0_at, x0_token, x0_from, x0_figures, x0_fault, x0_numbers, x0_statements, x0_left, x0_far, x0_tons, x0_way, x0_steps, x0_met, x0_queue, x0_totals) p1 p2 = some out) : Ct l d yX7_says cX7_says 4 (some .int) { frames := 1, cells := 0, slots := 0, locals := 25 } [.ref (h0 0), .int p1, .int p2] [gMd d h0 a0_kept a0_tried a0_chosen r0_rows r0_line r0_good r0_work x0_shelf x0_rowSort x0_rowSize x0_moved x0_shown x0_tape x0_tapeSize x0_refused x0_lines x0_changes x0_coins x0_goods x0_works x0_years x0_gone x0_spent x0_at x0_token x0_from x0_figures x0_fault x0_numbers x0_statements x0_left x0_far x0_tons x0_way x0_steps x0_met x0_queue x0_totals, gridI d r0_work 7 5 x0_work] (fun _ : Unit => (some (.int out.1), [gMd d h0 a0_kept a0_tried a0_chosen r0_rows r0_line r0_good r0_work x0_shelf x0_rowSort x0_rowSize x0_moved x0_shown x0_tape x0_tapeSize (out.2) x0_lines x0_changes x0_coins x0_goods x0_works x0_years x0_gone x0_spent x0_at x0_token x0_from x0_figures x0_fault x0_numbers x0_statements x0_left x0_far x0_tons x0_way x0_steps x0_met x0_queue x0_totals, gridI d r0_work 7 5 x0_work])) := by
  refine Ct.of (by decide) (Nat.le_of_ble_eq_true rfl) ?_
  intro Φ hl hK hR
  subst hl
  have hK : Ok d Φ RX7 "says" cX7_says 4 (some .int) { frames := 1, cells := 0, slots := 0, locals := 25 } := hK
  unfold fX7_says at hf
  have hf := un35 hf
  show J d Φ 4 [gMd d h0 a0_kept a0_tried a0_chosen r0_rows r0_line r0_good r0_work x0_shelf x0_rowSort x0_rowSize x0_moved x0_shown x0_tape x0_tapeSize x0_refused x0_lines x0_changes x0_coins x0_goods x0_works x0_years x0_gone x0_spent x0_at x0_token x0_from x0_figures x0_fault x0_numbers x0_statements x0_left x0_far x0_tons x0_way x0_steps x0_met x0_queue x0_totals, gridI d r0_work 7 5 x0_work] 0 0 0 [(0, .ref (h0 0)), (1, .int p1), (2, .int p2)] []
  refine J_iload_n hK qd2_151.1 rfl 1 rfl rfl ?_
  refine J_i2l hK qd2_151.2.1 rfl ?_
  refine J_lconst (v := 0) hK qd2_151.2.2.1 rfl (by decide) ?_
  refine J_ldc2 (v := (7 : Int64)) hK qd2_151.2.2.2.1 rfl wk_RX7_88 ?_
  obtain ⟨v1, e2, hf⟩ := bs hf
  refine J_callS (m := 2) (m' := 2) (ce' := 0) (sl' := 0) (gr := [gMd d h0 a0_kept a0_tried a0_chosen r0_rows r0_line r0_good r0_work x0_shelf x0_rowSort x0_rowSize x0_moved x0_shown x0_tape x0_tapeSize x0_refused x0_lines x0_changes x0_coins x0_goods x0_works x0_years x0_gone x0_spent x0_at x0_token x0_from x0_figures x0_fault x0_numbers x0_statements x0_left x0_far x0_tons x0_way x0_steps x0_met x0_queue x0_totals, gridI d r0_work 7 5 x0_work]) (gs' := fun _ => [gMd d h0 a0_kept a0_tried a0_chosen r0_rows r0_line r0_good r0_work x0_shelf x0_rowSort x0_rowSize x0_moved x0_shown x0_tape x0_tapeSize x0_refused x0_lines x0_changes x0_coins x0_goods x0_works x0_years x0_gone x0_spent x0_at x0_token x0_from x0_figures x0_fault x0_numbers x0_statements x0_left x0_far x0_tons x0_way x0_steps x0_met x0_queue x0_totals, gridI d r0_work 7 5 x0_work]) (st' := fun _ => [.int v1]) (st := []) hK qd2_151.2.2.2.2.1 cv_RX7_78 ws_yX7_in (As := [.long ((p1).toInt64), .long (0 : Int64), .long (7 : Int64)]) (kX7_in _ d ((p1).toInt64) (0 : Int64) (7 : Int64) e2) rfl rfl (Nat.le_of_ble_eq_true rfl) (by decide) [] [0, 1] rfl (by decide +kernel) rfl rfl [0, 1] (by decide +kernel) (fun _ => rfl) (fun _ => rfl) rfl rfl rfl (fun _ => rfl) (fun _ => ?_)
  refine J_if_eq (tg := 24) hK qd2_151.2.2.2.2.2.1 rfl rfl (fun hc9 => ?_) (fun hc9 => ?_)
  · have hf := ip hc9 hf
    refine J_aload_n hK qd2_151.2.2.2.2.2.2.2.2.2.2.2.2.1 rfl 0 rfl rfl ?_
    refine J_bipush (v := (-2)) hK qd2_151.2.2.2.2.2.2.2.2.2.2.2.2.2.1 rfl (by decide) ?_
    obtain ⟨⟨v3, g4⟩, e5, hf⟩ := bs hf
    have hf := un2 hf
    refine J_callV (m := 2) (m' := 2) (ce' := 0) (sl' := 0) (gr := [gridI d r0_work 7 5 x0_work]) (gs' := fun _ => [gMd d h0 a0_kept a0_tried a0_chosen r0_rows r0_line r0_good r0_work x0_shelf x0_rowSort x0_rowSize x0_moved x0_shown x0_tape x0_tapeSize g4 x0_lines x0_changes x0_coins x0_goods x0_works x0_years x0_gone x0_spent x0_at x0_token x0_from x0_figures x0_fault x0_numbers x0_statements x0_left x0_far x0_tons x0_way x0_steps x0_met x0_queue x0_totals, gridI d r0_work 7 5 x0_work]) (st' := fun _ => [.int v3]) (st := []) hK qd2_151.2.2.2.2.2.2.2.2.2.2.2.2.2.2.1 cv_RX7_94 iv_yX7_refuse (As := [.int (-2)]) (kX7_refuse _ d h0 r0_rows r0_line r0_good r0_work a0_kept a0_tried a0_chosen x0_shelf x0_rowSort x0_rowSize x0_rows x0_moved x0_shown x0_tape x0_tapeSize x0_refused x0_lines x0_line x0_changes x0_coins x0_goods x0_good x0_works x0_work x0_years x0_gone x0_spent x0_at x0_token x0_from x0_figures x0_fault x0_numbers x0_statements x0_left x0_far x0_tons x0_way x0_steps x0_met x0_queue x0_totals (-2) e5) rfl rfl (Nat.le_of_ble_eq_true rfl) (by decide) 0 0 rfl rfl rfl [0] [1] rfl (by decide +kernel) rfl rfl [1, 0] (by decide +kernel) (fun _ => rfl) (fun _ => rfl) rfl rfl rfl (fun _ => rfl) (fun _ => ?_)
    obtain rfl := Option.some.inj hf
    exact J_iret hK hR qd2_151.2.2.2.2.2.2.2.2.2.2.2.2.2.2.2.1 () rfl (by decide) (by decide)
  · have hf := iq hc9 hf
    refine J_iload_n hK qd2_151.2.2.2.2.2.2.1 rfl 2 rfl rfl ?_
    refine J_i2l hK qd2_151.2.2.2.2.2.2.2.1 rfl ?_
    refine J_lconst (v := 0) hK qd2_151.2.2.2.2.2.2.2.2.1 rfl (by decide) ?_
    refine J_ldc2 (v := (5 : Int64)) hK qd2_151.2.2.2.2.2.2.2.2.2.1 rfl wk_RX7_106 ?_
    obtain ⟨v6, e7, hf⟩ := bs hf
    refine J_callS (m := 2) (m' := 2) (ce' := 0) (sl' := 0) (gr := [gMd d h0 a0_kept a0_tried a0_chosen r0_rows r0_line r0_good r0_work x0_shelf x0_rowSort x0_rowSize x0_moved x0_shown x0_tape x0_tapeSize x0_refused x0_lines x0_changes x0_coins x0_goods x0_works x0_years x0_gone x0_spent x0_at x0_token x0_from x0_figures x0_fault x0_numbers x0_statements x0_left x0_far x0_tons x0_way x0_steps x0_met x0_queue x0_totals, gridI d r0_work 7 5 x0_work]) (gs' := fun _ => [gMd d h0 a0_kept a0_tried a0_chosen r0_rows r0_line r0_good r0_work x0_shelf x0_rowSort x0_rowSize x0_moved x0_shown x0_tape x0_tapeSize x0_refused x0_lines x0_changes x0_coins x0_goods x0_works x0_years x0_gone x0_spent x0_at x0_token x0_from x0_figures x0_fault x0_numbers x0_statements x0_left x0_far x0_tons x0_way x0_steps x0_met x0_queue x0_totals, gridI d r0_work 7 5 x0_work]) (st' := fun _ => [.int v6]) (st := []) hK qd2_151.2.2.2.2.2.2.2.2.2.2.1 cv_RX7_78 ws_yX7_in (As := [.long ((p2).toInt64), .long (0 : Int64), .long (5 : Int64)]) (kX7_in _ d ((p2).toInt64) (0 : Int64) (5 : Int64) e7) rfl rfl (Nat.le_of_ble_eq_true rfl) (by decide) [] [0, 1] rfl (by decide +kernel) rfl rfl [0, 1] (by decide +kernel) (fun _ => rfl) (fun _ => rfl) rfl rfl rfl (fun _ => rfl) (fun _ => ?_)
    refine J_if_ne (tg := 31) hK qd2_151.2.2.2.2.2.2.2.2.2.2.2.1 rfl rfl (fun hc21 => ?_) (fun hc21 => ?_)
    · have hf := iq hc21 hf
      refine J_aload_n hK qd2_152.1 rfl 0 rfl rfl ?_
      refine J_get hK fo_RX7_7 qd2_152.2.1 rfl 0 0 rfl rfl rfl ?_
      refine J_iload_n hK qd2_152.2.2.1 rfl 1 rfl rfl ?_
      obtain ⟨v8, ev8, hf⟩ := bs hf
      refine J_iald hK qd2_152.2.2.2.1 rfl 0 1 rfl rfl ev8 ?_
      refine J_iconst (v := 1) hK qd2_152.2.2.2.2.1 rfl (by decide) ?_
      refine J_icmp_eq (tg := 71) hK qd2_152.2.2.2.2.2.1 rfl rfl (fun hc38 => ?_) (fun hc38 => ?_)
      · have hf := ip hc38 hf
        refine J_aload_n hK qd2_153.2.2.2.2.2.2.2.2.1 rfl 0 rfl rfl ?_
        refine J_bipush (v := (-3)) hK qd2_153.2.2.2.2.2.2.2.2.2.1 rfl (by decide) ?_
        obtain ⟨⟨v9, g10⟩, e11, hf⟩ := bs hf
        have hf := un2 hf
        refine J_callV (m := 2) (m' := 2) (ce' := 0) (sl' := 0) (gr := [gridI d r0_work 7 5 x0_work]) (gs' := fun _ => [gMd d h0 a0_kept a0_tried a0_chosen r0_rows r0_line r0_good r0_work x0_shelf x0_rowSort x0_rowSize x0_moved x0_shown x0_tape x0_tapeSize g10 x0_lines x0_changes x0_coins x0_goods x0_works x0_years x0_gone x0_spent x0_at x0_token x0_from x0_figures x0_fault x0_numbers x0_statements x0_left x0_far x0_tons x0_way x0_steps x0_met x0_queue x0_totals, gridI d r0_work 7 5 x0_work]) (st' := fun _ => [.int v9]) (st := []) hK qd2_153.2.2.2.2.2.2.2.2.2.2.1 cv_RX7_94 iv_yX7_refuse (As := [.int (-3)]) (kX7_refuse _ d h0 r0_rows r0_line r0_good r0_work a0_kept a0_tried a0_chosen x0_shelf x0_rowSort x0_rowSize x0_rows x0_moved x0_shown x0_tape x0_tapeSize x0_refused x0_lines x0_line x0_changes x0_coins x0_goods x0_good x0_works x0_work x0_years x0_gone x0_spent x0_at x0_token x0_from x0_figures x0_fault x0_numbers x0_statements x0_left x0_far x0_tons x0_way x0_steps x0_met x0_queue x0_totals (-3) e11) rfl rfl (Nat.le_of_ble_eq_true rfl) (by decide) 0 0 rfl rfl rfl [0] [1] rfl (by decide +kernel) rfl rfl [1, 0] (by decide +kernel) (fun _ => rfl) (fun _ => rfl) rfl rfl rfl (fun _ => rfl) (fun _ => ?_)
        obtain rfl := Option.some.inj hf
        exact J_iret hK hR qd2_153.2.2.2.2.2.2.2.2.2.2.2.1 () rfl (by decide) (by decide)
      · have hf := iq hc38 hf
        refine J_aload_n hK qd2_152.2.2.2.2.2.2.1 rfl 0 rfl rfl ?_
        refine J_get hK fo_RX7_7 qd2_152.2.2.2.2.2.2.2.1 rfl 0 0 rfl rfl rfl ?_
        refine J_iload_n hK qd2_152.2.2.2.2.2.2.2.2.1 rfl 1 rfl rfl ?_
        obtain ⟨v12, ev12, hf⟩ := bs hf
        refine J_iald hK qd2_152.2.2.2.2.2.2.2.2.2.1 rfl 0 1 rfl rfl ev12 ?_
        refine J_iconst (v := 2) hK qd2_152.2.2.2.2.2.2.2.2.2.2.1 rfl (by decide) ?_
        have j78 : fX7_says_j78 p1 p2 x0_shelf x0_rowSort x0_rowSize x0_rows x0_moved x0_shown x0_tape x0_tapeSize x0_refused x0_lines x0_line x0_changes x0_coins x0_goods x0_good x0_works x0_work x0_years x0_gone x0_spent x0_at x0_token x0_from x0_figures x0_fault x0_numbers x0_statements x0_left x0_far x0_tons x0_way x0_steps x0_met x0_queue x0_totals = some out → J d Φ 4 [gMd d h0 a0_kept a0_tried a0_chosen r0_rows r0_line r0_good r0_work x0_shelf x0_rowSort x0_rowSize x0_moved x0_shown x0_tape x0_tapeSize x0_refused x0_lines x0_changes x0_coins x0_goods x0_works x0_years x0_gone x0_spent x0_at x0_token x0_from x0_figures x0_fault x0_numbers x0_statements x0_left x0_far x0_tons x0_way x0_steps x0_met x0_queue x0_totals, gridI d r0_work 7 5 x0_work] 0 0 78 [(0, .ref (h0 0)), (1, .int p1), (2, .int p2)] [] := by
          intro  hf
          unfold fX7_says_j78 at hf
          refine J_aload_n hK qd2_153.2.2.2.2.2.2.2.2.2.2.2.2.1 rfl 0 rfl rfl ?_
          refine J_get hK fo_RX7_7 qd2_153.2.2.2.2.2.2.2.2.2.2.2.2.2.1 rfl 0 0 rfl rfl rfl ?_
          refine J_iload_n hK qd2_153.2.2.2.2.2.2.2.2.2.2.2.2.2.2.1 rfl 1 rfl rfl ?_
          obtain ⟨v13, ev13, hf⟩ := bs hf
          refine J_iald hK qd2_153.2.2.2.2.2.2.2.2.2.2.2.2.2.2.2.1 rfl 0 1 rfl rfl ev13 ?_
          refine J_if_ne (tg := 94) hK qd2_154.1 rfl rfl (fun hc84 => ?_) (fun hc84 => ?_)
          · have hf := iq hc84 hf
            refine J_aload_n hK qd2_154.2.2.2.2.2.1 rfl 0 rfl rfl ?_
            refine J_get hK fo_RX7_51 qd2_154.2.2.2.2.2.2.1 rfl 0 0 rfl rfl rfl ?_
            refine J_aload_n hK qd2_154.2.2.2.2.2.2.2.1 rfl 0 rfl rfl ?_
            refine J_get hK fo_RX7_28 qd2_154.2.2.2.2.2.2.2.2.1 rfl 0 0 rfl rfl rfl ?_
            refine J_iload_n hK qd2_154.2.2.2.2.2.2.2.2.2.1 rfl 1 rfl rfl ?_
            obtain ⟨v14, ev14, hf⟩ := bs hf
            refine J_iald hK qd2_154.2.2.2.2.2.2.2.2.2.2.1 rfl 0 6 rfl rfl ev14 ?_
            obtain ⟨q15, eq15, hf⟩ := bs hf
            refine J_aald hK qd2_154.2.2.2.2.2.2.2.2.2.2.2.1 rfl 0 13 rfl rfl rfl eq15 ?_
            refine J_astore_n (L' := [(3, .ref (r0_work q15)), (0, .ref (h0 0)), (1, .int p1), (2, .int p2)]) hK qd2_154.2.2.2.2.2.2.2.2.2.2.2.2.1 rfl rfl (by decide) rfl ?_
            refine J_iload_n hK qd2_154.2.2.2.2.2.2.2.2.2.2.2.2.2.1 rfl 3 rfl rfl ?_
            refine J_if_ne (tg := 116) hK qd2_154.2.2.2.2.2.2.2.2.2.2.2.2.2.2.1 rfl rfl (fun hc107 => ?_) (fun hc107 => ?_)
            · have hf := iq hc107 hf
              refine J_iload_n hK qd2_155.2.2.2.1 rfl 3 rfl rfl ?_
              refine J_iconst (v := 4) hK qd2_155.2.2.2.2.1 rfl (by decide) ?_
              refine J_icmp_ge (tg := 127) hK qd2_155.2.2.2.2.2.1 rfl rfl (fun hc118 => ?_) (fun hc118 => ?_)
              · have hf := ip hc118 hf
                refine J_bipush (v := 100) hK qd2_155.2.2.2.2.2.2.2.2.2.2.1 rfl (by decide) ?_
                refine J_aload_n hK qd2_155.2.2.2.2.2.2.2.2.2.2.2.1 rfl 0 rfl rfl ?_
                refine J_iconst (v := 1) hK qd2_155.2.2.2.2.2.2.2.2.2.2.2.2.1 rfl (by decide) ?_
                obtain ⟨v16, ev16, hf⟩ := bs hf
                refine J_iald hK qd2_155.2.2.2.2.2.2.2.2.2.2.2.2.2.1 rfl 1 q15 rfl (gridI_at (ck_ok eq15).2.2) ev16 ?_
                refine J_imul hK qd2_155.2.2.2.2.2.2.2.2.2.2.2.2.2.2.1 rfl ?_
                refine J_aload_n hK qd2_155.2.2.2.2.2.2.2.2.2.2.2.2.2.2.2.1 rfl 0 rfl rfl ?_
                refine J_iconst (v := 2) hK qd2_156.1 rfl (by decide) ?_
                obtain ⟨v17, ev17, hf⟩ := bs hf
                refine J_iald hK qd2_156.2.1 rfl 1 q15 rfl (gridI_at (ck_ok eq15).2.2) ev17 ?_
                refine J_iadd hK qd2_156.2.2.1 rfl ?_
                obtain rfl := Option.some.inj hf
                exact J_iret hK hR qd2_156.2.2.2.1 () rfl (by decide) (by decide)
              · have hf := iq hc118 hf
                refine J_aload_n hK qd2_155.2.2.2.2.2.2.1 rfl 0 rfl rfl ?_
                refine J_iconst (v := 1) hK qd2_155.2.2.2.2.2.2.2.1 rfl (by decide) ?_
                obtain ⟨v18, ev18, hf⟩ := bs hf
                refine J_iald hK qd2_155.2.2.2.2.2.2.2.2.1 rfl 1 q15 rfl (gridI_at (ck_ok eq15).2.2) ev18 ?_
                refine J_goto hK qd2_155.2.2.2.2.2.2.2.2.2.1 (n := 137) rfl ?_
                obtain rfl := Option.some.inj hf
                exact J_iret hK hR qd2_156.2.2.2.1 () rfl (by decide) (by decide)
            · have hf := ip hc107 hf
              refine J_aload_n hK qd2_154.2.2.2.2.2.2.2.2.2.2.2.2.2.2.2.1 rfl 0 rfl rfl ?_
              refine J_iconst (v := 3) hK qd2_155.1 rfl (by decide) ?_
              obtain ⟨v19, ev19, hf⟩ := bs hf
              refine J_iald hK qd2_155.2.1 rfl 1 q15 rfl (gridI_at (ck_ok eq15).2.2) ev19 ?_
              refine J_goto hK qd2_155.2.2.1 (n := 137) rfl ?_
              obtain rfl := Option.some.inj hf
              exact J_iret hK hR qd2_156.2.2.2.1 () rfl (by decide) (by decide)
          · have hf := ip hc84 hf
            refine J_aload_n hK qd2_154.2.1 rfl 0 rfl rfl ?_
            refine J_bipush (v := (-4)) hK qd2_154.2.2.1 rfl (by decide) ?_
            obtain ⟨⟨v20, g21⟩, e22, hf⟩ := bs hf
            have hf := un2 hf
            refine J_callV (m := 2) (m' := 2) (ce' := 0) (sl' := 0) (gr := [gridI d r0_work 7 5 x0_work]) (gs' := fun _ => [gMd d h0 a0_kept a0_tried a0_chosen r0_rows r0_line r0_good r0_work x0_shelf x0_rowSort x0_rowSize x0_moved x0_shown x0_tape x0_tapeSize g21 x0_lines x0_changes x0_coins x0_goods x0_works x0_years x0_gone x0_spent x0_at x0_token x0_from x0_figures x0_fault x0_numbers x0_statements x0_left x0_far x0_tons x0_way x0_steps x0_met x0_queue x0_totals, gridI d r0_work 7 5 x0_work]) (st' := fun _ => [.int v20]) (st := []) hK qd2_154.2.2.2.1 cv_RX7_94 iv_yX7_refuse (As := [.int (-4)]) (kX7_refuse _ d h0 r0_rows r0_line r0_good r0_work a0_kept a0_tried a0_chosen x0_shelf x0_rowSort x0_rowSize x0_rows x0_moved x0_shown x0_tape x0_tapeSize x0_refused x0_lines x0_line x0_changes x0_coins x0_goods x0_good x0_works x0_work x0_years x0_gone x0_spent x0_at x0_token x0_from x0_figures x0_fault x0_numbers x0_statements x0_left x0_far x0_tons x0_way x0_steps x0_met x0_queue x0_totals (-4) e22) rfl rfl (Nat.le_of_ble_eq_true rfl) (by decide) 0 0 rfl rfl rfl [0] [1] rfl (by decide +kernel) rfl rfl [1, 0] (by decide +kernel) (fun _ => rfl) (fun _ => rfl) rfl rfl rfl (fun _ => rfl) (fun _ => ?_)
            obtain rfl := Option.some.inj hf
            exact J_iret hK hR qd2_154.2.2.2.2.1 () rfl (by decide) (by decide)
        refine J_icmp_ne (tg := 78) hK qd2_152.2.2.2.2.2.2.2.2.2.2.2.1 rfl rfl (fun hc48 => ?_) (fun hc48 => ?_)
        · have hf := iq hc48 hf
          exact (j78  hf)
        · have hf := ip hc48 hf
          refine J_aload_n hK qd2_152.2.2.2.2.2.2.2.2.2.2.2.2.1 rfl 0 rfl rfl ?_
          refine J_get hK fo_RX7_51 qd2_152.2.2.2.2.2.2.2.2.2.2.2.2.2.1 rfl 0 0 rfl rfl rfl ?_
          refine J_aload_n hK qd2_152.2.2.2.2.2.2.2.2.2.2.2.2.2.2.1 rfl 0 rfl rfl ?_
          refine J_get hK fo_RX7_28 qd2_152.2.2.2.2.2.2.2.2.2.2.2.2.2.2.2.1 rfl 0 0 rfl rfl rfl ?_
          refine J_iload_n hK qd2_153.1 rfl 1 rfl rfl ?_
          obtain ⟨v23, ev23, hf⟩ := bs hf
          refine J_iald hK qd2_153.2.1 rfl 0 6 rfl rfl ev23 ?_
          obtain ⟨q24, eq24, hf⟩ := bs hf
          refine J_aald hK qd2_153.2.2.1 rfl 0 13 rfl rfl rfl eq24 ?_
          refine J_iconst (v := 0) hK qd2_153.2.2.2.1 rfl (by decide) ?_
          obtain ⟨v25, ev25, hf⟩ := bs hf
          refine J_iald hK qd2_153.2.2.2.2.1 rfl 1 q24 rfl (gridI_at (ck_ok eq24).2.2) ev25 ?_
          refine J_iload_n hK qd2_153.2.2.2.2.2.1 rfl 2 rfl rfl ?_
          obtain ⟨v26, e27, hf⟩ := bs hf
          refine J_callS (m := 2) (m' := 2) (ce' := 0) (sl' := 0) (gr := [gMd d h0 a0_kept a0_tried a0_chosen r0_rows r0_line r0_good r0_work x0_shelf x0_rowSort x0_rowSize x0_moved x0_shown x0_tape x0_tapeSize x0_refused x0_lines x0_changes x0_coins x0_goods x0_works x0_years x0_gone x0_spent x0_at x0_token x0_from x0_figures x0_fault x0_numbers x0_statements x0_left x0_far x0_tons x0_way x0_steps x0_met x0_queue x0_totals, gridI d r0_work 7 5 x0_work]) (gs' := fun _ => [gMd d h0 a0_kept a0_tried a0_chosen r0_rows r0_line r0_good r0_work x0_shelf x0_rowSort x0_rowSize x0_moved x0_shown x0_tape x0_tapeSize x0_refused x0_lines x0_changes x0_coins x0_goods x0_works x0_years x0_gone x0_spent x0_at x0_token x0_from x0_figures x0_fault x0_numbers x0_statements x0_left x0_far x0_tons x0_way x0_steps x0_met x0_queue x0_totals, gridI d r0_work 7 5 x0_work]) (st' := fun _ => [.int v26]) (st := []) hK qd2_153.2.2.2.2.2.2.1 cv_RX7_108 ws_yX7_isUnder (As := [.int v25, .int p2]) (kX7_isUnder _ d v25 p2 e27) rfl rfl (Nat.le_of_ble_eq_true rfl) (by decide) [] [0, 1] rfl (by decide +kernel) rfl rfl [0, 1] (by decide +kernel) (fun _ => rfl) (fun _ => rfl) rfl rfl rfl (fun _ => rfl) (fun _ => ?_)
          refine J_if_ne (tg := 78) hK qd2_153.2.2.2.2.2.2.2.1 rfl rfl (fun hc68 => ?_) (fun hc68 => ?_)
          · have hf := iq hc68 hf
            exact (j78  hf)
          · have hf := ip hc68 hf
            refine J_aload_n hK qd2_153.2.2.2.2.2.2.2.2.1 rfl 0 rfl rfl ?_
            refine J_bipush (v := (-3)) hK qd2_153.2.2.2.2.2.2.2.2.2.1 rfl (by decide) ?_
            obtain ⟨⟨v28, g29⟩, e30, hf⟩ := bs hf
            have hf := un2 hf
            refine J_callV (m := 2) (m' := 2) (ce' := 0) (sl' := 0) (gr := [gridI d r0_work 7 5 x0_work]) (gs' := fun _ => [gMd d h0 a0_kept a0_tried a0_chosen r0_rows r0_line r0_good r0_work x0_shelf x0_rowSort x0_rowSize x0_moved x0_shown x0_tape x0_tapeSize g29 x0_lines x0_changes x0_coins x0_goods x0_works x0_years x0_gone x0_spent x0_at x0_token x0_from x0_figures x0_fault x0_numbers x0_statements x0_left x0_far x0_tons x0_way x0_steps x0_met x0_queue x0_totals, gridI d r0_work 7 5 x0_work]) (st' := fun _ => [.int v28]) (st := []) hK qd2_153.2.2.2.2.2.2.2.2.2.2.1 cv_RX7_94 iv_yX7_refuse (As := [.int (-3)]) (kX7_refuse _ d h0 r0_rows r0_line r0_good r0_work a0_kept a0_tried a0_chosen x0_shelf x0_rowSort x0_rowSize x0_rows x0_moved x0_shown x0_tape x0_tapeSize x0_refused x0_lines x0_line x0_changes x0_coins x0_goods x0_good x0_works x0_work x0_years x0_gone x0_spent x0_at x0_token x0_from x0_figures x0_fault x0_numbers x0_statements x0_left x0_far x0_tons x0_way x0_steps x0_met x0_queue x0_totals (-3) e30) rfl rfl (Nat.le_of_ble_eq_true rfl) (by decide) 0 0 rfl rfl rfl [0] [1] rfl (by decide +kernel) rfl rfl [1, 0] (by decide +kernel) (fun _ => rfl) (fun _ => rfl) rfl rfl rfl (fun _ => rfl) (fun _ => ?_)
            obtain rfl := Option.some.inj hf
            exact J_iret hK hR qd2_153.2.2.2.2.2.2.2.2.2.2.2.1 () rfl (by decide) (by decide)
    · have hf := ip hc21 hf
      refine J_aload_n hK qd2_151.2.2.2.2.2.2.2.2.2.2.2.2.1 rfl 0 rfl rfl ?_
      refine J_bipush (v := (-2)) hK qd2_151.2.2.2.2.2.2.2.2.2.2.2.2.2.1 rfl (by decide) ?_
      obtain ⟨⟨v31, g32⟩, e33, hf⟩ := bs hf
      have hf := un2 hf
      refine J_callV (m := 2) (m' := 2) (ce' := 0) (sl' := 0) (gr := [gridI d r0_work 7 5 x0_work]) (gs' := fun _ => [gMd d h0 a0_kept a0_tried a0_chosen r0_rows r0_line r0_good r0_work x0_shelf x0_rowSort x0_rowSize x0_moved x0_shown x0_tape x0_tapeSize g32 x0_lines x0_changes x0_coins x0_goods x0_works x0_years x0_gone x0_spent x0_at x0_token x0_from x0_figures x0_fault x0_numbers x0_statements x0_left x0_far x0_tons x0_way x0_steps x0_met x0_queue x0_totals, gridI d r0_work 7 5 x0_work]) (st' := fun _ => [.int v31]) (st := []) hK qd2_151.2.2.2.2.2.2.2.2.2.2.2.2.2.2.1 cv_RX7_94 iv_yX7_refuse (As := [.int (-2)]) (kX7_refuse _ d h0 r0_rows r0_line r0_good r0_work a0_kept a0_tried a0_chosen x0_shelf x0_rowSort x0_rowSize x0_rows x0_moved x0_shown x0_tape x0_tapeSize x0_refused x0_lines x0_line x0_changes x0_coins x0_goods x0_good x0_works x0_work x0_years x0_gone x0_spent x0_at x0_token x0_from x0_figures x0_fault x0_numbers x0_statements x0_left x0_far x0_tons x0_way x0_steps x0_met x0_queue x0_totals (-2) e33) rfl rfl (Nat.le_of_ble_eq_true rfl) (by decide) 0 0 rfl rfl rfl [0] [1] rfl (by decide +kernel) rfl rfl [1, 0] (by decide +kernel) (fun _ => rfl) (fun _ => rfl) rfl rfl rfl (fun _ => rfl) (fun _ => ?_)
      obtain rfl := Option.some.inj hf
      exact J_iret hK hR qd2_151.2.2.2.2.2.2.2.2.2.2.2.2.2.2.2.1 () rfl (by decide) (by decide)

def fX7_newLine (X0 : MdT) (p1 : Int32) (p2 : Int32) : Option ((Nat → Nat → Int32)) :=
  u35 (fun (x0_shelf : (Nat → Int32)) (x0_rowSort : (Nat → Int32)) (x0_rowSize : (Nat → Int32)) (x0_rows : (Nat → Nat → Int64)) (x0_moved : (Nat → Int64)) (x0_shown : (Nat → Int32)) (x0_tape : (Nat → Int32)) (x0_tapeSize : Int32) (x0_refused : (Nat → Int32)) (x0_lines : Int32) (x0_line : (Nat → Nat → Int32)) (x0_changes : (Nat → Int32)) (x0_coins : (Nat → Int32)) (x0_goods : Int32) (x0_good : (Nat → Nat → Int32)) (x0_works : Int32) (x0_work : (Nat → Nat → Int32)) (x0_years : Int32) (x0_gone : Int32) (x0_spent : Int32) (x0_at : Int32) (x0_token : Int32) (x0_from : Int32) (x0_figures : Int64) (x0_fault : Int32) (x0_numbers : (Nat → Int32)) (x0_statements : Int32) (x0_left : (Nat → Int32)) (x0_far : (Nat → Int32)) (x0_tons : Int32) (x0_way : (Nat → Int32)) (x0_steps : Int32) (x0_met : Int64) (x0_queue : (Nat → Int32)) (x0_totals : (Nat → Int32)) => (ck x0_lines 20).bind fun q1 => (wr 7 (x0_line q1) (0) p1).bind fun f2 => (wr 7 ((va_up x0_line q1 f2) q1) (1) p2).bind fun f3 => (wr 7 ((va_up (va_up x0_line q1 f2) q1 f3) q1) (2) (7)).bind fun f4 => (wr 7 ((va_up (va_up (va_up x0_line q1 f2) q1 f3) q1 f4) q1) (3) (10)).bind fun f5 => (wr 7 ((va_up (va_up (va_up (va_up x0_line q1 f2) q1 f3) q1 f4) q1 f5) q1) (4) (999)).bind fun f6 => (wr 7 ((va_up (va_up (va_up (va_up (va_up x0_line q1 f2) q1 f3) q1 f4) q1 f5) q1 f6) q1) (5) (0)).bind fun f7 => (wr 7 ((va_up (va_up (va_up (va_up (va_up (va_up x0_line q1 f2) q1 f3) q1 f4) q1 f5) q1 f6) q1 f7) q1) (6) (0)).bind fun f8 => some (va_up (va_up (va_up (va_up (va_up (va_up (va_up x0_line q1 f2) q1 f3) q1 f4) q1 f5) q1 f6) q1 f7) q1 f8)) X0
set_option maxHeartbeats 4000000 in
set_option maxRecDepth 100000 in
theorem kX7_newLine (l : Launch) (d : DT) (h0 : Nat → Nat) (r0_rows : Nat → Nat) (r0_line : Nat → Nat) (r0_good : Nat → Nat) (r0_work : Nat → Nat) (a0_kept : Option Nat) (a0_tried : Option Nat) (a0_chosen : Option Nat) (x0_shelf : (Nat → Int32)) (x0_rowSort : (Nat → Int32)) (x0_rowSize : (Nat → Int32)) (x0_rows : (Nat → Nat → Int64)) (x0_moved : (Nat → Int64)) (x0_shown : (Nat → Int32)) (x0_tape : (Nat → Int32)) (x0_tapeSize : Int32) (x0_refused : (Nat → Int32)) (x0_lines : Int32) (x0_line : (Nat → Nat → Int32)) (x0_changes : (Nat → Int32)) (x0_coins : (Nat → Int32)) (x0_goods : Int32) (x0_good : (Nat → Nat → Int32)) (x0_works : Int32) (x0_work : (Nat → Nat → Int32)) (x0_years : Int32) (x0_gone : Int32) (x0_spent : Int32) (x0_at : Int32) (x0_token : Int32) (x0_from : Int32) (x0_figures : Int64) (x0_fault : Int32) (x0_numbers : (Nat → Int32)) (x0_statements : Int32) (x0_left : (Nat → Int32)) (x0_far : (Nat → Int32)) (x0_tons : Int32) (x0_way : (Nat → Int32)) (x0_steps : Int32) (x0_met : Int64) (x0_queue : (Nat → Int32)) (x0_totals : (Nat → Int32)) (p1 : Int32) (p2 : Int32)  {out : (Nat → Nat → Int32)} (hf : fX7_newLine (x0_shelf, x0_rowSort, x0_rowSize, x0_rows, x0_moved, x0_shown, x0_tape, x0_tapeSize, x0_refused, x0_lines, x0_line, x0_changes, x0_coins, x0_goods, x0_good, x0_works, x0_work, x0_years, x0_gone, x0_spent, x0_at, x0_token, x0_from, x0_figures, x0_fault, x0_numbers, x0_statements, x0_left, x0_far, x0_tons, x0_way, x0_steps, x0_met, x0_queue, x0_totals) p1 p2 = some out) : Ct l d yX7_newLine cX7_newLine 4 none { frames := 0, cells := 0, slots := 0, locals := 0 } [.ref (h0 0), .int p1, .int p2] [gMd d h0 a0_kept a0_tried a0_chosen r0_rows r0_line r0_good r0_work x0_shelf x0_rowSort x0_rowSize x0_moved x0_shown x0_tape x0_tapeSize x0_refused x0_lines x0_changes x0_coins x0_goods x0_works x0_years x0_gone x0_spent x0_at x0_token x0_from x0_figures x0_fault x0_numbers x0_statements x0_left x0_far x0_tons x0_way x0_steps x0_met x0_queue x0_totals, gridI d r0_line 20 7 x0_line] (fun _ : Unit => (none, [gMd d h0 a0_kept a0_tried a0_chosen r0_rows r0_line r0_good r0_work x0_shelf x0_rowSort x0_rowSize x0_moved x0_shown x0_tape x0_tapeSize x0_refused x0_lines x0_changes x0_coins x0_goods x0_works x0_years x0_gone x0_spent x0_at x0_token x0_from x0_figures x0_fault x0_numbers x0_statements x0_left x0_far x0_tons x0_way x0_steps x0_met x0_queue x0_totals, gridI d r0_line 20 7 out])) := by
  refine Ct.of (by decide) (Nat.le_of_ble_eq_true rfl) ?_
  intro Φ hl hK hR
  subst hl
  have hK : Ok d Φ RX7 "newLine" cX7_newLine 4 none { frames := 0, cells := 0, slots := 0, locals := 0 } := hK
  unfold fX7_newLine at hf
  have hf := un35 hf
  show J d Φ 4 [gMd d h0 a0_kept a0_tried a0_chosen r0_rows r0_line r0_good r0_work x0_shelf x0_rowSort x0_rowSize x0_moved x0_shown x0_tape x0_tapeSize x0_refused x0_lines x0_changes x0_coins x0_goods x0_works x0_years x0_gone x0_spent x0_at x0_token x0_from x0_figures x0_fault x0_numbers x0_statements x0_left x0_far x0_tons x0_way x0_steps x0_met x0_queue x0_totals, gridI d r0_line 20 7 x0_line] 0 0 0 [(0, .ref (h0 0)), (1, .int p1), (2, .int p2)] []
  refine J_aload_n hK qd2_157.1 rfl 0 rfl rfl ?_
  refine J_get hK fo_RX7_39 qd2_157.2.1 rfl 0 0 rfl rfl rfl ?_
  refine J_aload_n hK qd2_157.2.2.1 rfl 0 rfl rfl ?_
  refine J_get hK fo_RX7_82 qd2_157.2.2.2.1 rfl 0 0 rfl rfl rfl ?_
  obtain ⟨q1, eq1, hf⟩ := bs hf
  refine J_aald hK qd2_157.2.2.2.2.1 rfl 0 9 rfl rfl rfl eq1 ?_
  refine J_astore_n (L' := [(3, .ref (r0_line q1)), (0, .ref (h0 0)), (1, .int p1), (2, .int p2)]) hK qd2_157.2.2.2.2.2.1 rfl rfl (by decide) rfl ?_
  refine J_aload_n hK qd2_157.2.2.2.2.2.2.1 rfl 0 rfl rfl ?_
  refine J_iconst (v := 0) hK qd2_157.2.2.2.2.2.2.2.1 rfl (by decide) ?_
  refine J_iload_n hK qd2_157.2.2.2.2.2.2.2.2.1 rfl 2 rfl rfl ?_
  obtain ⟨f2, ef2, hf⟩ := bs hf
  refine J_iast (g' := gridI d r0_line 20 7 (va_up x0_line q1 f2)) (gs' := [gMd d h0 a0_kept a0_tried a0_chosen r0_rows r0_line r0_good r0_work x0_shelf x0_rowSort x0_rowSize x0_moved x0_shown x0_tape x0_tapeSize x0_refused x0_lines x0_changes x0_coins x0_goods x0_works x0_years x0_gone x0_spent x0_at x0_token x0_from x0_figures x0_fault x0_numbers x0_statements x0_left x0_far x0_tons x0_way x0_steps x0_met x0_queue x0_totals, gridI d r0_line 20 7 (va_up x0_line q1 f2)]) hK qd2_157.2.2.2.2.2.2.2.2.2.1 rfl 1 q1 rfl (gridI_at (ck_ok eq1).2.2) ef2 gridI_set rfl ?_
  refine J_aload_n hK qd2_157.2.2.2.2.2.2.2.2.2.2.1 rfl 0 rfl rfl ?_
  refine J_iconst (v := 1) hK qd2_157.2.2.2.2.2.2.2.2.2.2.2.1 rfl (by decide) ?_
  refine J_iload_n hK qd2_157.2.2.2.2.2.2.2.2.2.2.2.2.1 rfl 3 rfl rfl ?_
  obtain ⟨f3, ef3, hf⟩ := bs hf
  refine J_iast (g' := gridI d r0_line 20 7 (va_up (va_up x0_line q1 f2) q1 f3)) (gs' := [gMd d h0 a0_kept a0_tried a0_chosen r0_rows r0_line r0_good r0_work x0_shelf x0_rowSort x0_rowSize x0_moved x0_shown x0_tape x0_tapeSize x0_refused x0_lines x0_changes x0_coins x0_goods x0_works x0_years x0_gone x0_spent x0_at x0_token x0_from x0_figures x0_fault x0_numbers x0_statements x0_left x0_far x0_tons x0_way x0_steps x0_met x0_queue x0_totals, gridI d r0_line 20 7 (va_up (va_up x0_line q1 f2) q1 f3)]) hK qd2_157.2.2.2.2.2.2.2.2.2.2.2.2.2.1 rfl 1 q1 rfl (gridI_at (ck_ok eq1).2.2) ef3 gridI_set rfl ?_
  refine J_aload_n hK qd2_157.2.2.2.2.2.2.2.2.2.2.2.2.2.2.1 rfl 0 rfl rfl ?_
  refine J_iconst (v := 2) hK qd2_157.2.2.2.2.2.2.2.2.2.2.2.2.2.2.2.1 rfl (by decide) ?_
  refine J_bipush (v := 7) hK qd2_158.1 rfl (by decide) ?_
  obtain ⟨f4, ef4, hf⟩ := bs hf
  refine J_iast (g' := gridI d r0_line 20 7 (va_up (va_up (va_up x0_line q1 f2) q1 f3) q1 f4)) (gs' := [gMd d h0 a0_kept a0_tried a0_chosen r0_rows r0_line r0_good r0_work x0_shelf x0_rowSort x0_rowSize x0_moved x0_shown x0_tape x0_tapeSize x0_refused x0_lines x0_changes x0_coins x0_goods x0_works x0_years x0_gone x0_spent x0_at x0_token x0_from x0_figures x0_fault x0_numbers x0_statements x0_left x0_far x0_tons x0_way x0_steps x0_met x0_queue x0_totals, gridI d r0_line 20 7 (va_up (va_up (va_up x0_line q1 f2) q1 f3) q1 f4)]) hK qd2_158.2.1 rfl 1 q1 rfl (gridI_at (ck_ok eq1).2.2) ef4 gridI_set rfl ?_
  refine J_aload_n hK qd2_158.2.2.1 rfl 0 rfl rfl ?_
  refine J_iconst (v := 3) hK qd2_158.2.2.2.1 rfl (by decide) ?_
  refine J_bipush (v := 10) hK qd2_158.2.2.2.2.1 rfl (by decide) ?_
  obtain ⟨f5, ef5, hf⟩ := bs hf
  refine J_iast (g' := gridI d r0_line 20 7 (va_up (va_up (va_up (va_up x0_line q1 f2) q1 f3) q1 f4) q1 f5)) (gs' := [gMd d h0 a0_kept a0_tried a0_chosen r0_rows r0_line r0_good r0_work x0_shelf x0_rowSort x0_rowSize x0_moved x0_shown x0_tape x0_tapeSize x0_refused x0_lines x0_changes x0_coins x0_goods x0_works x0_years x0_gone x0_spent x0_at x0_token x0_from x0_figures x0_fault x0_numbers x0_statements x0_left x0_far x0_tons x0_way x0_steps x0_met x0_queue x0_totals, gridI d r0_line 20 7 (va_up (va_up (va_up (va_up x0_line q1 f2) q1 f3) q1 f4) q1 f5)]) hK qd2_158.2.2.2.2.2.1 rfl 1 q1 rfl (gridI_at (ck_ok eq1).2.2) ef5 gridI_set rfl ?_
  refine J_aload_n hK qd2_158.2.2.2.2.2.2.1 rfl 0 rfl rfl ?_
  refine J_iconst (v := 4) hK qd2_158.2.2.2.2.2.2.2.1 rfl (by decide) ?_
  refine J_sipush (v := 999) hK qd2_158.2.2.2.2.2.2.2.2.1 rfl (by decide) ?_
  obtain ⟨f6, ef6, hf⟩ := bs hf
  refine J_iast (g' := gridI d r0_line 20 7 (va_up (va_up (va_up (va_up (va_up x0_line q1 f2) q1 f3) q1 f4) q1 f5) q1 f6)) (gs' := [gMd d h0 a0_kept a0_tried a0_chosen r0_rows r0_line r0_good r0_work x0_shelf x0_rowSort x0_rowSize x0_moved x0_shown x0_tape x0_tapeSize x0_refused x0_lines x0_changes x0_coins x0_goods x0_works x0_years x0_gone x0_spent x0_at x0_token x0_from x0_figures x0_fault x0_numbers x0_statements x0_left x0_far x0_tons x0_way x0_steps x0_met x0_queue x0_totals, gridI d r0_line 20 7 (va_up (va_up (va_up (va_up (va_up x0_line q1 f2) q1 f3) q1 f4) q1 f5) q1 f6)]) hK qd2_158.2.2.2.2.2.2.2.2.2.1 rfl 1 q1 rfl (gridI_at (ck_ok eq1).2.2) ef6 gridI_set rfl ?_
  refine J_aload_n hK qd2_158.2.2.2.2.2.2.2.2.2.2.1 rfl 0 rfl rfl ?_
  refine J_iconst (v := 5) hK qd2_158.2.2.2.2.2.2.2.2.2.2.2.1 rfl (by decide) ?_
  refine J_iconst (v := 0) hK qd2_158.2.2.2.2.2.2.2.2.2.2.2.2.1 rfl (by decide) ?_
  obtain ⟨f7, ef7, hf⟩ := bs hf
  refine J_iast (g' := gridI d r0_line 20 7 (va_up (va_up (va_up (va_up (va_up (va_up x0_line q1 f2) q1 f3) q1 f4) q1 f5) q1 f6) q1 f7)) (gs' := [gMd d h0 a0_kept a0_tried a0_chosen r0_rows r0_line r0_good r0_work x0_shelf x0_rowSort x0_rowSize x0_moved x0_shown x0_tape x0_tapeSize x0_refused x0_lines x0_changes x0_coins x0_goods x0_works x0_years x0_gone x0_spent x0_at x0_token x0_from x0_figures x0_fault x0_numbers x0_statements x0_left x0_far x0_tons x0_way x0_steps x0_met x0_queue x0_totals, gridI d r0_line 20 7 (va_up (va_up (va_up (va_up (va_up (va_up x0_line q1 f2) q1 f3) q1 f4) q1 f5) q1 f6) q1 f7)]) hK qd2_158.2.2.2.2.2.2.2.2.2.2.2.2.2.1 rfl 1 q1 rfl (gridI_at (ck_ok eq1).2.2) ef7 gridI_set rfl ?_
  refine J_aload_n hK qd2_158.2.2.2.2.2.2.2.2.2.2.2.2.2.2.1 rfl 0 rfl rfl ?_
  refine J_bipush (v := 6) hK qd2_158.2.2.2.2.2.2.2.2.2.2.2.2.2.2.2.1 rfl (by decide) ?_
  refine J_iconst (v := 0) hK qd2_159.1 rfl (by decide) ?_
  obtain ⟨f8, ef8, hf⟩ := bs hf
  refine J_iast (g' := gridI d r0_line 20 7 (va_up (va_up (va_up (va_up (va_up (va_up (va_up x0_line q1 f2) q1 f3) q1 f4) q1 f5) q1 f6) q1 f7) q1 f8)) (gs' := [gMd d h0 a0_kept a0_tried a0_chosen r0_rows r0_line r0_good r0_work x0_shelf x0_rowSort x0_rowSize x0_moved x0_shown x0_tape x0_tapeSize x0_refused x0_lines x0_changes x0_coins x0_goods x0_works x0_years x0_gone x0_spent x0_at x0_token x0_from x0_figures x0_fault x0_numbers x0_statements x0_left x0_far x0_tons x0_way x0_steps x0_met x0_queue x0_totals, gridI d r0_line 20 7 (va_up (va_up (va_up (va_up (va_up (va_up (va_up x0_line q1 f2) q1 f3) q1 f4) q1 f5) q1 f6) q1 f7) q1 f8)]) hK qd2_159.2.1 rfl 1 q1 rfl (gridI_at (ck_ok eq1).2.2) ef8 gridI_set rfl ?_
  obtain rfl := Option.some.inj hf
  exact J_vret hK hR qd2_159.2.2.1 () rfl (by decide) (by decide)

def fX7_line_j49 (p1 : Int32) (p2 : Int32) (p3 : Int32) (p4 : Int32) (p5 : Int32) (p6 : Int32) (x0_shelf : (Nat → Int32)) (x0_rowSort : (Nat → Int32)) (x0_rowSize : (Nat → Int32)) (x0_rows : (Nat → Nat → Int64)) (x0_moved : (Nat → Int64)) (x0_shown : (Nat → Int32)) (x0_tape : (Nat → Int32)) (x0_tapeSize : Int32) (x0_refused : (Nat → Int32)) (x0_lines : Int32) (x0_line : (Nat → Nat → Int32)) (x0_changes : (Nat → Int32)) (x0_coins : (Nat → Int32)) (x0_goods : Int32) (x0_good : (Nat → Nat → Int32)) (x0_works : Int32) (x0_work : (Nat → Nat → Int32)) (x0_years : Int32) (x0_gone : Int32) (x0_spent : Int32) (x0_at : Int32) (x0_token : Int32) (x0_from : Int32) (x0_figures : Int64) (x0_fault : Int32) (x0_numbers : (Nat → Int32)) (x0_statements : Int32) (x0_left : (Nat → Int32)) (x0_far : (Nat → Int32)) (x0_tons : Int32) (x0_way : (Nat → Int32)) (x0_steps : Int32) (x0_met : Int64) (x0_queue : (Nat → Int32)) (x0_totals : (Nat → Int32)) (y3 : Int32) : Option (Int32 × (Nat → Int32) × Int32 × (Nat → Nat → Int32)) :=
  if y3 = 0 then ((fX7_refuse (x0_shelf, x0_rowSort, x0_rowSize, x0_rows, x0_moved, x0_shown, x0_tape, x0_tapeSize, x0_refused, x0_lines, x0_line, x0_changes, x0_coins, x0_goods, x0_good, x0_works, x0_work, x0_years, x0_gone, x0_spent, x0_at, x0_token, x0_from, x0_figures, x0_fault, x0_numbers, x0_statements, x0_left, x0_far, x0_tons, x0_way, x0_steps, x0_met, x0_queue, x0_totals) (-2)).bind (u2 fun v4 g5 => some (v4, g5, x0_lines, x0_line))) else ((fX7_in ((p5).toInt64) (1 : Int64) (999 : Int64)).bind (fun v7 => if v7 = 0 then ((fX7_refuse (x0_shelf, x0_rowSort, x0_rowSize, x0_rows, x0_moved, x0_shown, x0_tape, x0_tapeSize, x0_refused, x0_lines, x0_line, x0_changes, x0_coins, x0_goods, x0_good, x0_works, x0_work, x0_years, x0_gone, x0_spent, x0_at, x0_token, x0_from, x0_figures, x0_fault, x0_numbers, x0_statements, x0_left, x0_far, x0_tons, x0_way, x0_steps, x0_met, x0_queue, x0_totals) (-2)).bind (u2 fun v9 g10 => some (v9, g10, x0_lines, x0_line))) else ((fX7_in ((p6).toInt64) (0 : Int64) (5 : Int64)).bind (fun v12 => if v12 = 0 then ((fX7_refuse (x0_shelf, x0_rowSort, x0_rowSize, x0_rows, x0_moved, x0_shown, x0_tape, x0_tapeSize, x0_refused, x0_lines, x0_line, x0_changes, x0_coins, x0_goods, x0_good, x0_works, x0_work, x0_years, x0_gone, x0_spent, x0_at, x0_token, x0_from, x0_figures, x0_fault, x0_numbers, x0_statements, x0_left, x0_far, x0_tons, x0_way, x0_steps, x0_met, x0_queue, x0_totals) (-2)).bind (u2 fun v27 g28 => some (v27, g28, x0_lines, x0_line))) else (if x0_lines = 20 then ((fX7_refuse (x0_shelf, x0_rowSort, x0_rowSize, x0_rows, x0_moved, x0_shown, x0_tape, x0_tapeSize, x0_refused, x0_lines, x0_line, x0_changes, x0_coins, x0_goods, x0_good, x0_works, x0_work, x0_years, x0_gone, x0_spent, x0_at, x0_token, x0_from, x0_figures, x0_fault, x0_numbers, x0_statements, x0_left, x0_far, x0_tons, x0_way, x0_steps, x0_met, x0_queue, x0_totals) (-6)).bind (u2 fun v24 g25 => some (v24, g25, x0_lines, x0_line))) else ((fX7_newLine (x0_shelf, x0_rowSort, x0_rowSize, x0_rows, x0_moved, x0_shown, x0_tape, x0_tapeSize, x0_refused, x0_lines, x0_line, x0_changes, x0_coins, x0_goods, x0_good, x0_works, x0_work, x0_years, x0_gone, x0_spent, x0_at, x0_token, x0_from, x0_figures, x0_fault, x0_numbers, x0_statements, x0_left, x0_far, x0_tons, x0_way, x0_steps, x0_met, x0_queue, x0_totals) p1 p2).bind (fun g14 => (ck x0_lines 20).bind fun q16 => (wr 7 (g14 q16) (2) p3).bind fun f17 => (ck x0_lines 20).bind fun q18 => (wr 7 ((va_up g14 q16 f17) q18) (3) p4).bind fun f19 => (ck x0_lines 20).bind fun q20 => (wr 7 ((va_up (va_up g14 q16 f17) q18 f19) q20) (4) p5).bind fun f21 => (ck x0_lines 20).bind fun q22 => (wr 7 ((va_up (va_up (va_up g14 q16 f17) q18 f19) q20 f21) q22) (5) p6).bind fun f23 => some (x0_lines, x0_refused, (x0_lines + 1), (va_up (va_up (va_up (va_up g14 q16 f17) q18 f19) q20 f21) q22 f23)))))))))
def fX7_line_j48 (p1 : Int32) (p2 : Int32) (p3 : Int32) (p4 : Int32) (p5 : Int32) (p6 : Int32) (x0_shelf : (Nat → Int32)) (x0_rowSort : (Nat → Int32)) (x0_rowSize : (Nat → Int32)) (x0_rows : (Nat → Nat → Int64)) (x0_moved : (Nat → Int64)) (x0_shown : (Nat → Int32)) (x0_tape : (Nat → Int32)) (x0_tapeSize : Int32) (x0_refused : (Nat → Int32)) (x0_lines : Int32) (x0_line : (Nat → Nat → Int32)) (x0_changes : (Nat → Int32)) (x0_coins : (Nat → Int32)) (x0_goods : Int32) (x0_good : (Nat → Nat → Int32)) (x0_works : Int32) (x0_work : (Nat → Nat → Int32)) (x0_years : Int32) (x0_gone : Int32) (x0_spent : Int32) (x0_at : Int32) (x0_token : Int32) (x0_from : Int32) (x0_figures : Int64) (x0_fault : Int32) (x0_numbers : (Nat → Int32)) (x0_statements : Int32) (x0_left : (Nat → Int32)) (x0_far : (Nat → Int32)) (x0_tons : Int32) (x0_way : (Nat → Int32)) (x0_steps : Int32) (x0_met : Int64) (x0_queue : (Nat → Int32)) (x0_totals : (Nat → Int32)) : Option (Int32 × (Nat → Int32) × Int32 × (Nat → Nat → Int32)) :=
  fX7_line_j49 p1 p2 p3 p4 p5 p6 x0_shelf x0_rowSort x0_rowSize x0_rows x0_moved x0_shown x0_tape x0_tapeSize x0_refused x0_lines x0_line x0_changes x0_coins x0_goods x0_good x0_works x0_work x0_years x0_gone x0_spent x0_at x0_token x0_from x0_figures x0_fault x0_numbers x0_statements x0_left x0_far x0_tons x0_way x0_steps x0_met x0_queue x0_totals (0)
def fX7_line (X0 : MdT) (p1 : Int32) (p2 : Int32) (p3 : Int32) (p4 : Int32) (p5 : Int32) (p6 : Int32) : Option (Int32 × (Nat → Int32) × Int32 × (Nat → Nat → Int32)) :=
  u35 (fun (x0_shelf : (Nat → Int32)) (x0_rowSort : (Nat → Int32)) (x0_rowSize : (Nat → Int32)) (x0_rows : (Nat → Nat → Int64)) (x0_moved : (Nat → Int64)) (x0_shown : (Nat → Int32)) (x0_tape : (Nat → Int32)) (x0_tapeSize : Int32) (x0_refused : (Nat → Int32)) (x0_lines : Int32) (x0_line : (Nat → Nat → Int32)) (x0_changes : (Nat → Int32)) (x0_coins : (Nat → Int32)) (x0_goods : Int32) (x0_good : (Nat → Nat → Int32)) (x0_works : Int32) (x0_work : (Nat → Nat → Int32)) (x0_years : Int32) (x0_gone : Int32) (x0_spent : Int32) (x0_at : Int32) (x0_token : Int32) (x0_from : Int32) (x0_figures : Int64) (x0_fault : Int32) (x0_numbers : (Nat → Int32)) (x0_statements : Int32) (x0_left : (Nat → Int32)) (x0_far : (Nat → Int32)) (x0_tons : Int32) (x0_way : (Nat → Int32)) (x0_steps : Int32) (x0_met : Int64) (x0_queue : (Nat → Int32)) (x0_totals : (Nat → Int32)) => (fX7_isPlace p1).bind (fun v1 => if v1 = 0 then (fX7_line_j48 p1 p2 p3 p4 p5 p6 x0_shelf x0_rowSort x0_rowSize x0_rows x0_moved x0_shown x0_tape x0_tapeSize x0_refused x0_lines x0_line x0_changes x0_coins x0_goods x0_good x0_works x0_work x0_years x0_gone x0_spent x0_at x0_token x0_from x0_figures x0_fault x0_numbers x0_statements x0_left x0_far x0_tons x0_way x0_steps x0_met x0_queue x0_totals) else ((fX7_isPlace p2).bind (fun v30 => if v30 = 0 then (fX7_line_j48 p1 p2 p3 p4 p5 p6 x0_shelf x0_rowSort x0_rowSize x0_rows x0_moved x0_shown x0_tape x0_tapeSize x0_refused x0_lines x0_line x0_changes x0_coins x0_goods x0_good x0_works x0_work x0_years x0_gone x0_spent x0_at x0_token x0_from x0_figures x0_fault x0_numbers x0_statements x0_left x0_far x0_tons x0_way x0_steps x0_met x0_queue x0_totals) else (if p1 = p2 then (fX7_line_j48 p1 p2 p3 p4 p5 p6 x0_shelf x0_rowSort x0_rowSize x0_rows x0_moved x0_shown x0_tape x0_tapeSize x0_refused x0_lines x0_line x0_changes x0_coins x0_goods x0_good x0_works x0_work x0_years x0_gone x0_spent x0_at x0_token x0_from x0_figures x0_fault x0_numbers x0_statements x0_left x0_far x0_tons x0_way x0_steps x0_met x0_queue x0_totals) else ((fX7_in ((p3).toInt64) (1 : Int64) (7 : Int64)).bind (fun v32 => if v32 = 0 then (fX7_line_j48 p1 p2 p3 p4 p5 p6 x0_shelf x0_rowSort x0_rowSize x0_rows x0_moved x0_shown x0_tape x0_tapeSize x0_refused x0_lines x0_line x0_changes x0_coins x0_goods x0_good x0_works x0_work x0_years x0_gone x0_spent x0_at x0_token x0_from x0_figures x0_fault x0_numbers x0_statements x0_left x0_far x0_tons x0_way x0_steps x0_met x0_queue x0_totals) else ((fX7_in ((p4).toInt64) (1 : Int64) (60 : Int64)).bind (fun v34 => if v34 = 0 then (fX7_line_j48 p1 p2 p3 p4 p5 p6 x0_shelf x0_rowSort x0_rowSize x0_rows x0_moved x0_shown x0_tape x0_tapeSize x0_refused x0_lines x0_line x0_changes x0_coins x0_goods x0_good x0_works x0_work x0_years x0_gone x0_spent x0_at x0_token x0_from x0_figures x0_fault x0_numbers x0_statements x0_left x0_far x0_tons x0_way x0_steps x0_met x0_queue x0_totals) else (fX7_line_j49 p1 p2 p3 p4 p5 p6 x0_shelf x0_rowSort x0_rowSize x0_rows x0_moved x0_shown x0_tape x0_tapeSize x0_refused x0_lines x0_line x0_changes x0_coins x0_goods x0_good x0_works x0_work x0_years x0_gone x0_spent x0_at x0_token x0_from x0_figures x0_fault x0_numbers x0_statements x0_left x0_far x0_tons x0_way x0_steps x0_met x0_queue x0_totals (1))))))))))) X0
set_option maxHeartbeats 4000000 in
set_option maxRecDepth 100000 in
theorem kX7_line (l : Launch) (d : DT) (h0 : Nat → Nat) (r0_rows : Nat → Nat) (r0_line : Nat → Nat) (r0_good : Nat → Nat) (r0_work : Nat → Nat) (a0_kept : Option Nat) (a0_tried : Option Nat) (a0_chosen : Option Nat) (x0_shelf : (Nat → Int32)) (x0_rowSort : (Nat → Int32)) (x0_rowSize : (Nat → Int32)) (x0_rows : (Nat → Nat → Int64)) (x0_moved : (Nat → Int64)) (x0_shown : (Nat → Int32)) (x0_tape : (Nat → Int32)) (x0_tapeSize : Int32) (x0_refused : (Nat → Int32)) (x0_lines : Int32) (x0_line : (Nat → Nat → Int32)) (x0_changes : (Nat → Int32)) (x0_coins : (Nat → Int32)) (x0_goods : Int32) (x0_good : (Nat → Nat → Int32)) (x0_works : Int32) (x0_work : (Nat → Nat → Int32)) (x0_years : Int32) (x0_gone : Int32) (x0_spent : Int32) (x0_at : Int32) (x0_token : Int32) (x0_from : Int32) (x0_figures : Int64) (x0_fault : Int32) (x0_numbers : (Nat → Int32)) (x0_statements : Int32) (x0_left : (Nat → Int32)) (x0_far : (Nat → Int32)) (x0_tons : Int32) (x0_way : (Nat → Int32)) (x0_steps : Int32) (x0_met : Int64) (x0_queue : (Nat → Int32)) (x0_totals : (Nat → Int32)) (p1 : Int32) (p2 : Int32) (p3 : Int32) (p4 : Int32) (p5 : Int32) (p6 : Int32)  {out : Int32 × (Nat → Int32) × Int32 × (Nat → Nat → Int32)} (hf : fX7_line (x0_shelf, x0_rowSort, x0_rowSize, x0_rows, x0_moved, x0_shown, x0_tape, x0_tapeSize, x0_refused, x0_lines, x0_line, x0_changes, x0_coins, x0_goods, x0_good, x0_works, x0_work, x0_years, x0_gone, x0_spent, x0_at, x0_token, x0_from, x0_figures, x0_fault, x0_numbers, x0_statements, x0_left, x0_far, x0_tons, x0_way, x0_steps, x0_met, x0_queue, x0_totals) p1 p2 p3 p4 p5 p6 = some out) : Ct l d yX7_line cX7_line 8 (some .int) { frames := 2, cells := 0, slots := 0, locals := 45 } [.ref (h0 0), .int p1, .int p2, .int p3, .int p4, .int p5, .int p6] [gMd d h0 a0_kept a0_tried a0_chosen r0_rows r0_line r0_good r0_work x0_shelf x0_rowSort x0_rowSize x0_moved x0_shown x0_tape x0_tapeSize x0_refused x0_lines x0_changes x0_coins x0_goods x0_works x0_years x0_gone x0_spent x0_at x0_token x0_from x0_figures x0_fault x0_numbers x0_statements x0_left x0_far x0_tons x0_way x0_steps x0_met x0_queue x0_totals, gridI d r0_line 20 7 x0_line] (fun _ : Unit => (some (.int out.1), [gMd d h0 a0_kept a0_tried a0_chosen r0_rows r0_line r0_good r0_work x0_shelf x0_rowSort x0_rowSize x0_moved x0_shown x0_tape x0_tapeSize (out.2.1) (out.2.2.1) x0_changes x0_coins x0_goods x0_works x0_years x0_gone x0_spent x0_at x0_token x0_from x0_figures x0_fault x0_numbers x0_statements x0_left x0_far x0_tons x0_way x0_steps x0_met x0_queue x0_totals, gridI d r0_line 20 7 (out.2.2.2)])) := by
  refine Ct.of (by decide) (Nat.le_of_ble_eq_true rfl) ?_
  intro Φ hl hK hR
  subst hl
  have hK : Ok d Φ RX7 "line" cX7_line 8 (some .int) { frames := 2, cells := 0, slots := 0, locals := 45 } := hK
  unfold fX7_line at hf
  have hf := un35 hf
  show J d Φ 8 [gMd d h0 a0_kept a0_tried a0_chosen r0_rows r0_line r0_good r0_work x0_shelf x0_rowSort x0_rowSize x0_moved x0_shown x0_tape x0_tapeSize x0_refused x0_lines x0_changes x0_coins x0_goods x0_works x0_years x0_gone x0_spent x0_at x0_token x0_from x0_figures x0_fault x0_numbers x0_statements x0_left x0_far x0_tons x0_way x0_steps x0_met x0_queue x0_totals, gridI d r0_line 20 7 x0_line] 0 0 0 [(0, .ref (h0 0)), (1, .int p1), (2, .int p2), (3, .int p3), (4, .int p4), (5, .int p5), (6, .int p6)] []
  refine J_iload_n hK qd3_0.1 rfl 1 rfl rfl ?_
  obtain ⟨v1, e2, hf⟩ := bs hf
  refine J_callS (m := 2) (m' := 2) (ce' := 0) (sl' := 0) (gr := [gMd d h0 a0_kept a0_tried a0_chosen r0_rows r0_line r0_good r0_work x0_shelf x0_rowSort x0_rowSize x0_moved x0_shown x0_tape x0_tapeSize x0_refused x0_lines x0_changes x0_coins x0_goods x0_works x0_years x0_gone x0_spent x0_at x0_token x0_from x0_figures x0_fault x0_numbers x0_statements x0_left x0_far x0_tons x0_way x0_steps x0_met x0_queue x0_totals, gridI d r0_line 20 7 x0_line]) (gs' := fun _ => [gMd d h0 a0_kept a0_tried a0_chosen r0_rows r0_line r0_good r0_work x0_shelf x0_rowSort x0_rowSize x0_moved x0_shown x0_tape x0_tapeSize x0_refused x0_lines x0_changes x0_coins x0_goods x0_works x0_years x0_gone x0_spent x0_at x0_token x0_from x0_figures x0_fault x0_numbers x0_statements x0_left x0_far x0_tons x0_way x0_steps x0_met x0_queue x0_totals, gridI d r0_line 20 7 x0_line]) (st' := fun _ => [.int v1]) (st := []) hK qd3_0.2.1 cv_RX7_112 ws_yX7_isPlace (As := [.int p1]) (kX7_isPlace _ d p1 e2) rfl rfl (Nat.le_of_ble_eq_true rfl) (by decide) [] [0, 1] rfl (by decide +kernel) rfl rfl [0, 1] (by decide +kernel) (fun _ => rfl) (fun _ => rfl) rfl rfl rfl (fun _ => rfl) (fun _ => ?_)
  have j49 : ∀ (y3 : Int32), fX7_line_j49 p1 p2 p3 p4 p5 p6 x0_shelf x0_rowSort x0_rowSize x0_rows x0_moved x0_shown x0_tape x0_tapeSize x0_refused x0_lines x0_line x0_changes x0_coins x0_goods x0_good x0_works x0_work x0_years x0_gone x0_spent x0_at x0_token x0_from x0_figures x0_fault x0_numbers x0_statements x0_left x0_far x0_tons x0_way x0_steps x0_met x0_queue x0_totals y3 = some out → J d Φ 8 [gMd d h0 a0_kept a0_tried a0_chosen r0_rows r0_line r0_good r0_work x0_shelf x0_rowSort x0_rowSize x0_moved x0_shown x0_tape x0_tapeSize x0_refused x0_lines x0_changes x0_coins x0_goods x0_works x0_years x0_gone x0_spent x0_at x0_token x0_from x0_figures x0_fault x0_numbers x0_statements x0_left x0_far x0_tons x0_way x0_steps x0_met x0_queue x0_totals, gridI d r0_line 20 7 x0_line] 0 0 49 [(0, .ref (h0 0)), (1, .int p1), (2, .int p2), (3, .int p3), (4, .int p4), (5, .int p5), (6, .int p6)] [.int y3] := by
    intro y3 hf
    unfold fX7_line_j49 at hf
    refine J_istore (L' := [(7, .int y3), (0, .ref (h0 0)), (1, .int p1), (2, .int p2), (3, .int p3), (4, .int p4), (5, .int p5), (6, .int p6)]) hK qd3_1.2.2.2.2.2.2.2.2.1 rfl (by decide) rfl ?_
    refine J_iload hK qd3_1.2.2.2.2.2.2.2.2.2.1 rfl 0 rfl ?_
    refine J_if_eq (tg := 82) hK qd3_1.2.2.2.2.2.2.2.2.2.2.1 rfl rfl (fun hc53 => ?_) (fun hc53 => ?_)
    · have hf := ip hc53 hf
      refine J_aload_n hK qd3_2.2.2.2.2.2.2.2.1 rfl 1 rfl rfl ?_
      refine J_bipush (v := (-2)) hK qd3_2.2.2.2.2.2.2.2.2.1 rfl (by decide) ?_
      obtain ⟨⟨v4, g5⟩, e6, hf⟩ := bs hf
      have hf := un2 hf
      refine J_callV (m := 2) (m' := 2) (ce' := 0) (sl' := 0) (gr := [gridI d r0_line 20 7 x0_line]) (gs' := fun _ => [gMd d h0 a0_kept a0_tried a0_chosen r0_rows r0_line r0_good r0_work x0_shelf x0_rowSort x0_rowSize x0_moved x0_shown x0_tape x0_tapeSize g5 x0_lines x0_changes x0_coins x0_goods x0_works x0_years x0_gone x0_spent x0_at x0_token x0_from x0_figures x0_fault x0_numbers x0_statements x0_left x0_far x0_tons x0_way x0_steps x0_met x0_queue x0_totals, gridI d r0_line 20 7 x0_line]) (st' := fun _ => [.int v4]) (st := []) hK qd3_2.2.2.2.2.2.2.2.2.2.1 cv_RX7_94 iv_yX7_refuse (As := [.int (-2)]) (kX7_refuse _ d h0 r0_rows r0_line r0_good r0_work a0_kept a0_tried a0_chosen x0_shelf x0_rowSort x0_rowSize x0_rows x0_moved x0_shown x0_tape x0_tapeSize x0_refused x0_lines x0_line x0_changes x0_coins x0_goods x0_good x0_works x0_work x0_years x0_gone x0_spent x0_at x0_token x0_from x0_figures x0_fault x0_numbers x0_statements x0_left x0_far x0_tons x0_way x0_steps x0_met x0_queue x0_totals (-2) e6) rfl rfl (Nat.le_of_ble_eq_true rfl) (by decide) 0 0 rfl rfl rfl [0] [1] rfl (by decide +kernel) rfl rfl [1, 0] (by decide +kernel) (fun _ => rfl) (fun _ => rfl) rfl rfl rfl (fun _ => rfl) (fun _ => ?_)
      obtain rfl := Option.some.inj hf
      exact J_iret hK hR qd3_2.2.2.2.2.2.2.2.2.2.2.1 () rfl (by decide) (by decide)
    · have hf := iq hc53 hf
      refine J_iload hK qd3_1.2.2.2.2.2.2.2.2.2.2.2.1 rfl 6 rfl ?_
      refine J_i2l hK qd3_1.2.2.2.2.2.2.2.2.2.2.2.2.1 rfl ?_
      refine J_lconst (v := 1) hK qd3_1.2.2.2.2.2.2.2.2.2.2.2.2.2.1 rfl (by decide) ?_
      refine J_ldc2 (v := (999 : Int64)) hK qd3_1.2.2.2.2.2.2.2.2.2.2.2.2.2.2.1 rfl wk_RX7_117 ?_
      obtain ⟨v7, e8, hf⟩ := bs hf
      refine J_callS (m := 2) (m' := 2) (ce' := 0) (sl' := 0) (gr := [gMd d h0 a0_kept a0_tried a0_chosen r0_rows r0_line r0_good r0_work x0_shelf x0_rowSort x0_rowSize x0_moved x0_shown x0_tape x0_tapeSize x0_refused x0_lines x0_changes x0_coins x0_goods x0_works x0_years x0_gone x0_spent x0_at x0_token x0_from x0_figures x0_fault x0_numbers x0_statements x0_left x0_far x0_tons x0_way x0_steps x0_met x0_queue x0_totals, gridI d r0_line 20 7 x0_line]) (gs' := fun _ => [gMd d h0 a0_kept a0_tried a0_chosen r0_rows r0_line r0_good r0_work x0_shelf x0_rowSort x0_rowSize x0_moved x0_shown x0_tape x0_tapeSize x0_refused x0_lines x0_changes x0_coins x0_goods x0_works x0_years x0_gone x0_spent x0_at x0_token x0_from x0_figures x0_fault x0_numbers x0_statements x0_left x0_far x0_tons x0_way x0_steps x0_met x0_queue x0_totals, gridI d r0_line 20 7 x0_line]) (st' := fun _ => [.int v7]) (st := []) hK qd3_1.2.2.2.2.2.2.2.2.2.2.2.2.2.2.2.1 cv_RX7_78 ws_yX7_in (As := [.long ((p5).toInt64), .long (1 : Int64), .long (999 : Int64)]) (kX7_in _ d ((p5).toInt64) (1 : Int64) (999 : Int64) e8) rfl rfl (Nat.le_of_ble_eq_true rfl) (by decide) [] [0, 1] rfl (by decide +kernel) rfl rfl [0, 1] (by decide +kernel) (fun _ => rfl) (fun _ => rfl) rfl rfl rfl (fun _ => rfl) (fun _ => ?_)
      refine J_if_eq (tg := 82) hK qd3_2.1 rfl rfl (fun hc66 => ?_) (fun hc66 => ?_)
      · have hf := ip hc66 hf
        refine J_aload_n hK qd3_2.2.2.2.2.2.2.2.1 rfl 1 rfl rfl ?_
        refine J_bipush (v := (-2)) hK qd3_2.2.2.2.2.2.2.2.2.1 rfl (by decide) ?_
        obtain ⟨⟨v9, g10⟩, e11, hf⟩ := bs hf
        have hf := un2 hf
        refine J_callV (m := 2) (m' := 2) (ce' := 0) (sl' := 0) (gr := [gridI d r0_line 20 7 x0_line]) (gs' := fun _ => [gMd d h0 a0_kept a0_tried a0_chosen r0_rows r0_line r0_good r0_work x0_shelf x0_rowSort x0_rowSize x0_moved x0_shown x0_tape x0_tapeSize g10 x0_lines x0_changes x0_coins x0_goods x0_works x0_years x0_gone x0_spent x0_at x0_token x0_from x0_figures x0_fault x0_numbers x0_statements x0_left x0_far x0_tons x0_way x0_steps x0_met x0_queue x0_totals, gridI d r0_line 20 7 x0_line]) (st' := fun _ => [.int v9]) (st := []) hK qd3_2.2.2.2.2.2.2.2.2.2.1 cv_RX7_94 iv_yX7_refuse (As := [.int (-2)]) (kX7_refuse _ d h0 r0_rows r0_line r0_good r0_work a0_kept a0_tried a0_chosen x0_shelf x0_rowSort x0_rowSize x0_rows x0_moved x0_shown x0_tape x0_tapeSize x0_refused x0_lines x0_line x0_changes x0_coins x0_goods x0_good x0_works x0_work x0_years x0_gone x0_spent x0_at x0_token x0_from x0_figures x0_fault x0_numbers x0_statements x0_left x0_far x0_tons x0_way x0_steps x0_met x0_queue x0_totals (-2) e11) rfl rfl (Nat.le_of_ble_eq_true rfl) (by decide) 0 0 rfl rfl rfl [0] [1] rfl (by decide +kernel) rfl rfl [1, 0] (by decide +kernel) (fun _ => rfl) (fun _ => rfl) rfl rfl rfl (fun _ => rfl) (fun _ => ?_)
        obtain rfl := Option.some.inj hf
        exact J_iret hK hR qd3_2.2.2.2.2.2.2.2.2.2.2.1 () rfl (by decide) (by decide)
      · have hf := iq hc66 hf
        refine J_iload hK qd3_2.2.1 rfl 7 rfl ?_
        refine J_i2l hK qd3_2.2.2.1 rfl ?_
        refine J_lconst (v := 0) hK qd3_2.2.2.2.1 rfl (by decide) ?_
        refine J_ldc2 (v := (5 : Int64)) hK qd3_2.2.2.2.2.1 rfl wk_RX7_106 ?_
        obtain ⟨v12, e13, hf⟩ := bs hf
        refine J_callS (m := 2) (m' := 2) (ce' := 0) (sl' := 0) (gr := [gMd d h0 a0_kept a0_tried a0_chosen r0_rows r0_line r0_good r0_work x0_shelf x0_rowSort x0_rowSize x0_moved x0_shown x0_tape x0_tapeSize x0_refused x0_lines x0_changes x0_coins x0_goods x0_works x0_years x0_gone x0_spent x0_at x0_token x0_from x0_figures x0_fault x0_numbers x0_statements x0_left x0_far x0_tons x0_way x0_steps x0_met x0_queue x0_totals, gridI d r0_line 20 7 x0_line]) (gs' := fun _ => [gMd d h0 a0_kept a0_tried a0_chosen r0_rows r0_line r0_good r0_work x0_shelf x0_rowSort x0_rowSize x0_moved x0_shown x0_tape x0_tapeSize x0_refused x0_lines x0_changes x0_coins x0_goods x0_works x0_years x0_gone x0_spent x0_at x0_token x0_from x0_figures x0_fault x0_numbers x0_statements x0_left x0_far x0_tons x0_way x0_steps x0_met x0_queue x0_totals, gridI d r0_line 20 7 x0_line]) (st' := fun _ => [.int v12]) (st := []) hK qd3_2.2.2.2.2.2.1 cv_RX7_78 ws_yX7_in (As := [.long ((p6).toInt64), .long (0 : Int64), .long (5 : Int64)]) (kX7_in _ d ((p6).toInt64) (0 : Int64) (5 : Int64) e13) rfl rfl (Nat.le_of_ble_eq_true rfl) (by decide) [] [0, 1] rfl (by decide +kernel) rfl rfl [0, 1] (by decide +kernel) (fun _ => rfl) (fun _ => rfl) rfl rfl rfl (fun _ => rfl) (fun _ => ?_)
        refine J_if_ne (tg := 89) hK qd3_2.2.2.2.2.2.2.1 rfl rfl (fun hc79 => ?_) (fun hc79 => ?_)
        · have hf := iq hc79 hf
          refine J_aload_n hK qd3_2.2.2.2.2.2.2.2.2.2.2.2.1 rfl 1 rfl rfl ?_
          refine J_get hK fo_RX7_82 qd3_2.2.2.2.2.2.2.2.2.2.2.2.2.1 rfl 0 0 rfl rfl rfl ?_
          refine J_bipush (v := 20) hK qd3_2.2.2.2.2.2.2.2.2.2.2.2.2.2.1 rfl (by decide) ?_
          refine J_icmp_ne (tg := 105) hK qd3_2.2.2.2.2.2.2.2.2.2.2.2.2.2.2.1 rfl rfl (fun hc95 => ?_) (fun hc95 => ?_)
          · have hf := iq hc95 hf
            refine J_aload_n hK qd3_3.2.2.2.1 rfl 1 rfl rfl ?_
            refine J_iload_n hK qd3_3.2.2.2.2.1 rfl 2 rfl rfl ?_
            refine J_iload_n hK qd3_3.2.2.2.2.2.1 rfl 3 rfl rfl ?_
            obtain ⟨g14, e15, hf⟩ := bs hf
            refine J_callV (m := 2) (m' := 2) (ce' := 0) (sl' := 0) (gr := []) (gs' := fun _ => [gMd d h0 a0_kept a0_tried a0_chosen r0_rows r0_line r0_good r0_work x0_shelf x0_rowSort x0_rowSize x0_moved x0_shown x0_tape x0_tapeSize x0_refused x0_lines x0_changes x0_coins x0_goods x0_works x0_years x0_gone x0_spent x0_at x0_token x0_from x0_figures x0_fault x0_numbers x0_statements x0_left x0_far x0_tons x0_way x0_steps x0_met x0_queue x0_totals, gridI d r0_line 20 7 g14]) (st' := fun _ => []) (st := []) hK qd3_3.2.2.2.2.2.2.1 cv_RX7_119 iv_yX7_newLine (As := [.int p1, .int p2]) (kX7_newLine _ d h0 r0_rows r0_line r0_good r0_work a0_kept a0_tried a0_chosen x0_shelf x0_rowSort x0_rowSize x0_rows x0_moved x0_shown x0_tape x0_tapeSize x0_refused x0_lines x0_line x0_changes x0_coins x0_goods x0_good x0_works x0_work x0_years x0_gone x0_spent x0_at x0_token x0_from x0_figures x0_fault x0_numbers x0_statements x0_left x0_far x0_tons x0_way x0_steps x0_met x0_queue x0_totals p1 p2 e15) rfl rfl (Nat.le_of_ble_eq_true rfl) (by decide) 0 0 rfl rfl rfl [0, 1] [] rfl (by decide +kernel) rfl rfl [0, 1] (by decide +kernel) (fun _ => rfl) (fun _ => rfl) rfl rfl rfl (fun _ => rfl) (fun _ => ?_)
            refine J_aload_n hK qd3_3.2.2.2.2.2.2.2.1 rfl 1 rfl rfl ?_
            refine J_get hK fo_RX7_39 qd3_3.2.2.2.2.2.2.2.2.1 rfl 0 0 rfl rfl rfl ?_
            refine J_aload_n hK qd3_3.2.2.2.2.2.2.2.2.2.1 rfl 1 rfl rfl ?_
            refine J_get hK fo_RX7_82 qd3_3.2.2.2.2.2.2.2.2.2.2.1 rfl 0 0 rfl rfl rfl ?_
            obtain ⟨q16, eq16, hf⟩ := bs hf
            refine J_aald hK qd3_3.2.2.2.2.2.2.2.2.2.2.2.1 rfl 0 9 rfl rfl rfl eq16 ?_
            refine J_iconst (v := 2) hK qd3_3.2.2.2.2.2.2.2.2.2.2.2.2.1 rfl (by decide) ?_
            refine J_iload_n hK qd3_3.2.2.2.2.2.2.2.2.2.2.2.2.2.1 rfl 4 rfl rfl ?_
            obtain ⟨f17, ef17, hf⟩ := bs hf
            refine J_iast (g' := gridI d r0_line 20 7 (va_up g14 q16 f17)) (gs' := [gMd d h0 a0_kept a0_tried a0_chosen r0_rows r0_line r0_good r0_work x0_shelf x0_rowSort x0_rowSize x0_moved x0_shown x0_tape x0_tapeSize x0_refused x0_lines x0_changes x0_coins x0_goods x0_works x0_years x0_gone x0_spent x0_at x0_token x0_from x0_figures x0_fault x0_numbers x0_statements x0_left x0_far x0_tons x0_way x0_steps x0_met x0_queue x0_totals, gridI d r0_line 20 7 (va_up g14 q16 f17)]) hK qd3_3.2.2.2.2.2.2.2.2.2.2.2.2.2.2.1 rfl 1 q16 rfl (gridI_at (ck_ok eq16).2.2) ef17 gridI_set rfl ?_
            refine J_aload_n hK qd3_3.2.2.2.2.2.2.2.2.2.2.2.2.2.2.2.1 rfl 1 rfl rfl ?_
            refine J_get hK fo_RX7_39 qd3_4.1 rfl 0 0 rfl rfl rfl ?_
            refine J_aload_n hK qd3_4.2.1 rfl 1 rfl rfl ?_
            refine J_get hK fo_RX7_82 qd3_4.2.2.1 rfl 0 0 rfl rfl rfl ?_
            obtain ⟨q18, eq18, hf⟩ := bs hf
            refine J_aald hK qd3_4.2.2.2.1 rfl 0 9 rfl rfl rfl eq18 ?_
            refine J_iconst (v := 3) hK qd3_4.2.2.2.2.1 rfl (by decide) ?_
            refine J_iload hK qd3_4.2.2.2.2.2.1 rfl 5 rfl ?_
            obtain ⟨f19, ef19, hf⟩ := bs hf
            refine J_iast (g' := gridI d r0_line 20 7 (va_up (va_up g14 q16 f17) q18 f19)) (gs' := [gMd d h0 a0_kept a0_tried a0_chosen r0_rows r0_line r0_good r0_work x0_shelf x0_rowSort x0_rowSize x0_moved x0_shown x0_tape x0_tapeSize x0_refused x0_lines x0_changes x0_coins x0_goods x0_works x0_years x0_gone x0_spent x0_at x0_token x0_from x0_figures x0_fault x0_numbers x0_statements x0_left x0_far x0_tons x0_way x0_steps x0_met x0_queue x0_totals, gridI d r0_line 20 7 (va_up (va_up g14 q16 f17) q18 f19)]) hK qd3_4.2.2.2.2.2.2.1 rfl 1 q18 rfl (gridI_at (ck_ok eq18).2.2) ef19 gridI_set rfl ?_
            refine J_aload_n hK qd3_4.2.2.2.2.2.2.2.1 rfl 1 rfl rfl ?_
            refine J_get hK fo_RX7_39 qd3_4.2.2.2.2.2.2.2.2.1 rfl 0 0 rfl rfl rfl ?_
            refine J_aload_n hK qd3_4.2.2.2.2.2.2.2.2.2.1 rfl 1 rfl rfl ?_
            refine J_get hK fo_RX7_82 qd3_4.2.2.2.2.2.2.2.2.2.2.1 rfl 0 0 rfl rfl rfl ?_
            obtain ⟨q20, eq20, hf⟩ := bs hf
            refine J_aald hK qd3_4.2.2.2.2.2.2.2.2.2.2.2.1 rfl 0 9 rfl rfl rfl eq20 ?_
            refine J_iconst (v := 4) hK qd3_4.2.2.2.2.2.2.2.2.2.2.2.2.1 rfl (by decide) ?_
            refine J_iload hK qd3_4.2.2.2.2.2.2.2.2.2.2.2.2.2.1 rfl 6 rfl ?_
            obtain ⟨f21, ef21, hf⟩ := bs hf
            refine J_iast (g' := gridI d r0_line 20 7 (va_up (va_up (va_up g14 q16 f17) q18 f19) q20 f21)) (gs' := [gMd d h0 a0_kept a0_tried a0_chosen r0_rows r0_line r0_good r0_work x0_shelf x0_rowSort x0_rowSize x0_moved x0_shown x0_tape x0_tapeSize x0_refused x0_lines x0_changes x0_coins x0_goods x0_works x0_years x0_gone x0_spent x0_at x0_token x0_from x0_figures x0_fault x0_numbers x0_statements x0_left x0_far x0_tons x0_way x0_steps x0_met x0_queue x0_totals, gridI d r0_line 20 7 (va_up (va_up (va_up g14 q16 f17) q18 f19) q20 f21)]) hK qd3_4.2.2.2.2.2.2.2.2.2.2.2.2.2.2.1 rfl 1 q20 rfl (gridI_at (ck_ok eq20).2.2) ef21 gridI_set rfl ?_
            refine J_aload_n hK qd3_4.2.2.2.2.2.2.2.2.2.2.2.2.2.2.2.1 rfl 1 rfl rfl ?_
            refine J_get hK fo_RX7_39 qd3_5.1 rfl 0 0 rfl rfl rfl ?_
            refine J_aload_n hK qd3_5.2.1 rfl 1 rfl rfl ?_
            refine J_get hK fo_RX7_82 qd3_5.2.2.1 rfl 0 0 rfl rfl rfl ?_
            obtain ⟨q22, eq22, hf⟩ := bs hf
            refine J_aald hK qd3_5.2.2.2.1 rfl 0 9 rfl rfl rfl eq22 ?_
            refine J_iconst (v := 5) hK qd3_5.2.2.2.2.1 rfl (by decide) ?_
            refine J_iload hK qd3_5.2.2.2.2.2.1 rfl 7 rfl ?_
            obtain ⟨f23, ef23, hf⟩ := bs hf
            refine J_iast (g' := gridI d r0_line 20 7 (va_up (va_up (va_up (va_up g14 q16 f17) q18 f19) q20 f21) q22 f23)) (gs' := [gMd d h0 a0_kept a0_tried a0_chosen r0_rows r0_line r0_good r0_work x0_shelf x0_rowSort x0_rowSize x0_moved x0_shown x0_tape x0_tapeSize x0_refused x0_lines x0_changes x0_coins x0_goods x0_works x0_years x0_gone x0_spent x0_at x0_token x0_from x0_figures x0_fault x0_numbers x0_statements x0_left x0_far x0_tons x0_way x0_steps x0_met x0_queue x0_totals, gridI d r0_line 20 7 (va_up (va_up (va_up (va_up g14 q16 f17) q18 f19) q20 f21) q22 f23)]) hK qd3_5.2.2.2.2.2.2.1 rfl 1 q22 rfl (gridI_at (ck_ok eq22).2.2) ef23 gridI_set rfl ?_
            refine J_aload_n hK qd3_5.2.2.2.2.2.2.2.1 rfl 1 rfl rfl ?_
            refine J_dup hK qd3_5.2.2.2.2.2.2.2.2.1 rfl rfl ?_
            refine J_get hK fo_RX7_82 qd3_5.2.2.2.2.2.2.2.2.2.1 rfl 0 0 rfl rfl rfl ?_
            refine J_dup_x1 hK qd3_5.2.2.2.2.2.2.2.2.2.2.1 rfl rfl rfl ?_
            refine J_iconst (v := 1) hK qd3_5.2.2.2.2.2.2.2.2.2.2.2.1 rfl (by decide) ?_
            refine J_iadd hK qd3_5.2.2.2.2.2.2.2.2.2.2.2.2.1 rfl ?_
            refine J_put (g' := gMd d h0 a0_kept a0_tried a0_chosen r0_rows r0_line r0_good r0_work x0_shelf x0_rowSort x0_rowSize x0_moved x0_shown x0_tape x0_tapeSize x0_refused (x0_lines + 1) x0_changes x0_coins x0_goods x0_works x0_years x0_gone x0_spent x0_at x0_token x0_from x0_figures x0_fault x0_numbers x0_statements x0_left x0_far x0_tons x0_way x0_steps x0_met x0_queue x0_totals) (gs' := [gMd d h0 a0_kept a0_tried a0_chosen r0_rows r0_line r0_good r0_work x0_shelf x0_rowSort x0_rowSize x0_moved x0_shown x0_tape x0_tapeSize x0_refused (x0_lines + 1) x0_changes x0_coins x0_goods x0_works x0_years x0_gone x0_spent x0_at x0_token x0_from x0_figures x0_fault x0_numbers x0_statements x0_left x0_far x0_tons x0_way x0_steps x0_met x0_queue x0_totals, gridI d r0_line 20 7 (va_up (va_up (va_up (va_up g14 q16 f17) q18 f19) q20 f21) q22 f23)]) hK fp_RX7_82 qd3_5.2.2.2.2.2.2.2.2.2.2.2.2.2.1 rfl 0 0 rfl rfl rfl rfl (Nat.le_of_ble_eq_true rfl) rfl rfl ?_
            obtain rfl := Option.some.inj hf
            exact J_iret hK hR qd3_5.2.2.2.2.2.2.2.2.2.2.2.2.2.2.1 () rfl (by decide) (by decide)
          · have hf := ip hc95 hf
            refine J_aload_n hK qd3_2.2.2.2.2.2.2.2.2.2.2.2.2.2.2.2.1 rfl 1 rfl rfl ?_
            refine J_bipush (v := (-6)) hK qd3_3.1 rfl (by decide) ?_
            obtain ⟨⟨v24, g25⟩, e26, hf⟩ := bs hf
            have hf := un2 hf
            refine J_callV (m := 2) (m' := 2) (ce' := 0) (sl' := 0) (gr := [gridI d r0_line 20 7 x0_line]) (gs' := fun _ => [gMd d h0 a0_kept a0_tried a0_chosen r0_rows r0_line r0_good r0_work x0_shelf x0_rowSort x0_rowSize x0_moved x0_shown x0_tape x0_tapeSize g25 x0_lines x0_changes x0_coins x0_goods x0_works x0_years x0_gone x0_spent x0_at x0_token x0_from x0_figures x0_fault x0_numbers x0_statements x0_left x0_far x0_tons x0_way x0_steps x0_met x0_queue x0_totals, gridI d r0_line 20 7 x0_line]) (st' := fun _ => [.int v24]) (st := []) hK qd3_3.2.1 cv_RX7_94 iv_yX7_refuse (As := [.int (-6)]) (kX7_refuse _ d h0 r0_rows r0_line r0_good r0_work a0_kept a0_tried a0_chosen x0_shelf x0_rowSort x0_rowSize x0_rows x0_moved x0_shown x0_tape x0_tapeSize x0_refused x0_lines x0_line x0_changes x0_coins x0_goods x0_good x0_works x0_work x0_years x0_gone x0_spent x0_at x0_token x0_from x0_figures x0_fault x0_numbers x0_statements x0_left x0_far x0_tons x0_way x0_steps x0_met x0_queue x0_totals (-6) e26) rfl rfl (Nat.le_of_ble_eq_true rfl) (by decide) 0 0 rfl rfl rfl [0] [1] rfl (by decide +kernel) rfl rfl [1, 0] (by decide +kernel) (fun _ => rfl) (fun _ => rfl) rfl rfl rfl (fun _ => rfl) (fun _ => ?_)
            obtain rfl := Option.some.inj hf
            exact J_iret hK hR qd3_3.2.2.1 () rfl (by decide) (by decide)
        · have hf := ip hc79 hf
          refine J_aload_n hK qd3_2.2.2.2.2.2.2.2.1 rfl 1 rfl rfl ?_
          refine J_bipush (v := (-2)) hK qd3_2.2.2.2.2.2.2.2.2.1 rfl (by decide) ?_
          obtain ⟨⟨v27, g28⟩, e29, hf⟩ := bs hf
          have hf := un2 hf
          refine J_callV (m := 2) (m' := 2) (ce' := 0) (sl' := 0) (gr := [gridI d r0_line 20 7 x0_line]) (gs' := fun _ => [gMd d h0 a0_kept a0_tried a0_chosen r0_rows r0_line r0_good r0_work x0_shelf x0_rowSort x0_rowSize x0_moved x0_shown x0_tape x0_tapeSize g28 x0_lines x0_changes x0_coins x0_goods x0_works x0_years x0_gone x0_spent x0_at x0_token x0_from x0_figures x0_fault x0_numbers x0_statements x0_left x0_far x0_tons x0_way x0_steps x0_met x0_queue x0_totals, gridI d r0_line 20 7 x0_line]) (st' := fun _ => [.int v27]) (st := []) hK qd3_2.2.2.2.2.2.2.2.2.2.1 cv_RX7_94 iv_yX7_refuse (As := [.int (-2)]) (kX7_refuse _ d h0 r0_rows r0_line r0_good r0_work a0_kept a0_tried a0_chosen x0_shelf x0_rowSort x0_rowSize x0_rows x0_moved x0_shown x0_tape x0_tapeSize x0_refused x0_lines x0_line x0_changes x0_coins x0_goods x0_good x0_works x0_work x0_years x0_gone x0_spent x0_at x0_token x0_from x0_figures x0_fault x0_numbers x0_statements x0_left x0_far x0_tons x0_way x0_steps x0_met x0_queue x0_totals (-2) e29) rfl rfl (Nat.le_of_ble_eq_true rfl) (by decide) 0 0 rfl rfl rfl [0] [1] rfl (by decide +kernel) rfl rfl [1, 0] (by decide +kernel) (fun _ => rfl) (fun _ => rfl) rfl rfl rfl (fun _ => rfl) (fun _ => ?_)
          obtain rfl := Option.some.inj hf
          exact J_iret hK hR qd3_2.2.2.2.2.2.2.2.2.2.2.1 () rfl (by decide) (by decide)
  have j48 : fX7_line_j48 p1 p2 p3 p4 p5 p6 x0_shelf x0_rowSort x0_rowSize x0_rows x0_moved x0_shown x0_tape x0_tapeSize x0_refused x0_lines x0_line x0_changes x0_coins x0_goods x0_good x0_works x0_work x0_years x0_gone x0_spent x0_at x0_token x0_from x0_figures x0_fault x0_numbers x0_statements x0_left x0_far x0_tons x0_way x0_steps x0_met x0_queue x0_totals = some out → J d Φ 8 [gMd d h0 a0_kept a0_tried a0_chosen r0_rows r0_line r0_good r0_work x0_shelf x0_rowSort x0_rowSize x0_moved x0_shown x0_tape x0_tapeSize x0_refused x0_lines x0_changes x0_coins x0_goods x0_works x0_years x0_gone x0_spent x0_at x0_token x0_from x0_figures x0_fault x0_numbers x0_statements x0_left x0_far x0_tons x0_way x0_steps x0_met x0_queue x0_totals, gridI d r0_line 20 7 x0_line] 0 0 48 [(0, .ref (h0 0)), (1, .int p1), (2, .int p2), (3, .int p3), (4, .int p4), (5, .int p5), (6, .int p6)] [] := by
    intro  hf
    unfold fX7_line_j48 at hf
    refine J_iconst (v := 0) hK qd3_1.2.2.2.2.2.2.2.1 rfl (by decide) ?_
    exact (j49 (0) hf)
  refine J_if_eq (tg := 48) hK qd3_0.2.2.1 rfl rfl (fun hc4 => ?_) (fun hc4 => ?_)
  · have hf := ip hc4 hf
    exact (j48  hf)
  · have hf := iq hc4 hf
    refine J_iload_n hK qd3_0.2.2.2.1 rfl 2 rfl rfl ?_
    obtain ⟨v30, e31, hf⟩ := bs hf
    refine J_callS (m := 2) (m' := 2) (ce' := 0) (sl' := 0) (gr := [gMd d h0 a0_kept a0_tried a0_chosen r0_rows r0_line r0_good r0_work x0_shelf x0_rowSort x0_rowSize x0_moved x0_shown x0_tape x0_tapeSize x0_refused x0_lines x0_changes x0_coins x0_goods x0_works x0_years x0_gone x0_spent x0_at x0_token x0_from x0_figures x0_fault x0_numbers x0_statements x0_left x0_far x0_tons x0_way x0_steps x0_met x0_queue x0_totals, gridI d r0_line 20 7 x0_line]) (gs' := fun _ => [gMd d h0 a0_kept a0_tried a0_chosen r0_rows r0_line r0_good r0_work x0_shelf x0_rowSort x0_rowSize x0_moved x0_shown x0_tape x0_tapeSize x0_refused x0_lines x0_changes x0_coins x0_goods x0_works x0_years x0_gone x0_spent x0_at x0_token x0_from x0_figures x0_fault x0_numbers x0_statements x0_left x0_far x0_tons x0_way x0_steps x0_met x0_queue x0_totals, gridI d r0_line 20 7 x0_line]) (st' := fun _ => [.int v30]) (st := []) hK qd3_0.2.2.2.2.1 cv_RX7_112 ws_yX7_isPlace (As := [.int p2]) (kX7_isPlace _ d p2 e31) rfl rfl (Nat.le_of_ble_eq_true rfl) (by decide) [] [0, 1] rfl (by decide +kernel) rfl rfl [0, 1] (by decide +kernel) (fun _ => rfl) (fun _ => rfl) rfl rfl rfl (fun _ => rfl) (fun _ => ?_)
    refine J_if_eq (tg := 48) hK qd3_0.2.2.2.2.2.1 rfl rfl (fun hc11 => ?_) (fun hc11 => ?_)
    · have hf := ip hc11 hf
      exact (j48  hf)
    · have hf := iq hc11 hf
      refine J_iload_n hK qd3_0.2.2.2.2.2.2.1 rfl 1 rfl rfl ?_
      refine J_iload_n hK qd3_0.2.2.2.2.2.2.2.1 rfl 2 rfl rfl ?_
      refine J_icmp_eq (tg := 48) hK qd3_0.2.2.2.2.2.2.2.2.1 rfl rfl (fun hc16 => ?_) (fun hc16 => ?_)
      · have hf := ip hc16 hf
        exact (j48  hf)
      · have hf := iq hc16 hf
        refine J_iload_n hK qd3_0.2.2.2.2.2.2.2.2.2.1 rfl 3 rfl rfl ?_
        refine J_i2l hK qd3_0.2.2.2.2.2.2.2.2.2.2.1 rfl ?_
        refine J_lconst (v := 1) hK qd3_0.2.2.2.2.2.2.2.2.2.2.2.1 rfl (by decide) ?_
        refine J_ldc2 (v := (7 : Int64)) hK qd3_0.2.2.2.2.2.2.2.2.2.2.2.2.1 rfl wk_RX7_88 ?_
        obtain ⟨v32, e33, hf⟩ := bs hf
        refine J_callS (m := 2) (m' := 2) (ce' := 0) (sl' := 0) (gr := [gMd d h0 a0_kept a0_tried a0_chosen r0_rows r0_line r0_good r0_work x0_shelf x0_rowSort x0_rowSize x0_moved x0_shown x0_tape x0_tapeSize x0_refused x0_lines x0_changes x0_coins x0_goods x0_works x0_years x0_gone x0_spent x0_at x0_token x0_from x0_figures x0_fault x0_numbers x0_statements x0_left x0_far x0_tons x0_way x0_steps x0_met x0_queue x0_totals, gridI d r0_line 20 7 x0_line]) (gs' := fun _ => [gMd d h0 a0_kept a0_tried a0_chosen r0_rows r0_line r0_good r0_work x0_shelf x0_rowSort x0_rowSize x0_moved x0_shown x0_tape x0_tapeSize x0_refused x0_lines x0_changes x0_coins x0_goods x0_works x0_years x0_gone x0_spent x0_at x0_token x0_from x0_figures x0_fault x0_numbers x0_statements x0_left x0_far x0_tons x0_way x0_steps x0_met x0_queue x0_totals, gridI d r0_line 20 7 x0_line]) (st' := fun _ => [.int v32]) (st := []) hK qd3_0.2.2.2.2.2.2.2.2.2.2.2.2.2.1 cv_RX7_78 ws_yX7_in (As := [.long ((p3).toInt64), .long (1 : Int64), .long (7 : Int64)]) (kX7_in _ d ((p3).toInt64) (1 : Int64) (7 : Int64) e33) rfl rfl (Nat.le_of_ble_eq_true rfl) (by decide) [] [0, 1] rfl (by decide +kernel) rfl rfl [0, 1] (by decide +kernel) (fun _ => rfl) (fun _ => rfl) rfl rfl rfl (fun _ => rfl) (fun _ => ?_)
        refine J_if_eq (tg := 48) hK qd3_0.2.2.2.2.2.2.2.2.2.2.2.2.2.2.1 rfl rfl (fun hc28 => ?_) (fun hc28 => ?_)
        · have hf := ip hc28 hf
          exact (j48  hf)
        · have hf := iq hc28 hf
          refine J_iload hK qd3_0.2.2.2.2.2.2.2.2.2.2.2.2.2.2.2.1 rfl 4 rfl ?_
          refine J_i2l hK qd3_1.1 rfl ?_
          refine J_lconst (v := 1) hK qd3_1.2.1 rfl (by decide) ?_
          refine J_ldc2 (v := (60 : Int64)) hK qd3_1.2.2.1 rfl wk_RX7_115 ?_
          obtain ⟨v34, e35, hf⟩ := bs hf
          refine J_callS (m := 2) (m' := 2) (ce' := 0) (sl' := 0) (gr := [gMd d h0 a0_kept a0_tried a0_chosen r0_rows r0_line r0_good r0_work x0_shelf x0_rowSort x0_rowSize x0_moved x0_shown x0_tape x0_tapeSize x0_refused x0_lines x0_changes x0_coins x0_goods x0_works x0_years x0_gone x0_spent x0_at x0_token x0_from x0_figures x0_fault x0_numbers x0_statements x0_left x0_far x0_tons x0_way x0_steps x0_met x0_queue x0_totals, gridI d r0_line 20 7 x0_line]) (gs' := fun _ => [gMd d h0 a0_kept a0_tried a0_chosen r0_rows r0_line r0_good r0_work x0_shelf x0_rowSort x0_rowSize x0_moved x0_shown x0_tape x0_tapeSize x0_refused x0_lines x0_changes x0_coins x0_goods x0_works x0_years x0_gone x0_spent x0_at x0_token x0_from x0_figures x0_fault x0_numbers x0_statements x0_left x0_far x0_tons x0_way x0_steps x0_met x0_queue x0_totals, gridI d r0_line 20 7 x0_line]) (st' := fun _ => [.int v34]) (st := []) hK qd3_1.2.2.2.1 cv_RX7_78 ws_yX7_in (As := [.long ((p4).toInt64), .long (1 : Int64), .long (60 : Int64)]) (kX7_in _ d ((p4).toInt64) (1 : Int64) (60 : Int64) e35) rfl rfl (Nat.le_of_ble_eq_true rfl) (by decide) [] [0, 1] rfl (by decide +kernel) rfl rfl [0, 1] (by decide +kernel) (fun _ => rfl) (fun _ => rfl) rfl rfl rfl (fun _ => rfl) (fun _ => ?_)
          refine J_if_eq (tg := 48) hK qd3_1.2.2.2.2.1 rfl rfl (fun hc41 => ?_) (fun hc41 => ?_)
          · have hf := ip hc41 hf
            exact (j48  hf)
          · have hf := iq hc41 hf
            refine J_iconst (v := 1) hK qd3_1.2.2.2.2.2.1 rfl (by decide) ?_
            refine J_goto hK qd3_1.2.2.2.2.2.2.1 (n := 49) rfl ?_
            exact (j49 (1) hf)

def fX7_goods (X0 : MdT) (p1 : Int32) (p2 : Int32) (p3 : Int32) : Option (Int32 × (Nat → Int32) × Int32 × (Nat → Nat → Int32)) :=
  u35 (fun (x0_shelf : (Nat → Int32)) (x0_rowSort : (Nat → Int32)) (x0_rowSize : (Nat → Int32)) (x0_rows : (Nat → Nat → Int64)) (x0_moved : (Nat → Int64)) (x0_shown : (Nat → Int32)) (x0_tape : (Nat → Int32)) (x0_tapeSize : Int32) (x0_refused : (Nat → Int32)) (x0_lines : Int32) (x0_line : (Nat → Nat → Int32)) (x0_changes : (Nat → Int32)) (x0_coins : (Nat → Int32)) (x0_goods : Int32) (x0_good : (Nat → Nat → Int32)) (x0_works : Int32) (x0_work : (Nat → Nat → Int32)) (x0_years : Int32) (x0_gone : Int32) (x0_spent : Int32) (x0_at : Int32) (x0_token : Int32) (x0_from : Int32) (x0_figures : Int64) (x0_fault : Int32) (x0_numbers : (Nat → Int32)) (x0_statements : Int32) (x0_left : (Nat → Int32)) (x0_far : (Nat → Int32)) (x0_tons : Int32) (x0_way : (Nat → Int32)) (x0_steps : Int32) (x0_met : Int64) (x0_queue : (Nat → Int32)) (x0_totals : (Nat → Int32)) => (fX7_isPlace p1).bind (fun v1 => if v1 = 0 then ((fX7_refuse (x0_shelf, x0_rowSort, x0_rowSize, x0_rows, x0_moved, x0_shown, x0_tape, x0_tapeSize, x0_refused, x0_lines, x0_line, x0_changes, x0_coins, x0_goods, x0_good, x0_works, x0_work, x0_years, x0_gone, x0_spent, x0_at, x0_token, x0_from, x0_figures, x0_fault, x0_numbers, x0_statements, x0_left, x0_far, x0_tons, x0_way, x0_steps, x0_met, x0_queue, x0_totals) (-2)).bind (u2 fun v3 g4 => some (v3, g4, x0_goods, x0_good))) else ((fX7_isPlace p2).bind (fun v6 => if v6 = 0 then ((fX7_refuse (x0_shelf, x0_rowSort, x0_rowSize, x0_rows, x0_moved, x0_shown, x0_tape, x0_tapeSize, x0_refused, x0_lines, x0_line, x0_changes, x0_coins, x0_goods, x0_good, x0_works, x0_work, x0_years, x0_gone, x0_spent, x0_at, x0_token, x0_from, x0_figures, x0_fault, x0_numbers, x0_statements, x0_left, x0_far, x0_tons, x0_way, x0_steps, x0_met, x0_queue, x0_totals) (-2)).bind (u2 fun v8 g9 => some (v8, g9, x0_goods, x0_good))) else (if p1 = p2 then ((fX7_refuse (x0_shelf, x0_rowSort, x0_rowSize, x0_rows, x0_moved, x0_shown, x0_tape, x0_tapeSize, x0_refused, x0_lines, x0_line, x0_changes, x0_coins, x0_goods, x0_good, x0_works, x0_work, x0_years, x0_gone, x0_spent, x0_at, x0_token, x0_from, x0_figures, x0_fault, x0_numbers, x0_statements, x0_left, x0_far, x0_tons, x0_way, x0_steps, x0_met, x0_queue, x0_totals) (-2)).bind (u2 fun v11 g12 => some (v11, g12, x0_goods, x0_good))) else ((fX7_in ((p3).toInt64) (1 : Int64) (99 : Int64)).bind (fun v14 => if v14 = 0 then ((fX7_refuse (x0_shelf, x0_rowSort, x0_rowSize, x0_rows, x0_moved, x0_shown, x0_tape, x0_tapeSize, x0_refused, x0_lines, x0_line, x0_changes, x0_coins, x0_goods, x0_good, x0_works, x0_work, x0_years, x0_gone, x0_spent, x0_at, x0_token, x0_from, x0_figures, x0_fault, x0_numbers, x0_statements, x0_left, x0_far, x0_tons, x0_way, x0_steps, x0_met, x0_queue, x0_totals) (-2)).bind (u2 fun v25 g26 => some (v25, g26, x0_goods, x0_good))) else (if x0_goods = 8 then ((fX7_refuse (x0_shelf, x0_rowSort, x0_rowSize, x0_rows, x0_moved, x0_shown, x0_tape, x0_tapeSize, x0_refused, x0_lines, x0_line, x0_changes, x0_coins, x0_goods, x0_good, x0_works, x0_work, x0_years, x0_gone, x0_spent, x0_at, x0_token, x0_from, x0_figures, x0_fault, x0_numbers, x0_statements, x0_left, x0_far, x0_tons, x0_way, x0_steps, x0_met, x0_queue, x0_totals) (-6)).bind (u2 fun v22 g23 => some (v22, g23, x0_goods, x0_good))) else ((ck x0_goods 8).bind fun q16 => (wr 3 (x0_good q16) (0) p1).bind fun f17 => (ck x0_goods 8).bind fun q18 => (wr 3 ((va_up x0_good q16 f17) q18) (1) p2).bind fun f19 => (ck x0_goods 8).bind fun q20 => (wr 3 ((va_up (va_up x0_good q16 f17) q18 f19) q20) (2) p3).bind fun f21 => some (x0_goods, x0_refused, (x0_goods + 1), (va_up (va_up (va_up x0_good q16 f17) q18 f19) q20 f21))))))))))) X0
set_option maxHeartbeats 4000000 in
set_option maxRecDepth 100000 in
theorem kX7_goods (l : Launch) (d : DT) (h0 : Nat → Nat) (r0_rows : Nat → Nat) (r0_line : Nat → Nat) (r0_good : Nat → Nat) (r0_work : Nat → Nat) (a0_kept : Option Nat) (a0_tried : Option Nat) (a0_chosen : Option Nat) (x0_shelf : (Nat → Int32)) (x0_rowSort : (Nat → Int32)) (x0_rowSize : (Nat → Int32)) (x0_rows : (Nat → Nat → Int64)) (x0_moved : (Nat → Int64)) (x0_shown : (Nat → Int32)) (x0_tape : (Nat → Int32)) (x0_tapeSize : Int32) (x0_refused : (Nat → Int32)) (x0_lines : Int32) (x0_line : (Nat → Nat → Int32)) (x0_changes : (Nat → Int32)) (x0_coins : (Nat → Int32)) (x0_goods : Int32) (x0_good : (Nat → Nat → Int32)) (x0_works : Int32) (x0_work : (Nat → Nat → Int32)) (x0_years : Int32) (x0_gone : Int32) (x0_spent : Int32) (x0_at : Int32) (x0_token : Int32) (x0_from : Int32) (x0_figures : Int64) (x0_fault : Int32) (x0_numbers : (Nat → Int32)) (x0_statements : Int32) (x0_left : (Nat → Int32)) (x0_far : (Nat → Int32)) (x0_tons : Int32) (x0_way : (Nat → Int32)) (x0_steps : Int32) (x0_met : Int64) (x0_queue : (Nat → Int32)) (x0_totals : (Nat → Int32)) (p1 : Int32) (p2 : Int32) (p3 : Int32)  {out : Int32 × (Nat → Int32) × Int32 × (Nat → Nat → Int32)} (hf : fX7_goods (x0_shelf, x0_rowSort, x0_rowSize, x0_rows, x0_moved, x0_shown, x0_tape, x0_tapeSize, x0_refused, x0_lines, x0_line, x0_changes, x0_coins, x0_goods, x0_good, x0_works, x0_work, x0_years, x0_gone, x0_spent, x0_at, x0_token, x0_from, x0_figures, x0_fault, x0_numbers, x0_statements, x0_left, x0_far, x0_tons, x0_way, x0_steps, x0_met, x0_queue, x0_totals) p1 p2 p3 = some out) : Ct l d yX7_goods cX7_goods 4 (some .int) { frames := 2, cells := 0, slots := 0, locals := 45 } [.ref (h0 0), .int p1, .int p2, .int p3] [gMd d h0 a0_kept a0_tried a0_chosen r0_rows r0_line r0_good r0_work x0_shelf x0_rowSort x0_rowSize x0_moved x0_shown x0_tape x0_tapeSize x0_refused x0_lines x0_changes x0_coins x0_goods x0_works x0_years x0_gone x0_spent x0_at x0_token x0_from x0_figures x0_fault x0_numbers x0_statements x0_left x0_far x0_tons x0_way x0_steps x0_met x0_queue x0_totals, gridI d r0_good 8 3 x0_good] (fun _ : Unit => (some (.int out.1), [gMd d h0 a0_kept a0_tried a0_chosen r0_rows r0_line r0_good r0_work x0_shelf x0_rowSort x0_rowSize x0_moved x0_shown x0_tape x0_tapeSize (out.2.1) x0_lines x0_changes x0_coins (out.2.2.1) x0_works x0_years x0_gone x0_spent x0_at x0_token x0_from x0_figures x0_fault x0_numbers x0_statements x0_left x0_far x0_tons x0_way x0_steps x0_met x0_queue x0_totals, gridI d r0_good 8 3 (out.2.2.2)])) := by
  refine Ct.of (by decide) (Nat.le_of_ble_eq_true rfl) ?_
  intro Φ hl hK hR
  subst hl
  have hK : Ok d Φ RX7 "goods" cX7_goods 4 (some .int) { frames := 2, cells := 0, slots := 0, locals := 45 } := hK
  unfold fX7_goods at hf
  have hf := un35 hf
  show J d Φ 4 [gMd d h0 a0_kept a0_tried a0_chosen r0_rows r0_line r0_good r0_work x0_shelf x0_rowSort x0_rowSize x0_moved x0_shown x0_tape x0_tapeSize x0_refused x0_lines x0_changes x0_coins x0_goods x0_works x0_years x0_gone x0_spent x0_at x0_token x0_from x0_figures x0_fault x0_numbers x0_statements x0_left x0_far x0_tons x0_way x0_steps x0_met x0_queue x0_totals, gridI d r0_good 8 3 x0_good] 0 0 0 [(0, .ref (h0 0)), (1, .int p1), (2, .int p2), (3, .int p3)] []
  refine J_iload_n hK qd3_6.1 rfl 1 rfl rfl ?_
  obtain ⟨v1, e2, hf⟩ := bs hf
  refine J_callS (m := 2) (m' := 2) (ce' := 0) (sl' := 0) (gr := [gMd d h0 a0_kept a0_tried a0_chosen r0_rows r0_line r0_good r0_work x0_shelf x0_rowSort x0_rowSize x0_moved x0_shown x0_tape x0_tapeSize x0_refused x0_lines x0_changes x0_coins x0_goods x0_works x0_years x0_gone x0_spent x0_at x0_token x0_from x0_figures x0_fault x0_numbers x0_statements x0_left x0_far x0_tons x0_way x0_steps x0_met x0_queue x0_totals, gridI d r0_good 8 3 x0_good]) (gs' := fun _ => [gMd d h0 a0_kept a0_tried a0_chosen r0_rows r0_line r0_good r0_work x0_shelf x0_rowSort x0_rowSize x0_moved x0_shown x0_tape x0_tapeSize x0_refused x0_lines x0_changes x0_coins x0_goods x0_works x0_years x0_gone x0_spent x0_at x0_token x0_from x0_figures x0_fault x0_numbers x0_statements x0_left x0_far x0_tons x0_way x0_steps x0_met x0_queue x0_totals, gridI d r0_good 8 3 x0_good]) (st' := fun _ => [.int v1]) (st := []) hK qd3_6.2.1 cv_RX7_112 ws_yX7_isPlace (As := [.int p1]) (kX7_isPlace _ d p1 e2) rfl rfl (Nat.le_of_ble_eq_true rfl) (by decide) [] [0, 1] rfl (by decide +kernel) rfl rfl [0, 1] (by decide +kernel) (fun _ => rfl) (fun _ => rfl) rfl rfl rfl (fun _ => rfl) (fun _ => ?_)
  refine J_if_eq (tg := 31) hK qd3_6.2.2.1 rfl rfl (fun hc4 => ?_) (fun hc4 => ?_)
  · have hf := ip hc4 hf
    refine J_aload_n hK qd3_6.2.2.2.2.2.2.2.2.2.2.2.2.2.2.2.1 rfl 0 rfl rfl ?_
    refine J_bipush (v := (-2)) hK qd3_7.1 rfl (by decide) ?_
    obtain ⟨⟨v3, g4⟩, e5, hf⟩ := bs hf
    have hf := un2 hf
    refine J_callV (m := 2) (m' := 2) (ce' := 0) (sl' := 0) (gr := [gridI d r0_good 8 3 x0_good]) (gs' := fun _ => [gMd d h0 a0_kept a0_tried a0_chosen r0_rows r0_line r0_good r0_work x0_shelf x0_rowSort x0_rowSize x0_moved x0_shown x0_tape x0_tapeSize g4 x0_lines x0_changes x0_coins x0_goods x0_works x0_years x0_gone x0_spent x0_at x0_token x0_from x0_figures x0_fault x0_numbers x0_statements x0_left x0_far x0_tons x0_way x0_steps x0_met x0_queue x0_totals, gridI d r0_good 8 3 x0_good]) (st' := fun _ => [.int v3]) (st := []) hK qd3_7.2.1 cv_RX7_94 iv_yX7_refuse (As := [.int (-2)]) (kX7_refuse _ d h0 r0_rows r0_line r0_good r0_work a0_kept a0_tried a0_chosen x0_shelf x0_rowSort x0_rowSize x0_rows x0_moved x0_shown x0_tape x0_tapeSize x0_refused x0_lines x0_line x0_changes x0_coins x0_goods x0_good x0_works x0_work x0_years x0_gone x0_spent x0_at x0_token x0_from x0_figures x0_fault x0_numbers x0_statements x0_left x0_far x0_tons x0_way x0_steps x0_met x0_queue x0_totals (-2) e5) rfl rfl (Nat.le_of_ble_eq_true rfl) (by decide) 0 0 rfl rfl rfl [0] [1] rfl (by decide +kernel) rfl rfl [1, 0] (by decide +kernel) (fun _ => rfl) (fun _ => rfl) rfl rfl rfl (fun _ => rfl) (fun _ => ?_)
    obtain rfl := Option.some.inj hf
    exact J_iret hK hR qd3_7.2.2.1 () rfl (by decide) (by decide)
  · have hf := iq hc4 hf
    refine J_iload_n hK qd3_6.2.2.2.1 rfl 2 rfl rfl ?_
    obtain ⟨v6, e7, hf⟩ := bs hf
    refine J_callS (m := 2) (m' := 2) (ce' := 0) (sl' := 0) (gr := [gMd d h0 a0_kept a0_tried a0_chosen r0_rows r0_line r0_good r0_work x0_shelf x0_rowSort x0_rowSize x0_moved x0_shown x0_tape x0_tapeSize x0_refused x0_lines x0_changes x0_coins x0_goods x0_works x0_years x0_gone x0_spent x0_at x0_token x0_from x0_figures x0_fault x0_numbers x0_statements x0_left x0_far x0_tons x0_way x0_steps x0_met x0_queue x0_totals, gridI d r0_good 8 3 x0_good]) (gs' := fun _ => [gMd d h0 a0_kept a0_tried a0_chosen r0_rows r0_line r0_good r0_work x0_shelf x0_rowSort x0_rowSize x0_moved x0_shown x0_tape x0_tapeSize x0_refused x0_lines x0_changes x0_coins x0_goods x0_works x0_years x0_gone x0_spent x0_at x0_token x0_from x0_figures x0_fault x0_numbers x0_statements x0_left x0_far x0_tons x0_way x0_steps x0_met x0_queue x0_totals, gridI d r0_good 8 3 x0_good]) (st' := fun _ => [.int v6]) (st := []) hK qd3_6.2.2.2.2.1 cv_RX7_112 ws_yX7_isPlace (As := [.int p2]) (kX7_isPlace _ d p2 e7) rfl rfl (Nat.le_of_ble_eq_true rfl) (by decide) [] [0, 1] rfl (by decide +kernel) rfl rfl [0, 1] (by decide +kernel) (fun _ => rfl) (fun _ => rfl) rfl rfl rfl (fun _ => rfl) (fun _ => ?_)
    refine J_if_eq (tg := 31) hK qd3_6.2.2.2.2.2.1 rfl rfl (fun hc11 => ?_) (fun hc11 => ?_)
    · have hf := ip hc11 hf
      refine J_aload_n hK qd3_6.2.2.2.2.2.2.2.2.2.2.2.2.2.2.2.1 rfl 0 rfl rfl ?_
      refine J_bipush (v := (-2)) hK qd3_7.1 rfl (by decide) ?_
      obtain ⟨⟨v8, g9⟩, e10, hf⟩ := bs hf
      have hf := un2 hf
      refine J_callV (m := 2) (m' := 2) (ce' := 0) (sl' := 0) (gr := [gridI d r0_good 8 3 x0_good]) (gs' := fun _ => [gMd d h0 a0_kept a0_tried a0_chosen r0_rows r0_line r0_good r0_work x0_shelf x0_rowSort x0_rowSize x0_moved x0_shown x0_tape x0_tapeSize g9 x0_lines x0_changes x0_coins x0_goods x0_works x0_years x0_gone x0_spent x0_at x0_token x0_from x0_figures x0_fault x0_numbers x0_statements x0_left x0_far x0_tons x0_way x0_steps x0_met x0_queue x0_totals, gridI d r0_good 8 3 x0_good]) (st' := fun _ => [.int v8]) (st := []) hK qd3_7.2.1 cv_RX7_94 iv_yX7_refuse (As := [.int (-2)]) (kX7_refuse _ d h0 r0_rows r0_line r0_good r0_work a0_kept a0_tried a0_chosen x0_shelf x0_rowSort x0_rowSize x0_rows x0_moved x0_shown x0_tape x0_tapeSize x0_refused x0_lines x0_line x0_changes x0_coins x0_goods x0_good x0_works x0_work x0_years x0_gone x0_spent x0_at x0_token x0_from x0_figures x0_fault x0_numbers x0_statements x0_left x0_far x0_tons x0_way x0_steps x0_met x0_queue x0_totals (-2) e10) rfl rfl (Nat.le_of_ble_eq_true rfl) (by decide) 0 0 rfl rfl rfl [0] [1] rfl (by decide +kernel) rfl rfl [1, 0] (by decide +kernel) (fun _ => rfl) (fun _ => rfl) rfl rfl rfl (fun _ => rfl) (fun _ => ?_)
      obtain rfl := Option.some.inj hf
      exact J_iret hK hR qd3_7.2.2.1 () rfl (by decide) (by decide)
    · have hf := iq hc11 hf
      refine J_iload_n hK qd3_6.2.2.2.2.2.2.1 rfl 1 rfl rfl ?_
      refine J_iload_n hK qd3_6.2.2.2.2.2.2.2.1 rfl 2 rfl rfl ?_
      refine J_icmp_eq (tg := 31) hK qd3_6.2.2.2.2.2.2.2.2.1 rfl rfl (fun hc16 => ?_) (fun hc16 => ?_)
      · have hf := ip hc16 hf
        refine J_aload_n hK qd3_6.2.2.2.2.2.2.2.2.2.2.2.2.2.2.2.1 rfl 0 rfl rfl ?_
        refine J_bipush (v := (-2)) hK qd3_7.1 rfl (by decide) ?_
        obtain ⟨⟨v11, g12⟩, e13, hf⟩ := bs hf
        have hf := un2 hf
        refine J_callV (m := 2) (m' := 2) (ce' := 0) (sl' := 0) (gr := [gridI d r0_good 8 3 x0_good]) (gs' := fun _ => [gMd d h0 a0_kept a0_tried a0_chosen r0_rows r0_line r0_good r0_work x0_shelf x0_rowSort x0_rowSize x0_moved x0_shown x0_tape x0_tapeSize g12 x0_lines x0_changes x0_coins x0_goods x0_works x0_years x0_gone x0_spent x0_at x0_token x0_from x0_figures x0_fault x0_numbers x0_statements x0_left x0_far x0_tons x0_way x0_steps x0_met x0_queue x0_totals, gridI d r0_good 8 3 x0_good]) (st' := fun _ => [.int v11]) (st := []) hK qd3_7.2.1 cv_RX7_94 iv_yX7_refuse (As := [.int (-2)]) (kX7_refuse _ d h0 r0_rows r0_line r0_good r0_work a0_kept a0_tried a0_chosen x0_shelf x0_rowSort x0_rowSize x0_rows x0_moved x0_shown x0_tape x0_tapeSize x0_refused x0_lines x0_line x0_changes x0_coins x0_goods x0_good x0_works x0_work x0_years x0_gone x0_spent x0_at x0_token x0_from x0_figures x0_fault x0_numbers x0_statements x0_left x0_far x0_tons x0_way x0_steps x0_met x0_queue x0_totals (-2) e13) rfl rfl (Nat.le_of_ble_eq_true rfl) (by decide) 0 0 rfl rfl rfl [0] [1] rfl (by decide +kernel) rfl rfl [1, 0] (by decide +kernel) (fun _ => rfl) (fun _ => rfl) rfl rfl rfl (fun _ => rfl) (fun _ => ?_)
        obtain rfl := Option.some.inj hf
        exact J_iret hK hR qd3_7.2.2.1 () rfl (by decide) (by decide)
      · have hf := iq hc16 hf
        refine J_iload_n hK qd3_6.2.2.2.2.2.2.2.2.2.1 rfl 3 rfl rfl ?_
        refine J_i2l hK qd3_6.2.2.2.2.2.2.2.2.2.2.1 rfl ?_
        refine J_lconst (v := 1) hK qd3_6.2.2.2.2.2.2.2.2.2.2.2.1 rfl (by decide) ?_
        refine J_ldc2 (v := (99 : Int64)) hK qd3_6.2.2.2.2.2.2.2.2.2.2.2.2.1 rfl wk_RX7_123 ?_
        obtain ⟨v14, e15, hf⟩ := bs hf
        refine J_callS (m := 2) (m' := 2) (ce' := 0) (sl' := 0) (gr := [gMd d h0 a0_kept a0_tried a0_chosen r0_rows r0_line r0_good r0_work x0_shelf x0_rowSort x0_rowSize x0_moved x0_shown x0_tape x0_tapeSize x0_refused x0_lines x0_changes x0_coins x0_goods x0_works x0_years x0_gone x0_spent x0_at x0_token x0_from x0_figures x0_fault x0_numbers x0_statements x0_left x0_far x0_tons x0_way x0_steps x0_met x0_queue x0_totals, gridI d r0_good 8 3 x0_good]) (gs' := fun _ => [gMd d h0 a0_kept a0_tried a0_chosen r0_rows r0_line r0_good r0_work x0_shelf x0_rowSort x0_rowSize x0_moved x0_shown x0_tape x0_tapeSize x0_refused x0_lines x0_changes x0_coins x0_goods x0_works x0_years x0_gone x0_spent x0_at x0_token x0_from x0_figures x0_fault x0_numbers x0_statements x0_left x0_far x0_tons x0_way x0_steps x0_met x0_queue x0_totals, gridI d r0_good 8 3 x0_good]) (st' := fun _ => [.int v14]) (st := []) hK qd3_6.2.2.2.2.2.2.2.2.2.2.2.2.2.1 cv_RX7_78 ws_yX7_in (As := [.long ((p3).toInt64), .long (1 : Int64), .long (99 : Int64)]) (kX7_in _ d ((p3).toInt64) (1 : Int64) (99 : Int64) e15) rfl rfl (Nat.le_of_ble_eq_true rfl) (by decide) [] [0, 1] rfl (by decide +kernel) rfl rfl [0, 1] (by decide +kernel) (fun _ => rfl) (fun _ => rfl) rfl rfl rfl (fun _ => rfl) (fun _ => ?_)
        refine J_if_ne (tg := 38) hK qd3_6.2.2.2.2.2.2.2.2.2.2.2.2.2.2.1 rfl rfl (fun hc28 => ?_) (fun hc28 => ?_)
        · have hf := iq hc28 hf
          refine J_aload_n hK qd3_7.2.2.2.1 rfl 0 rfl rfl ?_
          refine J_get hK fo_RX7_125 qd3_7.2.2.2.2.1 rfl 0 0 rfl rfl rfl ?_
          refine J_bipush (v := 8) hK qd3_7.2.2.2.2.2.1 rfl (by decide) ?_
          refine J_icmp_ne (tg := 54) hK qd3_7.2.2.2.2.2.2.1 rfl rfl (fun hc44 => ?_) (fun hc44 => ?_)
          · have hf := iq hc44 hf
            refine J_aload_n hK qd3_7.2.2.2.2.2.2.2.2.2.2.2.1 rfl 0 rfl rfl ?_
            refine J_get hK fo_RX7_48 qd3_7.2.2.2.2.2.2.2.2.2.2.2.2.1 rfl 0 0 rfl rfl rfl ?_
            refine J_aload_n hK qd3_7.2.2.2.2.2.2.2.2.2.2.2.2.2.1 rfl 0 rfl rfl ?_
            refine J_get hK fo_RX7_125 qd3_7.2.2.2.2.2.2.2.2.2.2.2.2.2.2.1 rfl 0 0 rfl rfl rfl ?_
            obtain ⟨q16, eq16, hf⟩ := bs hf
            refine J_aald hK qd3_7.2.2.2.2.2.2.2.2.2.2.2.2.2.2.2.1 rfl 0 12 rfl rfl rfl eq16 ?_
            refine J_iconst (v := 0) hK qd3_8.1 rfl (by decide) ?_
            refine J_iload_n hK qd3_8.2.1 rfl 1 rfl rfl ?_
            obtain ⟨f17, ef17, hf⟩ := bs hf
            refine J_iast (g' := gridI d r0_good 8 3 (va_up x0_good q16 f17)) (gs' := [gMd d h0 a0_kept a0_tried a0_chosen r0_rows r0_line r0_good r0_work x0_shelf x0_rowSort x0_rowSize x0_moved x0_shown x0_tape x0_tapeSize x0_refused x0_lines x0_changes x0_coins x0_goods x0_works x0_years x0_gone x0_spent x0_at x0_token x0_from x0_figures x0_fault x0_numbers x0_statements x0_left x0_far x0_tons x0_way x0_steps x0_met x0_queue x0_totals, gridI d r0_good 8 3 (va_up x0_good q16 f17)]) hK qd3_8.2.2.1 rfl 1 q16 rfl (gridI_at (ck_ok eq16).2.2) ef17 gridI_set rfl ?_
            refine J_aload_n hK qd3_8.2.2.2.1 rfl 0 rfl rfl ?_
            refine J_get hK fo_RX7_48 qd3_8.2.2.2.2.1 rfl 0 0 rfl rfl rfl ?_
            refine J_aload_n hK qd3_8.2.2.2.2.2.1 rfl 0 rfl rfl ?_
            refine J_get hK fo_RX7_125 qd3_8.2.2.2.2.2.2.1 rfl 0 0 rfl rfl rfl ?_
            obtain ⟨q18, eq18, hf⟩ := bs hf
            refine J_aald hK qd3_8.2.2.2.2.2.2.2.1 rfl 0 12 rfl rfl rfl eq18 ?_
            refine J_iconst (v := 1) hK qd3_8.2.2.2.2.2.2.2.2.1 rfl (by decide) ?_
            refine J_iload_n hK qd3_8.2.2.2.2.2.2.2.2.2.1 rfl 2 rfl rfl ?_
            obtain ⟨f19, ef19, hf⟩ := bs hf
            refine J_iast (g' := gridI d r0_good 8 3 (va_up (va_up x0_good q16 f17) q18 f19)) (gs' := [gMd d h0 a0_kept a0_tried a0_chosen r0_rows r0_line r0_good r0_work x0_shelf x0_rowSort x0_rowSize x0_moved x0_shown x0_tape x0_tapeSize x0_refused x0_lines x0_changes x0_coins x0_goods x0_works x0_years x0_gone x0_spent x0_at x0_token x0_from x0_figures x0_fault x0_numbers x0_statements x0_left x0_far x0_tons x0_way x0_steps x0_met x0_queue x0_totals, gridI d r0_good 8 3 (va_up (va_up x0_good q16 f17) q18 f19)]) hK qd3_8.2.2.2.2.2.2.2.2.2.2.1 rfl 1 q18 rfl (gridI_at (ck_ok eq18).2.2) ef19 gridI_set rfl ?_
            refine J_aload_n hK qd3_8.2.2.2.2.2.2.2.2.2.2.2.1 rfl 0 rfl rfl ?_
            refine J_get hK fo_RX7_48 qd3_8.2.2.2.2.2.2.2.2.2.2.2.2.1 rfl 0 0 rfl rfl rfl ?_
            refine J_aload_n hK qd3_8.2.2.2.2.2.2.2.2.2.2.2.2.2.1 rfl 0 rfl rfl ?_
            refine J_get hK fo_RX7_125 qd3_8.2.2.2.2.2.2.2.2.2.2.2.2.2.2.1 rfl 0 0 rfl rfl rfl ?_
            obtain ⟨q20, eq20, hf⟩ := bs hf
            refine J_aald hK qd3_8.2.2.2.2.2.2.2.2.2.2.2.2.2.2.2.1 rfl 0 12 rfl rfl rfl eq20 ?_
            refine J_iconst (v := 2) hK qd3_9.1 rfl (by decide) ?_
            refine J_iload_n hK qd3_9.2.1 rfl 3 rfl rfl ?_
            obtain ⟨f21, ef21, hf⟩ := bs hf
            refine J_iast (g' := gridI d r0_good 8 3 (va_up (va_up (va_up x0_good q16 f17) q18 f19) q20 f21)) (gs' := [gMd d h0 a0_kept a0_tried a0_chosen r0_rows r0_line r0_good r0_work x0_shelf x0_rowSort x0_rowSize x0_moved x0_shown x0_tape x0_tapeSize x0_refused x0_lines x0_changes x0_coins x0_goods x0_works x0_years x0_gone x0_spent x0_at x0_token x0_from x0_figures x0_fault x0_numbers x0_statements x0_left x0_far x0_tons x0_way x0_steps x0_met x0_queue x0_totals, gridI d r0_good 8 3 (va_up (va_up (va_up x0_good q16 f17) q18 f19) q20 f21)]) hK qd3_9.2.2.1 rfl 1 q20 rfl (gridI_at (ck_ok eq20).2.2) ef21 gridI_set rfl ?_
            refine J_aload_n hK qd3_9.2.2.2.1 rfl 0 rfl rfl ?_
            refine J_dup hK qd3_9.2.2.2.2.1 rfl rfl ?_
            refine J_get hK fo_RX7_125 qd3_9.2.2.2.2.2.1 rfl 0 0 rfl rfl rfl ?_
            refine J_dup_x1 hK qd3_9.2.2.2.2.2.2.1 rfl rfl rfl ?_
            refine J_iconst (v := 1) hK qd3_9.2.2.2.2.2.2.2.1 rfl (by decide) ?_
            refine J_iadd hK qd3_9.2.2.2.2.2.2.2.2.1 rfl ?_
            refine J_put (g' := gMd d h0 a0_kept a0_tried a0_chosen r0_rows r0_line r0_good r0_work x0_shelf x0_rowSort x0_rowSize x0_moved x0_shown x0_tape x0_tapeSize x0_refused x0_lines x0_changes x0_coins (x0_goods + 1) x0_works x0_years x0_gone x0_spent x0_at x0_token x0_from x0_figures x0_fault x0_numbers x0_statements x0_left x0_far x0_tons x0_way x0_steps x0_met x0_queue x0_totals) (gs' := [gMd d h0 a0_kept a0_tried a0_chosen r0_rows r0_line r0_good r0_work x0_shelf x0_rowSort x0_rowSize x0_moved x0_shown x0_tape x0_tapeSize x0_refused x0_lines x0_changes x0_coins (x0_goods + 1) x0_works x0_years x0_gone x0_spent x0_at x0_token x0_from x0_figures x0_fault x0_numbers x0_statements x0_left x0_far x0_tons x0_way x0_steps x0_met x0_queue x0_totals, gridI d r0_good 8 3 (va_up (va_up (va_up x0_good q16 f17) q18 f19) q20 f21)]) hK fp_RX7_125 qd3_9.2.2.2.2.2.2.2.2.2.1 rfl 0 0 rfl rfl rfl rfl (Nat.le_of_ble_eq_true rfl) rfl rfl ?_
            obtain rfl := Option.some.inj hf
            exact J_iret hK hR qd3_9.2.2.2.2.2.2.2.2.2.2.1 () rfl (by decide) (by decide)
          · have hf := ip hc44 hf
            refine J_aload_n hK qd3_7.2.2.2.2.2.2.2.1 rfl 0 rfl rfl ?_
            refine J_bipush (v := (-6)) hK qd3_7.2.2.2.2.2.2.2.2.1 rfl (by decide) ?_
            obtain ⟨⟨v22, g23⟩, e24, hf⟩ := bs hf
            have hf := un2 hf
            refine J_callV (m := 2) (m' := 2) (ce' := 0) (sl' := 0) (gr := [gridI d r0_good 8 3 x0_good]) (gs' := fun _ => [gMd d h0 a0_kept a0_tried a0_chosen r0_rows r0_line r0_good r0_work x0_shelf x0_rowSort x0_rowSize x0_moved x0_shown x0_tape x0_tapeSize g23 x0_lines x0_changes x0_coins x0_goods x0_works x0_years x0_gone x0_spent x0_at x0_token x0_from x0_figures x0_fault x0_numbers x0_statements x0_left x0_far x0_tons x0_way x0_steps x0_met x0_queue x0_totals, gridI d r0_good 8 3 x0_good]) (st' := fun _ => [.int v22]) (st := []) hK qd3_7.2.2.2.2.2.2.2.2.2.1 cv_RX7_94 iv_yX7_refuse (As := [.int (-6)]) (kX7_refuse _ d h0 r0_rows r0_line r0_good r0_work a0_kept a0_tried a0_chosen x0_shelf x0_rowSort x0_rowSize x0_rows x0_moved x0_shown x0_tape x0_tapeSize x0_refused x0_lines x0_line x0_changes x0_coins x0_goods x0_good x0_works x0_work x0_years x0_gone x0_spent x0_at x0_token x0_from x0_figures x0_fault x0_numbers x0_statements x0_left x0_far x0_tons x0_way x0_steps x0_met x0_queue x0_totals (-6) e24) rfl rfl (Nat.le_of_ble_eq_true rfl) (by decide) 0 0 rfl rfl rfl [0] [1] rfl (by decide +kernel) rfl rfl [1, 0] (by decide +kernel) (fun _ => rfl) (fun _ => rfl) rfl rfl rfl (fun _ => rfl) (fun _ => ?_)
            obtain rfl := Option.some.inj hf
            exact J_iret hK hR qd3_7.2.2.2.2.2.2.2.2.2.2.1 () rfl (by decide) (by decide)
        · have hf := ip hc28 hf
          refine J_aload_n hK qd3_6.2.2.2.2.2.2.2.2.2.2.2.2.2.2.2.1 rfl 0 rfl rfl ?_
          refine J_bipush (v := (-2)) hK qd3_7.1 rfl (by decide) ?_
          obtain ⟨⟨v25, g26⟩, e27, hf⟩ := bs hf
          have hf := un2 hf
          refine J_callV (m := 2) (m' := 2) (ce' := 0) (sl' := 0) (gr := [gridI d r0_good 8 3 x0_good]) (gs' := fun _ => [gMd d h0 a0_kept a0_tried a0_chosen r0_rows r0_line r0_good r0_work x0_shelf x0_rowSort x0_rowSize x0_moved x0_shown x0_tape x0_tapeSize g26 x0_lines x0_changes x0_coins x0_goods x0_works x0_years x0_gone x0_spent x0_at x0_token x0_from x0_figures x0_fault x0_numbers x0_statements x0_left x0_far x0_tons x0_way x0_steps x0_met x0_queue x0_totals, gridI d r0_good 8 3 x0_good]) (st' := fun _ => [.int v25]) (st := []) hK qd3_7.2.1 cv_RX7_94 iv_yX7_refuse (As := [.int (-2)]) (kX7_refuse _ d h0 r0_rows r0_line r0_good r0_work a0_kept a0_tried a0_chosen x0_shelf x0_rowSort x0_rowSize x0_rows x0_moved x0_shown x0_tape x0_tapeSize x0_refused x0_lines x0_line x0_changes x0_coins x0_goods x0_good x0_works x0_work x0_years x0_gone x0_spent x0_at x0_token x0_from x0_figures x0_fault x0_numbers x0_statements x0_left x0_far x0_tons x0_way x0_steps x0_met x0_queue x0_totals (-2) e27) rfl rfl (Nat.le_of_ble_eq_true rfl) (by decide) 0 0 rfl rfl rfl [0] [1] rfl (by decide +kernel) rfl rfl [1, 0] (by decide +kernel) (fun _ => rfl) (fun _ => rfl) rfl rfl rfl (fun _ => rfl) (fun _ => ?_)
          obtain rfl := Option.some.inj hf
          exact J_iret hK hR qd3_7.2.2.1 () rfl (by decide) (by decide)

def fX7_mayBeFirst (X0 : MdT) (p1 : Int32) (p2 : Int32) : Option (Int32) :=
  u35 (fun (x0_shelf : (Nat → Int32)) (x0_rowSort : (Nat → Int32)) (x0_rowSize : (Nat → Int32)) (x0_rows : (Nat → Nat → Int64)) (x0_moved : (Nat → Int64)) (x0_shown : (Nat → Int32)) (x0_tape : (Nat → Int32)) (x0_tapeSize : Int32) (x0_refused : (Nat → Int32)) (x0_lines : Int32) (x0_line : (Nat → Nat → Int32)) (x0_changes : (Nat → Int32)) (x0_coins : (Nat → Int32)) (x0_goods : Int32) (x0_good : (Nat → Nat → Int32)) (x0_works : Int32) (x0_work : (Nat → Nat → Int32)) (x0_years : Int32) (x0_gone : Int32) (x0_spent : Int32) (x0_at : Int32) (x0_token : Int32) (x0_from : Int32) (x0_figures : Int64) (x0_fault : Int32) (x0_numbers : (Nat → Int32)) (x0_statements : Int32) (x0_left : (Nat → Int32)) (x0_far : (Nat → Int32)) (x0_tons : Int32) (x0_way : (Nat → Int32)) (x0_steps : Int32) (x0_met : Int64) (x0_queue : (Nat → Int32)) (x0_totals : (Nat → Int32)) => if p1 = 1 then ((fX7_isLine (x0_shelf, x0_rowSort, x0_rowSize, x0_rows, x0_moved, x0_shown, x0_tape, x0_tapeSize, x0_refused, x0_lines, x0_line, x0_changes, x0_coins, x0_goods, x0_good, x0_works, x0_work, x0_years, x0_gone, x0_spent, x0_at, x0_token, x0_from, x0_figures, x0_fault, x0_numbers, x0_statements, x0_left, x0_far, x0_tons, x0_way, x0_steps, x0_met, x0_queue, x0_totals) p2).bind (fun v1 => (zb v1).bind fun v3 => some v3)) else (if p1 = 2 then ((fX7_isLine (x0_shelf, x0_rowSort, x0_rowSize, x0_rows, x0_moved, x0_shown, x0_tape, x0_tapeSize, x0_refused, x0_lines, x0_line, x0_changes, x0_coins, x0_goods, x0_good, x0_works, x0_work, x0_years, x0_gone, x0_spent, x0_at, x0_token, x0_from, x0_figures, x0_fault, x0_numbers, x0_statements, x0_left, x0_far, x0_tons, x0_way, x0_steps, x0_met, x0_queue, x0_totals) p2).bind (fun v7 => (zb v7).bind fun v9 => some v9)) else ((fX7_isPlace p2).bind (fun v4 => (zb v4).bind fun v6 => some v6)))) X0
set_option maxHeartbeats 4000000 in
set_option maxRecDepth 100000 in
theorem kX7_mayBeFirst (l : Launch) (d : DT) (h0 : Nat → Nat) (r0_rows : Nat → Nat) (r0_line : Nat → Nat) (r0_good : Nat → Nat) (r0_work : Nat → Nat) (a0_kept : Option Nat) (a0_tried : Option Nat) (a0_chosen : Option Nat) (x0_shelf : (Nat → Int32)) (x0_rowSort : (Nat → Int32)) (x0_rowSize : (Nat → Int32)) (x0_rows : (Nat → Nat → Int64)) (x0_moved : (Nat → Int64)) (x0_shown : (Nat → Int32)) (x0_tape : (Nat → Int32)) (x0_tapeSize : Int32) (x0_refused : (Nat → Int32)) (x0_lines : Int32) (x0_line : (Nat → Nat → Int32)) (x0_changes : (Nat → Int32)) (x0_coins : (Nat → Int32)) (x0_goods : Int32) (x0_good : (Nat → Nat → Int32)) (x0_works : Int32) (x0_work : (Nat → Nat → Int32)) (x0_years : Int32) (x0_gone : Int32) (x0_spent : Int32) (x0_at : Int32) (x0_token : Int32) (x0_from : Int32) (x0_figures : Int64) (x0_fault : Int32) (x0_numbers : (Nat → Int32)) (x0_statements : Int32) (x0_left : (Nat → Int32)) (x0_far : (Nat → Int32)) (x0_tons : Int32) (x0_way : (Nat → Int32)) (x0_steps : Int32) (x0_met : Int64) (x0_queue : (Nat → Int32)) (x0_totals : (Nat → Int32)) (p1 : Int32) (p2 : Int32)  {out : Int32} (hf : fX7_mayBeFirst (x0_shelf, x0_rowSort, x0_rowSize, x0_rows, x0_moved, x0_shown, x0_tape, x0_tapeSize, x0_refused, x0_lines, x0_line, x0_changes, x0_coins, x0_goods, x0_good, x0_works, x0_work, x0_years, x0_gone, x0_spent, x0_at, x0_token, x0_from, x0_figures, x0_fault, x0_numbers, x0_statements, x0_left, x0_far, x0_tons, x0_way, x0_steps, x0_met, x0_queue, x0_totals) p1 p2 = some out) : Ct l d yX7_mayBeFirst cX7_mayBeFirst 3 (some .boolean) { frames := 2, cells := 0, slots := 0, locals := 46 } [.ref (h0 0), .int p1, .int p2] [gMd d h0 a0_kept a0_tried a0_chosen r0_rows r0_line r0_good r0_work x0_shelf x0_rowSort x0_rowSize x0_moved x0_shown x0_tape x0_tapeSize x0_refused x0_lines x0_changes x0_coins x0_goods x0_works x0_years x0_gone x0_spent x0_at x0_token x0_from x0_figures x0_fault x0_numbers x0_statements x0_left x0_far x0_tons x0_way x0_steps x0_met x0_queue x0_totals] (fun _ : Unit => (some (.int out), [gMd d h0 a0_kept a0_tried a0_chosen r0_rows r0_line r0_good r0_work x0_shelf x0_rowSort x0_rowSize x0_moved x0_shown x0_tape x0_tapeSize x0_refused x0_lines x0_changes x0_coins x0_goods x0_works x0_years x0_gone x0_spent x0_at x0_token x0_from x0_figures x0_fault x0_numbers x0_statements x0_left x0_far x0_tons x0_way x0_steps x0_met x0_queue x0_totals])) := by
  refine Ct.of (by decide) (Nat.le_of_ble_eq_true rfl) ?_
  intro Φ hl hK hR
  subst hl
  have hK : Ok d Φ RX7 "mayBeFirst" cX7_mayBeFirst 3 (some .boolean) { frames := 2, cells := 0, slots := 0, locals := 46 } := hK
  unfold fX7_mayBeFirst at hf
  have hf := un35 hf
  show J d Φ 3 [gMd d h0 a0_kept a0_tried a0_chosen r0_rows r0_line r0_good r0_work x0_shelf x0_rowSort x0_rowSize x0_moved x0_shown x0_tape x0_tapeSize x0_refused x0_lines x0_changes x0_coins x0_goods x0_works x0_years x0_gone x0_spent x0_at x0_token x0_from x0_figures x0_fault x0_numbers x0_statements x0_left x0_far x0_tons x0_way x0_steps x0_met x0_queue x0_totals] 0 0 0 [(0, .ref (h0 0)), (1, .int p1), (2, .int p2)] []
  refine J_iload_n hK qd3_10.1 rfl 1 rfl rfl ?_
  refine J_iconst (v := 1) hK qd3_10.2.1 rfl (by decide) ?_
  refine J_icmp_eq (tg := 10) hK qd3_10.2.2.1 rfl rfl (fun hc2 => ?_) (fun hc2 => ?_)
  · have hf := ip hc2 hf
    refine J_aload_n hK qd3_10.2.2.2.2.2.2.1 rfl 0 rfl rfl ?_
    refine J_iload_n hK qd3_10.2.2.2.2.2.2.2.1 rfl 2 rfl rfl ?_
    obtain ⟨v1, e2, hf⟩ := bs hf
    refine J_callV (m := 1) (m' := 1) (ce' := 0) (sl' := 0) (gr := []) (gs' := fun _ => [gMd d h0 a0_kept a0_tried a0_chosen r0_rows r0_line r0_good r0_work x0_shelf x0_rowSort x0_rowSize x0_moved x0_shown x0_tape x0_tapeSize x0_refused x0_lines x0_changes x0_coins x0_goods x0_works x0_years x0_gone x0_spent x0_at x0_token x0_from x0_figures x0_fault x0_numbers x0_statements x0_left x0_far x0_tons x0_way x0_steps x0_met x0_queue x0_totals]) (st' := fun _ => [.int v1]) (st := []) hK qd3_10.2.2.2.2.2.2.2.2.1 cv_RX7_128 iv_yX7_isLine (As := [.int p2]) (kX7_isLine _ d h0 r0_rows r0_line r0_good r0_work a0_kept a0_tried a0_chosen x0_shelf x0_rowSort x0_rowSize x0_rows x0_moved x0_shown x0_tape x0_tapeSize x0_refused x0_lines x0_line x0_changes x0_coins x0_goods x0_good x0_works x0_work x0_years x0_gone x0_spent x0_at x0_token x0_from x0_figures x0_fault x0_numbers x0_statements x0_left x0_far x0_tons x0_way x0_steps x0_met x0_queue x0_totals p2 e2) rfl rfl (Nat.le_of_ble_eq_true rfl) (by decide) 0 0 rfl rfl rfl [0] [] rfl (by decide +kernel) rfl rfl [0] (by decide +kernel) (fun _ => rfl) (fun _ => rfl) rfl rfl rfl (fun _ => rfl) (fun _ => ?_)
    refine J_goto hK qd3_10.2.2.2.2.2.2.2.2.2.1 (n := 22) rfl ?_
    obtain ⟨v3, ev3, hf⟩ := bs hf
    obtain rfl := Option.some.inj hf
    exact J_zret hK hR qd3_10.2.2.2.2.2.2.2.2.2.2.2.2.1 () (zb_ok ev3).2 (by rw [(zb_ok ev3).1]) (by decide) (by decide)
  · have hf := iq hc2 hf
    refine J_iload_n hK qd3_10.2.2.2.1 rfl 1 rfl rfl ?_
    refine J_iconst (v := 2) hK qd3_10.2.2.2.2.1 rfl (by decide) ?_
    refine J_icmp_ne (tg := 18) hK qd3_10.2.2.2.2.2.1 rfl rfl (fun hc7 => ?_) (fun hc7 => ?_)
    · have hf := iq hc7 hf
      refine J_iload_n hK qd3_10.2.2.2.2.2.2.2.2.2.2.1 rfl 2 rfl rfl ?_
      obtain ⟨v4, e5, hf⟩ := bs hf
      refine J_callS (m := 1) (m' := 1) (ce' := 0) (sl' := 0) (gr := [gMd d h0 a0_kept a0_tried a0_chosen r0_rows r0_line r0_good r0_work x0_shelf x0_rowSort x0_rowSize x0_moved x0_shown x0_tape x0_tapeSize x0_refused x0_lines x0_changes x0_coins x0_goods x0_works x0_years x0_gone x0_spent x0_at x0_token x0_from x0_figures x0_fault x0_numbers x0_statements x0_left x0_far x0_tons x0_way x0_steps x0_met x0_queue x0_totals]) (gs' := fun _ => [gMd d h0 a0_kept a0_tried a0_chosen r0_rows r0_line r0_good r0_work x0_shelf x0_rowSort x0_rowSize x0_moved x0_shown x0_tape x0_tapeSize x0_refused x0_lines x0_changes x0_coins x0_goods x0_works x0_years x0_gone x0_spent x0_at x0_token x0_from x0_figures x0_fault x0_numbers x0_statements x0_left x0_far x0_tons x0_way x0_steps x0_met x0_queue x0_totals]) (st' := fun _ => [.int v4]) (st := []) hK qd3_10.2.2.2.2.2.2.2.2.2.2.2.1 cv_RX7_112 ws_yX7_isPlace (As := [.int p2]) (kX7_isPlace _ d p2 e5) rfl rfl (Nat.le_of_ble_eq_true rfl) (by decide) [] [0] rfl (by decide +kernel) rfl rfl [0] (by decide +kernel) (fun _ => rfl) (fun _ => rfl) rfl rfl rfl (fun _ => rfl) (fun _ => ?_)
      obtain ⟨v6, ev6, hf⟩ := bs hf
      obtain rfl := Option.some.inj hf
      exact J_zret hK hR qd3_10.2.2.2.2.2.2.2.2.2.2.2.2.1 () (zb_ok ev6).2 (by rw [(zb_ok ev6).1]) (by decide) (by decide)
    · have hf := ip hc7 hf
      refine J_aload_n hK qd3_10.2.2.2.2.2.2.1 rfl 0 rfl rfl ?_
      refine J_iload_n hK qd3_10.2.2.2.2.2.2.2.1 rfl 2 rfl rfl ?_
      obtain ⟨v7, e8, hf⟩ := bs hf
      refine J_callV (m := 1) (m' := 1) (ce' := 0) (sl' := 0) (gr := []) (gs' := fun _ => [gMd d h0 a0_kept a0_tried a0_chosen r0_rows r0_line r0_good r0_work x0_shelf x0_rowSort x0_rowSize x0_moved x0_shown x0_tape x0_tapeSize x0_refused x0_lines x0_changes x0_coins x0_goods x0_works x0_years x0_gone x0_spent x0_at x0_token x0_from x0_figures x0_fault x0_numbers x0_statements x0_left x0_far x0_tons x0_way x0_steps x0_met x0_queue x0_totals]) (st' := fun _ => [.int v7]) (st := []) hK qd3_10.2.2.2.2.2.2.2.2.1 cv_RX7_128 iv_yX7_isLine (As := [.int p2]) (kX7_isLine _ d h0 r0_rows r0_line r0_good r0_work a0_kept a0_tried a0_chosen x0_shelf x0_rowSort x0_rowSize x0_rows x0_moved x0_shown x0_tape x0_tapeSize x0_refused x0_lines x0_line x0_changes x0_coins x0_goods x0_good x0_works x0_work x0_years x0_gone x0_spent x0_at x0_token x0_from x0_figures x0_fault x0_numbers x0_statements x0_left x0_far x0_tons x0_way x0_steps x0_met x0_queue x0_totals p2 e8) rfl rfl (Nat.le_of_ble_eq_true rfl) (by decide) 0 0 rfl rfl rfl [0] [] rfl (by decide +kernel) rfl rfl [0] (by decide +kernel) (fun _ => rfl) (fun _ => rfl) rfl rfl rfl (fun _ => rfl) (fun _ => ?_)
      refine J_goto hK qd3_10.2.2.2.2.2.2.2.2.2.1 (n := 22) rfl ?_
      obtain ⟨v9, ev9, hf⟩ := bs hf
      obtain rfl := Option.some.inj hf
      exact J_zret hK hR qd3_10.2.2.2.2.2.2.2.2.2.2.2.2.1 () (zb_ok ev9).2 (by rw [(zb_ok ev9).1]) (by decide) (by decide)

def fX7_mayBeSecond_j10 (p3 : Int32) : Option (Int32) :=
  (fX7_in ((p3).toInt64) (0 : Int64) (2 : Int64)).bind (fun v1 => (zb v1).bind fun v3 => some v3)
def fX7_mayBeSecond (p1 : Int32) (p2 : Int32) (p3 : Int32) : Option (Int32) :=
  if p1 = 1 then (fX7_mayBeSecond_j10 p3) else (if p1 = 2 then (fX7_mayBeSecond_j10 p3) else (if p1 = 3 then ((fX7_in ((p3).toInt64) (0 : Int64) (99 : Int64)).bind (fun v6 => (zb v6).bind fun v8 => some v8)) else ((fX7_isPlace p3).bind (fun v4 => if v4 = 0 then (some (0)) else (if p3 = p2 then (some (0)) else (some (1)))))))
set_option maxHeartbeats 4000000 in
set_option maxRecDepth 100000 in
theorem kX7_mayBeSecond (l : Launch) (d : DT) (o0 : Nat) (p1 : Int32) (p2 : Int32) (p3 : Int32)  {out : Int32} (hf : fX7_mayBeSecond p1 p2 p3 = some out) : Ct l d yX7_mayBeSecond cX7_mayBeSecond 4 (some .boolean) { frames := 2, cells := 0, slots := 0, locals := 45 } [.ref o0, .int p1, .int p2, .int p3] [] (fun _ : Unit => (some (.int out), [])) := by
  refine Ct.of (by decide) (Nat.le_of_ble_eq_true rfl) ?_
  intro Φ hl hK hR
  subst hl
  have hK : Ok d Φ RX7 "mayBeSecond" cX7_mayBeSecond 4 (some .boolean) { frames := 2, cells := 0, slots := 0, locals := 45 } := hK
  unfold fX7_mayBeSecond at hf
  show J d Φ 4 [] 0 0 0 [(0, .ref o0), (1, .int p1), (2, .int p2), (3, .int p3)] []
  refine J_iload_n hK qd3_11.1 rfl 1 rfl rfl ?_
  refine J_iconst (v := 1) hK qd3_11.2.1 rfl (by decide) ?_
  have j10 : fX7_mayBeSecond_j10 p3 = some out → J d Φ 4 [] 0 0 10 [(3, .int p3)] [] := by
    intro  hf
    unfold fX7_mayBeSecond_j10 at hf
    refine J_iload_n hK qd3_11.2.2.2.2.2.2.1 rfl 0 rfl rfl ?_
    refine J_i2l hK qd3_11.2.2.2.2.2.2.2.1 rfl ?_
    refine J_lconst (v := 0) hK qd3_11.2.2.2.2.2.2.2.2.1 rfl (by decide) ?_
    refine J_ldc2 (v := (2 : Int64)) hK qd3_11.2.2.2.2.2.2.2.2.2.1 rfl wk_RX7_131 ?_
    obtain ⟨v1, e2, hf⟩ := bs hf
    refine J_callS (m := 0) (m' := 0) (ce' := 0) (sl' := 0) (gr := []) (gs' := fun _ => []) (st' := fun _ => [.int v1]) (st := []) hK qd3_11.2.2.2.2.2.2.2.2.2.2.1 cv_RX7_78 ws_yX7_in (As := [.long ((p3).toInt64), .long (0 : Int64), .long (2 : Int64)]) (kX7_in _ d ((p3).toInt64) (0 : Int64) (2 : Int64) e2) rfl rfl (Nat.le_of_ble_eq_true rfl) (by decide) [] [] rfl (by decide +kernel) rfl rfl [] (by decide +kernel) (fun _ => rfl) (fun _ => rfl) rfl rfl rfl (fun _ => rfl) (fun _ => ?_)
    refine J_goto hK qd3_11.2.2.2.2.2.2.2.2.2.2.2.1 (n := 56) rfl ?_
    obtain ⟨v3, ev3, hf⟩ := bs hf
    obtain rfl := Option.some.inj hf
    exact J_zret hK hR qd3_12.2.2.2.2.2.2.2.2.2.2.2.2.2.2.1 () (zb_ok ev3).2 (by rw [(zb_ok ev3).1]) (by decide) (by decide)
  refine J_icmp_eq (tg := 10) hK qd3_11.2.2.1 rfl rfl (fun hc2 => ?_) (fun hc2 => ?_)
  · have hf := ip hc2 hf
    exact J_loc [3] rfl (j10  hf)
  · have hf := iq hc2 hf
    refine J_iload_n hK qd3_11.2.2.2.1 rfl 1 rfl rfl ?_
    refine J_iconst (v := 2) hK qd3_11.2.2.2.2.1 rfl (by decide) ?_
    refine J_icmp_ne (tg := 22) hK qd3_11.2.2.2.2.2.1 rfl rfl (fun hc7 => ?_) (fun hc7 => ?_)
    · have hf := iq hc7 hf
      refine J_iload_n hK qd3_11.2.2.2.2.2.2.2.2.2.2.2.2.1 rfl 1 rfl rfl ?_
      refine J_iconst (v := 3) hK qd3_11.2.2.2.2.2.2.2.2.2.2.2.2.2.1 rfl (by decide) ?_
      refine J_icmp_ne (tg := 39) hK qd3_11.2.2.2.2.2.2.2.2.2.2.2.2.2.2.1 rfl rfl (fun hc24 => ?_) (fun hc24 => ?_)
      · have hf := iq hc24 hf
        refine J_iload_n hK qd3_12.2.2.2.2.2.1 rfl 3 rfl rfl ?_
        obtain ⟨v4, e5, hf⟩ := bs hf
        refine J_callS (m := 0) (m' := 0) (ce' := 0) (sl' := 0) (gr := []) (gs' := fun _ => []) (st' := fun _ => [.int v4]) (st := []) hK qd3_12.2.2.2.2.2.2.1 cv_RX7_112 ws_yX7_isPlace (As := [.int p3]) (kX7_isPlace _ d p3 e5) rfl rfl (Nat.le_of_ble_eq_true rfl) (by decide) [] [] rfl (by decide +kernel) rfl rfl [] (by decide +kernel) (fun _ => rfl) (fun _ => rfl) rfl rfl rfl (fun _ => rfl) (fun _ => ?_)
        refine J_if_eq (tg := 55) hK qd3_12.2.2.2.2.2.2.2.1 rfl rfl (fun hc43 => ?_) (fun hc43 => ?_)
        · have hf := ip hc43 hf
          refine J_iconst (v := 0) hK qd3_12.2.2.2.2.2.2.2.2.2.2.2.2.2.1 rfl (by decide) ?_
          obtain rfl := Option.some.inj hf
          exact J_zret hK hR qd3_12.2.2.2.2.2.2.2.2.2.2.2.2.2.2.1 () rfl rfl (by decide) (by decide)
        · have hf := iq hc43 hf
          refine J_iload_n hK qd3_12.2.2.2.2.2.2.2.2.1 rfl 3 rfl rfl ?_
          refine J_iload_n hK qd3_12.2.2.2.2.2.2.2.2.2.1 rfl 2 rfl rfl ?_
          refine J_icmp_eq (tg := 55) hK qd3_12.2.2.2.2.2.2.2.2.2.2.1 rfl rfl (fun hc48 => ?_) (fun hc48 => ?_)
          · have hf := ip hc48 hf
            refine J_iconst (v := 0) hK qd3_12.2.2.2.2.2.2.2.2.2.2.2.2.2.1 rfl (by decide) ?_
            obtain rfl := Option.some.inj hf
            exact J_zret hK hR qd3_12.2.2.2.2.2.2.2.2.2.2.2.2.2.2.1 () rfl rfl (by decide) (by decide)
          · have hf := iq hc48 hf
            refine J_iconst (v := 1) hK qd3_12.2.2.2.2.2.2.2.2.2.2.2.1 rfl (by decide) ?_
            refine J_goto hK qd3_12.2.2.2.2.2.2.2.2.2.2.2.2.1 (n := 56) rfl ?_
            obtain rfl := Option.some.inj hf
            exact J_zret hK hR qd3_12.2.2.2.2.2.2.2.2.2.2.2.2.2.2.1 () rfl rfl (by decide) (by decide)
      · have hf := ip hc24 hf
        refine J_iload_n hK qd3_11.2.2.2.2.2.2.2.2.2.2.2.2.2.2.2.1 rfl 3 rfl rfl ?_
        refine J_i2l hK qd3_12.1 rfl ?_
        refine J_lconst (v := 0) hK qd3_12.2.1 rfl (by decide) ?_
        refine J_ldc2 (v := (99 : Int64)) hK qd3_12.2.2.1 rfl wk_RX7_123 ?_
        obtain ⟨v6, e7, hf⟩ := bs hf
        refine J_callS (m := 0) (m' := 0) (ce' := 0) (sl' := 0) (gr := []) (gs' := fun _ => []) (st' := fun _ => [.int v6]) (st := []) hK qd3_12.2.2.2.1 cv_RX7_78 ws_yX7_in (As := [.long ((p3).toInt64), .long (0 : Int64), .long (99 : Int64)]) (kX7_in _ d ((p3).toInt64) (0 : Int64) (99 : Int64) e7) rfl rfl (Nat.le_of_ble_eq_true rfl) (by decide) [] [] rfl (by decide +kernel) rfl rfl [] (by decide +kernel) (fun _ => rfl) (fun _ => rfl) rfl rfl rfl (fun _ => rfl) (fun _ => ?_)
        refine J_goto hK qd3_12.2.2.2.2.1 (n := 56) rfl ?_
        obtain ⟨v8, ev8, hf⟩ := bs hf
        obtain rfl := Option.some.inj hf
        exact J_zret hK hR qd3_12.2.2.2.2.2.2.2.2.2.2.2.2.2.2.1 () (zb_ok ev8).2 (by rw [(zb_ok ev8).1]) (by decide) (by decide)
    · have hf := ip hc7 hf
      exact J_loc [3] rfl (j10  hf)

def fX7_work (X0 : MdT) (p1 : Int32) (p2 : Int32) (p3 : Int32) (p4 : Int32) : Option (Int32 × (Nat → Int32) × Int32 × (Nat → Nat → Int32)) :=
  u35 (fun (x0_shelf : (Nat → Int32)) (x0_rowSort : (Nat → Int32)) (x0_rowSize : (Nat → Int32)) (x0_rows : (Nat → Nat → Int64)) (x0_moved : (Nat → Int64)) (x0_shown : (Nat → Int32)) (x0_tape : (Nat → Int32)) (x0_tapeSize : Int32) (x0_refused : (Nat → Int32)) (x0_lines : Int32) (x0_line : (Nat → Nat → Int32)) (x0_changes : (Nat → Int32)) (x0_coins : (Nat → Int32)) (x0_goods : Int32) (x0_good : (Nat → Nat → Int32)) (x0_works : Int32) (x0_work : (Nat → Nat → Int32)) (x0_years : Int32) (x0_gone : Int32) (x0_spent : Int32) (x0_at : Int32) (x0_token : Int32) (x0_from : Int32) (x0_figures : Int64) (x0_fault : Int32) (x0_numbers : (Nat → Int32)) (x0_statements : Int32) (x0_left : (Nat → Int32)) (x0_far : (Nat → Int32)) (x0_tons : Int32) (x0_way : (Nat → Int32)) (x0_steps : Int32) (x0_met : Int64) (x0_queue : (Nat → Int32)) (x0_totals : (Nat → Int32)) => (fX7_in ((p1).toInt64) (1 : Int64) (5 : Int64)).bind (fun v1 => if v1 = 0 then ((fX7_refuse (x0_shelf, x0_rowSort, x0_rowSize, x0_rows, x0_moved, x0_shown, x0_tape, x0_tapeSize, x0_refused, x0_lines, x0_line, x0_changes, x0_coins, x0_goods, x0_good, x0_works, x0_work, x0_years, x0_gone, x0_spent, x0_at, x0_token, x0_from, x0_figures, x0_fault, x0_numbers, x0_statements, x0_left, x0_far, x0_tons, x0_way, x0_steps, x0_met, x0_queue, x0_totals) (-2)).bind (u2 fun v3 g4 => some (v3, g4, x0_works, x0_work))) else ((fX7_mayBeFirst (x0_shelf, x0_rowSort, x0_rowSize, x0_rows, x0_moved, x0_shown, x0_tape, x0_tapeSize, x0_refused, x0_lines, x0_line, x0_changes, x0_coins, x0_goods, x0_good, x0_works, x0_work, x0_years, x0_gone, x0_spent, x0_at, x0_token, x0_from, x0_figures, x0_fault, x0_numbers, x0_statements, x0_left, x0_far, x0_tons, x0_way, x0_steps, x0_met, x0_queue, x0_totals) p1 p2).bind (fun v6 => if v6 = 0 then ((fX7_refuse (x0_shelf, x0_rowSort, x0_rowSize, x0_rows, x0_moved, x0_shown, x0_tape, x0_tapeSize, x0_refused, x0_lines, x0_line, x0_changes, x0_coins, x0_goods, x0_good, x0_works, x0_work, x0_years, x0_gone, x0_spent, x0_at, x0_token, x0_from, x0_figures, x0_fault, x0_numbers, x0_statements, x0_left, x0_far, x0_tons, x0_way, x0_steps, x0_met, x0_queue, x0_totals) (-2)).bind (u2 fun v8 g9 => some (v8, g9, x0_works, x0_work))) else ((fX7_mayBeSecond p1 p2 p3).bind (fun v11 => if v11 = 0 then ((fX7_refuse (x0_shelf, x0_rowSort, x0_rowSize, x0_rows, x0_moved, x0_shown, x0_tape, x0_tapeSize, x0_refused, x0_lines, x0_line, x0_changes, x0_coins, x0_goods, x0_good, x0_works, x0_work, x0_years, x0_gone, x0_spent, x0_at, x0_token, x0_from, x0_figures, x0_fault, x0_numbers, x0_statements, x0_left, x0_far, x0_tons, x0_way, x0_steps, x0_met, x0_queue, x0_totals) (-2)).bind (u2 fun v13 g14 => some (v13, g14, x0_works, x0_work))) else ((fX7_in ((p4).toInt64) (0 : Int64) (9999 : Int64)).bind (fun v16 => if v16 = 0 then ((fX7_refuse (x0_shelf, x0_rowSort, x0_rowSize, x0_rows, x0_moved, x0_shown, x0_tape, x0_tapeSize, x0_refused, x0_lines, x0_line, x0_changes, x0_coins, x0_goods, x0_good, x0_works, x0_work, x0_years, x0_gone, x0_spent, x0_at, x0_token, x0_from, x0_figures, x0_fault, x0_numbers, x0_statements, x0_left, x0_far, x0_tons, x0_way, x0_steps, x0_met, x0_queue, x0_totals) (-2)).bind (u2 fun v27 g28 => some (v27, g28, x0_works, x0_work))) else (if x0_works = 7 then ((fX7_refuse (x0_shelf, x0_rowSort, x0_rowSize, x0_rows, x0_moved, x0_shown, x0_tape, x0_tapeSize, x0_refused, x0_lines, x0_line, x0_changes, x0_coins, x0_goods, x0_good, x0_works, x0_work, x0_years, x0_gone, x0_spent, x0_at, x0_token, x0_from, x0_figures, x0_fault, x0_numbers, x0_statements, x0_left, x0_far, x0_tons, x0_way, x0_steps, x0_met, x0_queue, x0_totals) (-6)).bind (u2 fun v24 g25 => some (v24, g25, x0_works, x0_work))) else ((ck x0_works 7).bind fun q18 => (wr 5 (x0_work q18) (0) p1).bind fun f19 => (wr 5 ((va_up x0_work q18 f19) q18) (1) p2).bind fun f20 => (wr 5 ((va_up (va_up x0_work q18 f19) q18 f20) q18) (2) p3).bind fun f21 => (wr 5 ((va_up (va_up (va_up x0_work q18 f19) q18 f20) q18 f21) q18) (3) p4).bind fun f22 => (wr 5 ((va_up (va_up (va_up (va_up x0_work q18 f19) q18 f20) q18 f21) q18 f22) q18) (4) (0)).bind fun f23 => some (x0_works, x0_refused, (x0_works + 1), (va_up (va_up (va_up (va_up (va_up x0_work q18 f19) q18 f20) q18 f21) q18 f22) q18 f23)))))))))))) X0
set_option maxHeartbeats 4000000 in
set_option maxRecDepth 100000 in
theorem kX7_work (l : Launch) (d : DT) (h0 : Nat → Nat) (r0_rows : Nat → Nat) (r0_line : Nat → Nat) (r0_good : Nat → Nat) (r0_work : Nat → Nat) (a0_kept : Option Nat) (a0_tried : Option Nat) (a0_chosen : Option Nat) (x0_shelf : (Nat → Int32)) (x0_rowSort : (Nat → Int32)) (x0_rowSize : (Nat → Int32)) (x0_rows : (Nat → Nat → Int64)) (x0_moved : (Nat → Int64)) (x0_shown : (Nat → Int32)) (x0_tape : (Nat → Int32)) (x0_tapeSize : Int32) (x0_refused : (Nat → Int32)) (x0_lines : Int32) (x0_line : (Nat → Nat → Int32)) (x0_changes : (Nat → Int32)) (x0_coins : (Nat → Int32)) (x0_goods : Int32) (x0_good : (Nat → Nat → Int32)) (x0_works : Int32) (x0_work : (Nat → Nat → Int32)) (x0_years : Int32) (x0_gone : Int32) (x0_spent : Int32) (x0_at : Int32) (x0_token : Int32) (x0_from : Int32) (x0_figures : Int64) (x0_fault : Int32) (x0_numbers : (Nat → Int32)) (x0_statements : Int32) (x0_left : (Nat → Int32)) (x0_far : (Nat → Int32)) (x0_tons : Int32) (x0_way : (Nat → Int32)) (x0_steps : Int32) (x0_met : Int64) (x0_queue : (Nat → Int32)) (x0_totals : (Nat → Int32)) (p1 : Int32) (p2 : Int32) (p3 : Int32) (p4 : Int32)  {out : Int32 × (Nat → Int32) × Int32 × (Nat → Nat → Int32)} (hf : fX7_work (x0_shelf, x0_rowSort, x0_rowSize, x0_rows, x0_moved, x0_shown, x0_tape, x0_tapeSize, x0_refused, x0_lines, x0_line, x0_changes, x0_coins, x0_goods, x0_good, x0_works, x0_work, x0_years, x0_gone, x0_spent, x0_at, x0_token, x0_from, x0_figures, x0_fault, x0_numbers, x0_statements, x0_left, x0_far, x0_tons, x0_way, x0_steps, x0_met, x0_queue, x0_totals) p1 p2 p3 p4 = some out) : Ct l d yX7_work cX7_work 6 (some .int) { frames := 3, cells := 0, slots := 0, locals := 68 } [.ref (h0 0), .int p1, .int p2, .int p3, .int p4] [gMd d h0 a0_kept a0_tried a0_chosen r0_rows r0_line r0_good r0_work x0_shelf x0_rowSort x0_rowSize x0_moved x0_shown x0_tape x0_tapeSize x0_refused x0_lines x0_changes x0_coins x0_goods x0_works x0_years x0_gone x0_spent x0_at x0_token x0_from x0_figures x0_fault x0_numbers x0_statements x0_left x0_far x0_tons x0_way x0_steps x0_met x0_queue x0_totals, gridI d r0_work 7 5 x0_work] (fun _ : Unit => (some (.int out.1), [gMd d h0 a0_kept a0_tried a0_chosen r0_rows r0_line r0_good r0_work x0_shelf x0_rowSort x0_rowSize x0_moved x0_shown x0_tape x0_tapeSize (out.2.1) x0_lines x0_changes x0_coins x0_goods (out.2.2.1) x0_years x0_gone x0_spent x0_at x0_token x0_from x0_figures x0_fault x0_numbers x0_statements x0_left x0_far x0_tons x0_way x0_steps x0_met x0_queue x0_totals, gridI d r0_work 7 5 (out.2.2.2)])) := by
  refine Ct.of (by decide) (Nat.le_of_ble_eq_true rfl) ?_
  intro Φ hl hK hR
  subst hl
  have hK : Ok d Φ RX7 "work" cX7_work 6 (some .int) { frames := 3, cells := 0, slots := 0, locals := 68 } := hK
  unfold fX7_work at hf
  have hf := un35 hf
  show J d Φ 6 [gMd d h0 a0_kept a0_tried a0_chosen r0_rows r0_line r0_good r0_work x0_shelf x0_rowSort x0_rowSize x0_moved x0_shown x0_tape x0_tapeSize x0_refused x0_lines x0_changes x0_coins x0_goods x0_works x0_years x0_gone x0_spent x0_at x0_token x0_from x0_figures x0_fault x0_numbers x0_statements x0_left x0_far x0_tons x0_way x0_steps x0_met x0_queue x0_totals, gridI d r0_work 7 5 x0_work] 0 0 0 [(0, .ref (h0 0)), (1, .int p1), (2, .int p2), (3, .int p3), (4, .int p4)] []
  refine J_iload_n hK qd3_13.1 rfl 1 rfl rfl ?_
  refine J_i2l hK qd3_13.2.1 rfl ?_
  refine J_lconst (v := 1) hK qd3_13.2.2.1 rfl (by decide) ?_
  refine J_ldc2 (v := (5 : Int64)) hK qd3_13.2.2.2.1 rfl wk_RX7_106 ?_
  obtain ⟨v1, e2, hf⟩ := bs hf
  refine J_callS (m := 2) (m' := 2) (ce' := 0) (sl' := 0) (gr := [gMd d h0 a0_kept a0_tried a0_chosen r0_rows r0_line r0_good r0_work x0_shelf x0_rowSort x0_rowSize x0_moved x0_shown x0_tape x0_tapeSize x0_refused x0_lines x0_changes x0_coins x0_goods x0_works x0_years x0_gone x0_spent x0_at x0_token x0_from x0_figures x0_fault x0_numbers x0_statements x0_left x0_far x0_tons x0_way x0_steps x0_met x0_queue x0_totals, gridI d r0_work 7 5 x0_work]) (gs' := fun _ => [gMd d h0 a0_kept a0_tried a0_chosen r0_rows r0_line r0_good r0_work x0_shelf x0_rowSort x0_rowSize x0_moved x0_shown x0_tape x0_tapeSize x0_refused x0_lines x0_changes x0_coins x0_goods x0_works x0_years x0_gone x0_spent x0_at x0_token x0_from x0_figures x0_fault x0_numbers x0_statements x0_left x0_far x0_tons x0_way x0_steps x0_met x0_queue x0_totals, gridI d r0_work 7 5 x0_work]) (st' := fun _ => [.int v1]) (st := []) hK qd3_13.2.2.2.2.1 cv_RX7_78 ws_yX7_in (As := [.long ((p1).toInt64), .long (1 : Int64), .long (5 : Int64)]) (kX7_in _ d ((p1).toInt64) (1 : Int64) (5 : Int64) e2) rfl rfl (Nat.le_of_ble_eq_true rfl) (by decide) [] [0, 1] rfl (by decide +kernel) rfl rfl [0, 1] (by decide +kernel) (fun _ => rfl) (fun _ => rfl) rfl rfl rfl (fun _ => rfl) (fun _ => ?_)
  refine J_if_eq (tg := 44) hK qd3_13.2.2.2.2.2.1 rfl rfl (fun hc9 => ?_) (fun hc9 => ?_)
  · have hf := ip hc9 hf
    refine J_aload_n hK qd3_14.2.2.2.2.2.2.2.1 rfl 0 rfl rfl ?_
    refine J_bipush (v := (-2)) hK qd3_14.2.2.2.2.2.2.2.2.1 rfl (by decide) ?_
    obtain ⟨⟨v3, g4⟩, e5, hf⟩ := bs hf
    have hf := un2 hf
    refine J_callV (m := 2) (m' := 2) (ce' := 0) (sl' := 0) (gr := [gridI d r0_work 7 5 x0_work]) (gs' := fun _ => [gMd d h0 a0_kept a0_tried a0_chosen r0_rows r0_line r0_good r0_work x0_shelf x0_rowSort x0_rowSize x0_moved x0_shown x0_tape x0_tapeSize g4 x0_lines x0_changes x0_coins x0_goods x0_works x0_years x0_gone x0_spent x0_at x0_token x0_from x0_figures x0_fault x0_numbers x0_statements x0_left x0_far x0_tons x0_way x0_steps x0_met x0_queue x0_totals, gridI d r0_work 7 5 x0_work]) (st' := fun _ => [.int v3]) (st := []) hK qd3_14.2.2.2.2.2.2.2.2.2.1 cv_RX7_94 iv_yX7_refuse (As := [.int (-2)]) (kX7_refuse _ d h0 r0_rows r0_line r0_good r0_work a0_kept a0_tried a0_chosen x0_shelf x0_rowSort x0_rowSize x0_rows x0_moved x0_shown x0_tape x0_tapeSize x0_refused x0_lines x0_line x0_changes x0_coins x0_goods x0_good x0_works x0_work x0_years x0_gone x0_spent x0_at x0_token x0_from x0_figures x0_fault x0_numbers x0_statements x0_left x0_far x0_tons x0_way x0_steps x0_met x0_queue x0_totals (-2) e5) rfl rfl (Nat.le_of_ble_eq_true rfl) (by decide) 0 0 rfl rfl rfl [0] [1] rfl (by decide +kernel) rfl rfl [1, 0] (by decide +kernel) (fun _ => rfl) (fun _ => rfl) rfl rfl rfl (fun _ => rfl) (fun _ => ?_)
    obtain rfl := Option.some.inj hf
    exact J_iret hK hR qd3_14.2.2.2.2.2.2.2.2.2.2.1 () rfl (by decide) (by decide)
  · have hf := iq hc9 hf
    refine J_aload_n hK qd3_13.2.2.2.2.2.2.1 rfl 0 rfl rfl ?_
    refine J_iload_n hK qd3_13.2.2.2.2.2.2.2.1 rfl 1 rfl rfl ?_
    refine J_iload_n hK qd3_13.2.2.2.2.2.2.2.2.1 rfl 2 rfl rfl ?_
    obtain ⟨v6, e7, hf⟩ := bs hf
    refine J_callV (m := 2) (m' := 2) (ce' := 0) (sl' := 0) (gr := [gridI d r0_work 7 5 x0_work]) (gs' := fun _ => [gMd d h0 a0_kept a0_tried a0_chosen r0_rows r0_line r0_good r0_work x0_shelf x0_rowSort x0_rowSize x0_moved x0_shown x0_tape x0_tapeSize x0_refused x0_lines x0_changes x0_coins x0_goods x0_works x0_years x0_gone x0_spent x0_at x0_token x0_from x0_figures x0_fault x0_numbers x0_statements x0_left x0_far x0_tons x0_way x0_steps x0_met x0_queue x0_totals, gridI d r0_work 7 5 x0_work]) (st' := fun _ => [.int v6]) (st := []) hK qd3_13.2.2.2.2.2.2.2.2.2.1 cv_RX7_133 iv_yX7_mayBeFirst (As := [.int p1, .int p2]) (kX7_mayBeFirst _ d h0 r0_rows r0_line r0_good r0_work a0_kept a0_tried a0_chosen x0_shelf x0_rowSort x0_rowSize x0_rows x0_moved x0_shown x0_tape x0_tapeSize x0_refused x0_lines x0_line x0_changes x0_coins x0_goods x0_good x0_works x0_work x0_years x0_gone x0_spent x0_at x0_token x0_from x0_figures x0_fault x0_numbers x0_statements x0_left x0_far x0_tons x0_way x0_steps x0_met x0_queue x0_totals p1 p2 e7) rfl rfl (Nat.le_of_ble_eq_true rfl) (by decide) 0 0 rfl rfl rfl [0] [1] rfl (by decide +kernel) rfl rfl [1, 0] (by decide +kernel) (fun _ => rfl) (fun _ => rfl) rfl rfl rfl (fun _ => rfl) (fun _ => ?_)
    refine J_if_eq (tg := 44) hK qd3_13.2.2.2.2.2.2.2.2.2.2.1 rfl rfl (fun hc18 => ?_) (fun hc18 => ?_)
    · have hf := ip hc18 hf
      refine J_aload_n hK qd3_14.2.2.2.2.2.2.2.1 rfl 0 rfl rfl ?_
      refine J_bipush (v := (-2)) hK qd3_14.2.2.2.2.2.2.2.2.1 rfl (by decide) ?_
      obtain ⟨⟨v8, g9⟩, e10, hf⟩ := bs hf
      have hf := un2 hf
      refine J_callV (m := 2) (m' := 2) (ce' := 0) (sl' := 0) (gr := [gridI d r0_work 7 5 x0_work]) (gs' := fun _ => [gMd d h0 a0_kept a0_tried a0_chosen r0_rows r0_line r0_good r0_work x0_shelf x0_rowSort x0_rowSize x0_moved x0_shown x0_tape x0_tapeSize g9 x0_lines x0_changes x0_coins x0_goods x0_works x0_years x0_gone x0_spent x0_at x0_token x0_from x0_figures x0_fault x0_numbers x0_statements x0_left x0_far x0_tons x0_way x0_steps x0_met x0_queue x0_totals, gridI d r0_work 7 5 x0_work]) (st' := fun _ => [.int v8]) (st := []) hK qd3_14.2.2.2.2.2.2.2.2.2.1 cv_RX7_94 iv_yX7_refuse (As := [.int (-2)]) (kX7_refuse _ d h0 r0_rows r0_line r0_good r0_work a0_kept a0_tried a0_chosen x0_shelf x0_rowSort x0_rowSize x0_rows x0_moved x0_shown x0_tape x0_tapeSize x0_refused x0_lines x0_line x0_changes x0_coins x0_goods x0_good x0_works x0_work x0_years x0_gone x0_spent x0_at x0_token x0_from x0_figures x0_fault x0_numbers x0_statements x0_left x0_far x0_tons x0_way x0_steps x0_met x0_queue x0_totals (-2) e10) rfl rfl (Nat.le_of_ble_eq_true rfl) (by decide) 0 0 rfl rfl rfl [0] [1] rfl (by decide +kernel) rfl rfl [1, 0] (by decide +kernel) (fun _ => rfl) (fun _ => rfl) rfl rfl rfl (fun _ => rfl) (fun _ => ?_)
      obtain rfl := Option.some.inj hf
      exact J_iret hK hR qd3_14.2.2.2.2.2.2.2.2.2.2.1 () rfl (by decide) (by decide)
    · have hf := iq hc18 hf
      refine J_aload_n hK qd3_13.2.2.2.2.2.2.2.2.2.2.2.1 rfl 0 rfl rfl ?_
      refine J_iload_n hK qd3_13.2.2.2.2.2.2.2.2.2.2.2.2.1 rfl 1 rfl rfl ?_
      refine J_iload_n hK qd3_13.2.2.2.2.2.2.2.2.2.2.2.2.2.1 rfl 2 rfl rfl ?_
      refine J_iload_n hK qd3_13.2.2.2.2.2.2.2.2.2.2.2.2.2.2.1 rfl 3 rfl rfl ?_
      obtain ⟨v11, e12, hf⟩ := bs hf
      refine J_callV (m := 2) (m' := 2) (ce' := 0) (sl' := 0) (gr := [gMd d h0 a0_kept a0_tried a0_chosen r0_rows r0_line r0_good r0_work x0_shelf x0_rowSort x0_rowSize x0_moved x0_shown x0_tape x0_tapeSize x0_refused x0_lines x0_changes x0_coins x0_goods x0_works x0_years x0_gone x0_spent x0_at x0_token x0_from x0_figures x0_fault x0_numbers x0_statements x0_left x0_far x0_tons x0_way x0_steps x0_met x0_queue x0_totals, gridI d r0_work 7 5 x0_work]) (gs' := fun _ => [gMd d h0 a0_kept a0_tried a0_chosen r0_rows r0_line r0_good r0_work x0_shelf x0_rowSort x0_rowSize x0_moved x0_shown x0_tape x0_tapeSize x0_refused x0_lines x0_changes x0_coins x0_goods x0_works x0_years x0_gone x0_spent x0_at x0_token x0_from x0_figures x0_fault x0_numbers x0_statements x0_left x0_far x0_tons x0_way x0_steps x0_met x0_queue x0_totals, gridI d r0_work 7 5 x0_work]) (st' := fun _ => [.int v11]) (st := []) hK qd3_13.2.2.2.2.2.2.2.2.2.2.2.2.2.2.2.1 cv_RX7_136 iv_yX7_mayBeSecond (As := [.int p1, .int p2, .int p3]) (kX7_mayBeSecond _ d (h0 0) p1 p2 p3 e12) rfl rfl (Nat.le_of_ble_eq_true rfl) (by decide) 0 0 rfl rfl rfl [] [0, 1] rfl (by decide +kernel) rfl rfl [0, 1] (by decide +kernel) (fun _ => rfl) (fun _ => rfl) rfl rfl rfl (fun _ => rfl) (fun _ => ?_)
      refine J_if_eq (tg := 44) hK qd3_14.1 rfl rfl (fun hc28 => ?_) (fun hc28 => ?_)
      · have hf := ip hc28 hf
        refine J_aload_n hK qd3_14.2.2.2.2.2.2.2.1 rfl 0 rfl rfl ?_
        refine J_bipush (v := (-2)) hK qd3_14.2.2.2.2.2.2.2.2.1 rfl (by decide) ?_
        obtain ⟨⟨v13, g14⟩, e15, hf⟩ := bs hf
        have hf := un2 hf
        refine J_callV (m := 2) (m' := 2) (ce' := 0) (sl' := 0) (gr := [gridI d r0_work 7 5 x0_work]) (gs' := fun _ => [gMd d h0 a0_kept a0_tried a0_chosen r0_rows r0_line r0_good r0_work x0_shelf x0_rowSort x0_rowSize x0_moved x0_shown x0_tape x0_tapeSize g14 x0_lines x0_changes x0_coins x0_goods x0_works x0_years x0_gone x0_spent x0_at x0_token x0_from x0_figures x0_fault x0_numbers x0_statements x0_left x0_far x0_tons x0_way x0_steps x0_met x0_queue x0_totals, gridI d r0_work 7 5 x0_work]) (st' := fun _ => [.int v13]) (st := []) hK qd3_14.2.2.2.2.2.2.2.2.2.1 cv_RX7_94 iv_yX7_refuse (As := [.int (-2)]) (kX7_refuse _ d h0 r0_rows r0_line r0_good r0_work a0_kept a0_tried a0_chosen x0_shelf x0_rowSort x0_rowSize x0_rows x0_moved x0_shown x0_tape x0_tapeSize x0_refused x0_lines x0_line x0_changes x0_coins x0_goods x0_good x0_works x0_work x0_years x0_gone x0_spent x0_at x0_token x0_from x0_figures x0_fault x0_numbers x0_statements x0_left x0_far x0_tons x0_way x0_steps x0_met x0_queue x0_totals (-2) e15) rfl rfl (Nat.le_of_ble_eq_true rfl) (by decide) 0 0 rfl rfl rfl [0] [1] rfl (by decide +kernel) rfl rfl [1, 0] (by decide +kernel) (fun _ => rfl) (fun _ => rfl) rfl rfl rfl (fun _ => rfl) (fun _ => ?_)
        obtain rfl := Option.some.inj hf
        exact J_iret hK hR qd3_14.2.2.2.2.2.2.2.2.2.2.1 () rfl (by decide) (by decide)
      · have hf := iq hc28 hf
        refine J_iload hK qd3_14.2.1 rfl 4 rfl ?_
        refine J_i2l hK qd3_14.2.2.1 rfl ?_
        refine J_lconst (v := 0) hK qd3_14.2.2.2.1 rfl (by decide) ?_
        refine J_ldc2 (v := (9999 : Int64)) hK qd3_14.2.2.2.2.1 rfl wk_RX7_140 ?_
        obtain ⟨v16, e17, hf⟩ := bs hf
        refine J_callS (m := 2) (m' := 2) (ce' := 0) (sl' := 0) (gr := [gMd d h0 a0_kept a0_tried a0_chosen r0_rows r0_line r0_good r0_work x0_shelf x0_rowSort x0_rowSize x0_moved x0_shown x0_tape x0_tapeSize x0_refused x0_lines x0_changes x0_coins x0_goods x0_works x0_years x0_gone x0_spent x0_at x0_token x0_from x0_figures x0_fault x0_numbers x0_statements x0_left x0_far x0_tons x0_way x0_steps x0_met x0_queue x0_totals, gridI d r0_work 7 5 x0_work]) (gs' := fun _ => [gMd d h0 a0_kept a0_tried a0_chosen r0_rows r0_line r0_good r0_work x0_shelf x0_rowSort x0_rowSize x0_moved x0_shown x0_tape x0_tapeSize x0_refused x0_lines x0_changes x0_coins x0_goods x0_works x0_years x0_gone x0_spent x0_at x0_token x0_from x0_figures x0_fault x0_numbers x0_statements x0_left x0_far x0_tons x0_way x0_steps x0_met x0_queue x0_totals, gridI d r0_work 7 5 x0_work]) (st' := fun _ => [.int v16]) (st := []) hK qd3_14.2.2.2.2.2.1 cv_RX7_78 ws_yX7_in (As := [.long ((p4).toInt64), .long (0 : Int64), .long (9999 : Int64)]) (kX7_in _ d ((p4).toInt64) (0 : Int64) (9999 : Int64) e17) rfl rfl (Nat.le_of_ble_eq_true rfl) (by decide) [] [0, 1] rfl (by decide +kernel) rfl rfl [0, 1] (by decide +kernel) (fun _ => rfl) (fun _ => rfl) rfl rfl rfl (fun _ => rfl) (fun _ => ?_)
        refine J_if_ne (tg := 51) hK qd3_14.2.2.2.2.2.2.1 rfl rfl (fun hc41 => ?_) (fun hc41 => ?_)
        · have hf := iq hc41 hf
          refine J_aload_n hK qd3_14.2.2.2.2.2.2.2.2.2.2.2.1 rfl 0 rfl rfl ?_
          refine J_get hK fo_RX7_85 qd3_14.2.2.2.2.2.2.2.2.2.2.2.2.1 rfl 0 0 rfl rfl rfl ?_
          refine J_bipush (v := 7) hK qd3_14.2.2.2.2.2.2.2.2.2.2.2.2.2.1 rfl (by decide) ?_
          refine J_icmp_ne (tg := 67) hK qd3_14.2.2.2.2.2.2.2.2.2.2.2.2.2.2.1 rfl rfl (fun hc57 => ?_) (fun hc57 => ?_)
          · have hf := iq hc57 hf
            refine J_aload_n hK qd3_15.2.2.2.1 rfl 0 rfl rfl ?_
            refine J_get hK fo_RX7_51 qd3_15.2.2.2.2.1 rfl 0 0 rfl rfl rfl ?_
            refine J_aload_n hK qd3_15.2.2.2.2.2.1 rfl 0 rfl rfl ?_
            refine J_get hK fo_RX7_85 qd3_15.2.2.2.2.2.2.1 rfl 0 0 rfl rfl rfl ?_
            obtain ⟨q18, eq18, hf⟩ := bs hf
            refine J_aald hK qd3_15.2.2.2.2.2.2.2.1 rfl 0 13 rfl rfl rfl eq18 ?_
            refine J_astore (L' := [(5, .ref (r0_work q18)), (0, .ref (h0 0)), (1, .int p1), (2, .int p2), (3, .int p3), (4, .int p4)]) hK qd3_15.2.2.2.2.2.2.2.2.1 rfl (by decide) rfl ?_
            refine J_aload hK qd3_15.2.2.2.2.2.2.2.2.2.1 rfl 0 rfl ?_
            refine J_iconst (v := 0) hK qd3_15.2.2.2.2.2.2.2.2.2.2.1 rfl (by decide) ?_
            refine J_iload_n hK qd3_15.2.2.2.2.2.2.2.2.2.2.2.1 rfl 2 rfl rfl ?_
            obtain ⟨f19, ef19, hf⟩ := bs hf
            refine J_iast (g' := gridI d r0_work 7 5 (va_up x0_work q18 f19)) (gs' := [gMd d h0 a0_kept a0_tried a0_chosen r0_rows r0_line r0_good r0_work x0_shelf x0_rowSort x0_rowSize x0_moved x0_shown x0_tape x0_tapeSize x0_refused x0_lines x0_changes x0_coins x0_goods x0_works x0_years x0_gone x0_spent x0_at x0_token x0_from x0_figures x0_fault x0_numbers x0_statements x0_left x0_far x0_tons x0_way x0_steps x0_met x0_queue x0_totals, gridI d r0_work 7 5 (va_up x0_work q18 f19)]) hK qd3_15.2.2.2.2.2.2.2.2.2.2.2.2.1 rfl 1 q18 rfl (gridI_at (ck_ok eq18).2.2) ef19 gridI_set rfl ?_
            refine J_aload hK qd3_15.2.2.2.2.2.2.2.2.2.2.2.2.2.1 rfl 0 rfl ?_
            refine J_iconst (v := 1) hK qd3_15.2.2.2.2.2.2.2.2.2.2.2.2.2.2.1 rfl (by decide) ?_
            refine J_iload_n hK qd3_15.2.2.2.2.2.2.2.2.2.2.2.2.2.2.2.1 rfl 3 rfl rfl ?_
            obtain ⟨f20, ef20, hf⟩ := bs hf
            refine J_iast (g' := gridI d r0_work 7 5 (va_up (va_up x0_work q18 f19) q18 f20)) (gs' := [gMd d h0 a0_kept a0_tried a0_chosen r0_rows r0_line r0_good r0_work x0_shelf x0_rowSort x0_rowSize x0_moved x0_shown x0_tape x0_tapeSize x0_refused x0_lines x0_changes x0_coins x0_goods x0_works x0_years x0_gone x0_spent x0_at x0_token x0_from x0_figures x0_fault x0_numbers x0_statements x0_left x0_far x0_tons x0_way x0_steps x0_met x0_queue x0_totals, gridI d r0_work 7 5 (va_up (va_up x0_work q18 f19) q18 f20)]) hK qd3_16.1 rfl 1 q18 rfl (gridI_at (ck_ok eq18).2.2) ef20 gridI_set rfl ?_
            refine J_aload hK qd3_16.2.1 rfl 0 rfl ?_
            refine J_iconst (v := 2) hK qd3_16.2.2.1 rfl (by decide) ?_
            refine J_iload_n hK qd3_16.2.2.2.1 rfl 4 rfl rfl ?_
            obtain ⟨f21, ef21, hf⟩ := bs hf
            refine J_iast (g' := gridI d r0_work 7 5 (va_up (va_up (va_up x0_work q18 f19) q18 f20) q18 f21)) (gs' := [gMd d h0 a0_kept a0_tried a0_chosen r0_rows r0_line r0_good r0_work x0_shelf x0_rowSort x0_rowSize x0_moved x0_shown x0_tape x0_tapeSize x0_refused x0_lines x0_changes x0_coins x0_goods x0_works x0_years x0_gone x0_spent x0_at x0_token x0_from x0_figures x0_fault x0_numbers x0_statements x0_left x0_far x0_tons x0_way x0_steps x0_met x0_queue x0_totals, gridI d r0_work 7 5 (va_up (va_up (va_up x0_work q18 f19) q18 f20) q18 f21)]) hK qd3_16.2.2.2.2.1 rfl 1 q18 rfl (gridI_at (ck_ok eq18).2.2) ef21 gridI_set rfl ?_
            refine J_aload hK qd3_16.2.2.2.2.2.1 rfl 0 rfl ?_
            refine J_iconst (v := 3) hK qd3_16.2.2.2.2.2.2.1 rfl (by decide) ?_
            refine J_iload hK qd3_16.2.2.2.2.2.2.2.1 rfl 5 rfl ?_
            obtain ⟨f22, ef22, hf⟩ := bs hf
            refine J_iast (g' := gridI d r0_work 7 5 (va_up (va_up (va_up (va_up x0_work q18 f19) q18 f20) q18 f21) q18 f22)) (gs' := [gMd d h0 a0_kept a0_tried a0_chosen r0_rows r0_line r0_good r0_work x0_shelf x0_rowSort x0_rowSize x0_moved x0_shown x0_tape x0_tapeSize x0_refused x0_lines x0_changes x0_coins x0_goods x0_works x0_years x0_gone x0_spent x0_at x0_token x0_from x0_figures x0_fault x0_numbers x0_statements x0_left x0_far x0_tons x0_way x0_steps x0_met x0_queue x0_totals, gridI d r0_work 7 5 (va_up (va_up (va_up (va_up x0_work q18 f19) q18 f20) q18 f21) q18 f22)]) hK qd3_16.2.2.2.2.2.2.2.2.1 rfl 1 q18 rfl (gridI_at (ck_ok eq18).2.2) ef22 gridI_set rfl ?_
            refine J_aload hK qd3_16.2.2.2.2.2.2.2.2.2.1 rfl 0 rfl ?_
            refine J_iconst (v := 4) hK qd3_16.2.2.2.2.2.2.2.2.2.2.1 rfl (by decide) ?_
            refine J_iconst (v := 0) hK qd3_16.2.2.2.2.2.2.2.2.2.2.2.1 rfl (by decide) ?_
            obtain ⟨f23, ef23, hf⟩ := bs hf
            refine J_iast (g' := gridI d r0_work 7 5 (va_up (va_up (va_up (va_up (va_up x0_work q18 f19) q18 f20) q18 f21) q18 f22) q18 f23)) (gs' := [gMd d h0 a0_kept a0_tried a0_chosen r0_rows r0_line r0_good r0_work x0_shelf x0_rowSort x0_rowSize x0_moved x0_shown x0_tape x0_tapeSize x0_refused x0_lines x0_changes x0_coins x0_goods x0_works x0_years x0_gone x0_spent x0_at x0_token x0_from x0_figures x0_fault x0_numbers x0_statements x0_left x0_far x0_tons x0_way x0_steps x0_met x0_queue x0_totals, gridI d r0_work 7 5 (va_up (va_up (va_up (va_up (va_up x0_work q18 f19) q18 f20) q18 f21) q18 f22) q18 f23)]) hK qd3_16.2.2.2.2.2.2.2.2.2.2.2.2.1 rfl 1 q18 rfl (gridI_at (ck_ok eq18).2.2) ef23 gridI_set rfl ?_
            refine J_aload_n hK qd3_16.2.2.2.2.2.2.2.2.2.2.2.2.2.1 rfl 1 rfl rfl ?_
            refine J_dup hK qd3_16.2.2.2.2.2.2.2.2.2.2.2.2.2.2.1 rfl rfl ?_
            refine J_get hK fo_RX7_85 qd3_16.2.2.2.2.2.2.2.2.2.2.2.2.2.2.2.1 rfl 0 0 rfl rfl rfl ?_
            refine J_dup_x1 hK qd3_17.1 rfl rfl rfl ?_
            refine J_iconst (v := 1) hK qd3_17.2.1 rfl (by decide) ?_
            refine J_iadd hK qd3_17.2.2.1 rfl ?_
            refine J_put (g' := gMd d h0 a0_kept a0_tried a0_chosen r0_rows r0_line r0_good r0_work x0_shelf x0_rowSort x0_rowSize x0_moved x0_shown x0_tape x0_tapeSize x0_refused x0_lines x0_changes x0_coins x0_goods (x0_works + 1) x0_years x0_gone x0_spent x0_at x0_token x0_from x0_figures x0_fault x0_numbers x0_statements x0_left x0_far x0_tons x0_way x0_steps x0_met x0_queue x0_totals) (gs' := [gMd d h0 a0_kept a0_tried a0_chosen r0_rows r0_line r0_good r0_work x0_shelf x0_rowSort x0_rowSize x0_moved x0_shown x0_tape x0_tapeSize x0_refused x0_lines x0_changes x0_coins x0_goods (x0_works + 1) x0_years x0_gone x0_spent x0_at x0_token x0_from x0_figures x0_fault x0_numbers x0_statements x0_left x0_far x0_tons x0_way x0_steps x0_met x0_queue x0_totals, gridI d r0_work 7 5 (va_up (va_up (va_up (va_up (va_up x0_work q18 f19) q18 f20) q18 f21) q18 f22) q18 f23)]) hK fp_RX7_85 qd3_17.2.2.2.1 rfl 0 0 rfl rfl rfl rfl (Nat.le_of_ble_eq_true rfl) rfl rfl ?_
            obtain rfl := Option.some.inj hf
            exact J_iret hK hR qd3_17.2.2.2.2.1 () rfl (by decide) (by decide)
          · have hf := ip hc57 hf
            refine J_aload_n hK qd3_14.2.2.2.2.2.2.2.2.2.2.2.2.2.2.2.1 rfl 0 rfl rfl ?_
            refine J_bipush (v := (-6)) hK qd3_15.1 rfl (by decide) ?_
            obtain ⟨⟨v24, g25⟩, e26, hf⟩ := bs hf
            have hf := un2 hf
            refine J_callV (m := 2) (m' := 2) (ce' := 0) (sl' := 0) (gr := [gridI d r0_work 7 5 x0_work]) (gs' := fun _ => [gMd d h0 a0_kept a0_tried a0_chosen r0_rows r0_line r0_good r0_work x0_shelf x0_rowSort x0_rowSize x0_moved x0_shown x0_tape x0_tapeSize g25 x0_lines x0_changes x0_coins x0_goods x0_works x0_years x0_gone x0_spent x0_at x0_token x0_from x0_figures x0_fault x0_numbers x0_statements x0_left x0_far x0_tons x0_way x0_steps x0_met x0_queue x0_totals, gridI d r0_work 7 5 x0_work]) (st' := fun _ => [.int v24]) (st := []) hK qd3_15.2.1 cv_RX7_94 iv_yX7_refuse (As := [.int (-6)]) (kX7_refuse _ d h0 r0_rows r0_line r0_good r0_work a0_kept a0_tried a0_chosen x0_shelf x0_rowSort x0_rowSize x0_rows x0_moved x0_shown x0_tape x0_tapeSize x0_refused x0_lines x0_line x0_changes x0_coins x0_goods x0_good x0_works x0_work x0_years x0_gone x0_spent x0_at x0_token x0_from x0_figures x0_fault x0_numbers x0_statements x0_left x0_far x0_tons x0_way x0_steps x0_met x0_queue x0_totals (-6) e26) rfl rfl (Nat.le_of_ble_eq_true rfl) (by decide) 0 0 rfl rfl rfl [0] [1] rfl (by decide +kernel) rfl rfl [1, 0] (by decide +kernel) (fun _ => rfl) (fun _ => rfl) rfl rfl rfl (fun _ => rfl) (fun _ => ?_)
            obtain rfl := Option.some.inj hf
            exact J_iret hK hR qd3_15.2.2.1 () rfl (by decide) (by decide)
        · have hf := ip hc41 hf
          refine J_aload_n hK qd3_14.2.2.2.2.2.2.2.1 rfl 0 rfl rfl ?_
          refine J_bipush (v := (-2)) hK qd3_14.2.2.2.2.2.2.2.2.1 rfl (by decide) ?_
          obtain ⟨⟨v27, g28⟩, e29, hf⟩ := bs hf
          have hf := un2 hf
          refine J_callV (m := 2) (m' := 2) (ce' := 0) (sl' := 0) (gr := [gridI d r0_work 7 5 x0_work]) (gs' := fun _ => [gMd d h0 a0_kept a0_tried a0_chosen r0_rows r0_line r0_good r0_work x0_shelf x0_rowSort x0_rowSize x0_moved x0_shown x0_tape x0_tapeSize g28 x0_lines x0_changes x0_coins x0_goods x0_works x0_years x0_gone x0_spent x0_at x0_token x0_from x0_figures x0_fault x0_numbers x0_statements x0_left x0_far x0_tons x0_way x0_steps x0_met x0_queue x0_totals, gridI d r0_work 7 5 x0_work]) (st' := fun _ => [.int v27]) (st := []) hK qd3_14.2.2.2.2.2.2.2.2.2.1 cv_RX7_94 iv_yX7_refuse (As := [.int (-2)]) (kX7_refuse _ d h0 r0_rows r0_line r0_good r0_work a0_kept a0_tried a0_chosen x0_shelf x0_rowSort x0_rowSize x0_rows x0_moved x0_shown x0_tape x0_tapeSize x0_refused x0_lines x0_line x0_changes x0_coins x0_goods x0_good x0_works x0_work x0_years x0_gone x0_spent x0_at x0_token x0_from x0_figures x0_fault x0_numbers x0_statements x0_left x0_far x0_tons x0_way x0_steps x0_met x0_queue x0_totals (-2) e29) rfl rfl (Nat.le_of_ble_eq_true rfl) (by decide) 0 0 rfl rfl rfl [0] [1] rfl (by decide +kernel) rfl rfl [1, 0] (by decide +kernel) (fun _ => rfl) (fun _ => rfl) rfl rfl rfl (fun _ => rfl) (fun _ => ?_)
          obtain rfl := Option.some.inj hf
          exact J_iret hK hR qd3_14.2.2.2.2.2.2.2.2.2.2.1 () rfl (by decide) (by decide)

def fX7_change (X0 : MdT) (p1 : Int32) (p2 : Int32) : Option (Int32 × (Nat → Int32) × (Nat → Int32)) :=
  u35 (fun (x0_shelf : (Nat → Int32)) (x0_rowSort : (Nat → Int32)) (x0_rowSize : (Nat → Int32)) (x0_rows : (Nat → Nat → Int64)) (x0_moved : (Nat → Int64)) (x0_shown : (Nat → Int32)) (x0_tape : (Nat → Int32)) (x0_tapeSize : Int32) (x0_refused : (Nat → Int32)) (x0_lines : Int32) (x0_line : (Nat → Nat → Int32)) (x0_changes : (Nat → Int32)) (x0_coins : (Nat → Int32)) (x0_goods : Int32) (x0_good : (Nat → Nat → Int32)) (x0_works : Int32) (x0_work : (Nat → Nat → Int32)) (x0_years : Int32) (x0_gone : Int32) (x0_spent : Int32) (x0_at : Int32) (x0_token : Int32) (x0_from : Int32) (x0_figures : Int64) (x0_fault : Int32) (x0_numbers : (Nat → Int32)) (x0_statements : Int32) (x0_left : (Nat → Int32)) (x0_far : (Nat → Int32)) (x0_tons : Int32) (x0_way : (Nat → Int32)) (x0_steps : Int32) (x0_met : Int64) (x0_queue : (Nat → Int32)) (x0_totals : (Nat → Int32)) => (fX7_isPlace p1).bind (fun v1 => if v1 = 0 then ((fX7_refuse (x0_shelf, x0_rowSort, x0_rowSize, x0_rows, x0_moved, x0_shown, x0_tape, x0_tapeSize, x0_refused, x0_lines, x0_line, x0_changes, x0_coins, x0_goods, x0_good, x0_works, x0_work, x0_years, x0_gone, x0_spent, x0_at, x0_token, x0_from, x0_figures, x0_fault, x0_numbers, x0_statements, x0_left, x0_far, x0_tons, x0_way, x0_steps, x0_met, x0_queue, x0_totals) (-2)).bind (u2 fun v3 g4 => some (v3, g4, x0_changes))) else ((fX7_in ((p2).toInt64) (0 : Int64) (99 : Int64)).bind (fun v6 => if v6 = 0 then ((fX7_refuse (x0_shelf, x0_rowSort, x0_rowSize, x0_rows, x0_moved, x0_shown, x0_tape, x0_tapeSize, x0_refused, x0_lines, x0_line, x0_changes, x0_coins, x0_goods, x0_good, x0_works, x0_work, x0_years, x0_gone, x0_spent, x0_at, x0_token, x0_from, x0_figures, x0_fault, x0_numbers, x0_statements, x0_left, x0_far, x0_tons, x0_way, x0_steps, x0_met, x0_queue, x0_totals) (-2)).bind (u2 fun v10 g11 => some (v10, g11, x0_changes))) else ((rd 12 x0_changes p1).bind fun v8 => (wr 12 x0_changes p1 p2).bind fun f9 => some (v8, x0_refused, f9)))))) X0
set_option maxHeartbeats 4000000 in
set_option maxRecDepth 100000 in
theorem kX7_change (l : Launch) (d : DT) (h0 : Nat → Nat) (r0_rows : Nat → Nat) (r0_line : Nat → Nat) (r0_good : Nat → Nat) (r0_work : Nat → Nat) (a0_kept : Option Nat) (a0_tried : Option Nat) (a0_chosen : Option Nat) (x0_shelf : (Nat → Int32)) (x0_rowSort : (Nat → Int32)) (x0_rowSize : (Nat → Int32)) (x0_rows : (Nat → Nat → Int64)) (x0_moved : (Nat → Int64)) (x0_shown : (Nat → Int32)) (x0_tape : (Nat → Int32)) (x0_tapeSize : Int32) (x0_refused : (Nat → Int32)) (x0_lines : Int32) (x0_line : (Nat → Nat → Int32)) (x0_changes : (Nat → Int32)) (x0_coins : (Nat → Int32)) (x0_goods : Int32) (x0_good : (Nat → Nat → Int32)) (x0_works : Int32) (x0_work : (Nat → Nat → Int32)) (x0_years : Int32) (x0_gone : Int32) (x0_spent : Int32) (x0_at : Int32) (x0_token : Int32) (x0_from : Int32) (x0_figures : Int64) (x0_fault : Int32) (x0_numbers : (Nat → Int32)) (x0_statements : Int32) (x0_left : (Nat → Int32)) (x0_far : (Nat → Int32)) (x0_tons : Int32) (x0_way : (Nat → Int32)) (x0_steps : Int32) (x0_met : Int64) (x0_queue : (Nat → Int32)) (x0_totals : (Nat → Int32)) (p1 : Int32) (p2 : Int32)  {out : Int32 × (Nat → Int32) × (Nat → Int32)} (hf : fX7_change (x0_shelf, x0_rowSort, x0_rowSize, x0_rows, x0_moved, x0_shown, x0_tape, x0_tapeSize, x0_refused, x0_lines, x0_line, x0_changes, x0_coins, x0_goods, x0_good, x0_works, x0_work, x0_years, x0_gone, x0_spent, x0_at, x0_token, x0_from, x0_figures, x0_fault, x0_numbers, x0_statements, x0_left, x0_far, x0_tons, x0_way, x0_steps, x0_met, x0_queue, x0_totals) p1 p2 = some out) : Ct l d yX7_change cX7_change 4 (some .int) { frames := 2, cells := 0, slots := 0, locals := 45 } [.ref (h0 0), .int p1, .int p2] [gMd d h0 a0_kept a0_tried a0_chosen r0_rows r0_line r0_good r0_work x0_shelf x0_rowSort x0_rowSize x0_moved x0_shown x0_tape x0_tapeSize x0_refused x0_lines x0_changes x0_coins x0_goods x0_works x0_years x0_gone x0_spent x0_at x0_token x0_from x0_figures x0_fault x0_numbers x0_statements x0_left x0_far x0_tons x0_way x0_steps x0_met x0_queue x0_totals] (fun _ : Unit => (some (.int out.1), [gMd d h0 a0_kept a0_tried a0_chosen r0_rows r0_line r0_good r0_work x0_shelf x0_rowSort x0_rowSize x0_moved x0_shown x0_tape x0_tapeSize (out.2.1) x0_lines (out.2.2) x0_coins x0_goods x0_works x0_years x0_gone x0_spent x0_at x0_token x0_from x0_figures x0_fault x0_numbers x0_statements x0_left x0_far x0_tons x0_way x0_steps x0_met x0_queue x0_totals])) := by
  refine Ct.of (by decide) (Nat.le_of_ble_eq_true rfl) ?_
  intro Φ hl hK hR
  subst hl
  have hK : Ok d Φ RX7 "change" cX7_change 4 (some .int) { frames := 2, cells := 0, slots := 0, locals := 45 } := hK
  unfold fX7_change at hf
  have hf := un35 hf
  show J d Φ 4 [gMd d h0 a0_kept a0_tried a0_chosen r0_rows r0_line r0_good r0_work x0_shelf x0_rowSort x0_rowSize x0_moved x0_shown x0_tape x0_tapeSize x0_refused x0_lines x0_changes x0_coins x0_goods x0_works x0_years x0_gone x0_spent x0_at x0_token x0_from x0_figures x0_fault x0_numbers x0_statements x0_left x0_far x0_tons x0_way x0_steps x0_met x0_queue x0_totals] 0 0 0 [(0, .ref (h0 0)), (1, .int p1), (2, .int p2)] []
  refine J_iload_n hK qd3_18.1 rfl 1 rfl rfl ?_
  obtain ⟨v1, e2, hf⟩ := bs hf
  refine J_callS (m := 1) (m' := 1) (ce' := 0) (sl' := 0) (gr := [gMd d h0 a0_kept a0_tried a0_chosen r0_rows r0_line r0_good r0_work x0_shelf x0_rowSort x0_rowSize x0_moved x0_shown x0_tape x0_tapeSize x0_refused x0_lines x0_changes x0_coins x0_goods x0_works x0_years x0_gone x0_spent x0_at x0_token x0_from x0_figures x0_fault x0_numbers x0_statements x0_left x0_far x0_tons x0_way x0_steps x0_met x0_queue x0_totals]) (gs' := fun _ => [gMd d h0 a0_kept a0_tried a0_chosen r0_rows r0_line r0_good r0_work x0_shelf x0_rowSort x0_rowSize x0_moved x0_shown x0_tape x0_tapeSize x0_refused x0_lines x0_changes x0_coins x0_goods x0_works x0_years x0_gone x0_spent x0_at x0_token x0_from x0_figures x0_fault x0_numbers x0_statements x0_left x0_far x0_tons x0_way x0_steps x0_met x0_queue x0_totals]) (st' := fun _ => [.int v1]) (st := []) hK qd3_18.2.1 cv_RX7_112 ws_yX7_isPlace (As := [.int p1]) (kX7_isPlace _ d p1 e2) rfl rfl (Nat.le_of_ble_eq_true rfl) (by decide) [] [0] rfl (by decide +kernel) rfl rfl [0] (by decide +kernel) (fun _ => rfl) (fun _ => rfl) rfl rfl rfl (fun _ => rfl) (fun _ => ?_)
  refine J_if_eq (tg := 19) hK qd3_18.2.2.1 rfl rfl (fun hc4 => ?_) (fun hc4 => ?_)
  · have hf := ip hc4 hf
    refine J_aload_n hK qd3_18.2.2.2.2.2.2.2.2.2.1 rfl 0 rfl rfl ?_
    refine J_bipush (v := (-2)) hK qd3_18.2.2.2.2.2.2.2.2.2.2.1 rfl (by decide) ?_
    obtain ⟨⟨v3, g4⟩, e5, hf⟩ := bs hf
    have hf := un2 hf
    refine J_callV (m := 1) (m' := 1) (ce' := 0) (sl' := 0) (gr := []) (gs' := fun _ => [gMd d h0 a0_kept a0_tried a0_chosen r0_rows r0_line r0_good r0_work x0_shelf x0_rowSort x0_rowSize x0_moved x0_shown x0_tape x0_tapeSize g4 x0_lines x0_changes x0_coins x0_goods x0_works x0_years x0_gone x0_spent x0_at x0_token x0_from x0_figures x0_fault x0_numbers x0_statements x0_left x0_far x0_tons x0_way x0_steps x0_met x0_queue x0_totals]) (st' := fun _ => [.int v3]) (st := []) hK qd3_18.2.2.2.2.2.2.2.2.2.2.2.1 cv_RX7_94 iv_yX7_refuse (As := [.int (-2)]) (kX7_refuse _ d h0 r0_rows r0_line r0_good r0_work a0_kept a0_tried a0_chosen x0_shelf x0_rowSort x0_rowSize x0_rows x0_moved x0_shown x0_tape x0_tapeSize x0_refused x0_lines x0_line x0_changes x0_coins x0_goods x0_good x0_works x0_work x0_years x0_gone x0_spent x0_at x0_token x0_from x0_figures x0_fault x0_numbers x0_statements x0_left x0_far x0_tons x0_way x0_steps x0_met x0_queue x0_totals (-2) e5) rfl rfl (Nat.le_of_ble_eq_true rfl) (by decide) 0 0 rfl rfl rfl [0] [] rfl (by decide +kernel) rfl rfl [0] (by decide +kernel) (fun _ => rfl) (fun _ => rfl) rfl rfl rfl (fun _ => rfl) (fun _ => ?_)
    obtain rfl := Option.some.inj hf
    exact J_iret hK hR qd3_18.2.2.2.2.2.2.2.2.2.2.2.2.1 () rfl (by decide) (by decide)
  · have hf := iq hc4 hf
    refine J_iload_n hK qd3_18.2.2.2.1 rfl 2 rfl rfl ?_
    refine J_i2l hK qd3_18.2.2.2.2.1 rfl ?_
    refine J_lconst (v := 0) hK qd3_18.2.2.2.2.2.1 rfl (by decide) ?_
    refine J_ldc2 (v := (99 : Int64)) hK qd3_18.2.2.2.2.2.2.1 rfl wk_RX7_123 ?_
    obtain ⟨v6, e7, hf⟩ := bs hf
    refine J_callS (m := 1) (m' := 1) (ce' := 0) (sl' := 0) (gr := [gMd d h0 a0_kept a0_tried a0_chosen r0_rows r0_line r0_good r0_work x0_shelf x0_rowSort x0_rowSize x0_moved x0_shown x0_tape x0_tapeSize x0_refused x0_lines x0_changes x0_coins x0_goods x0_works x0_years x0_gone x0_spent x0_at x0_token x0_from x0_figures x0_fault x0_numbers x0_statements x0_left x0_far x0_tons x0_way x0_steps x0_met x0_queue x0_totals]) (gs' := fun _ => [gMd d h0 a0_kept a0_tried a0_chosen r0_rows r0_line r0_good r0_work x0_shelf x0_rowSort x0_rowSize x0_moved x0_shown x0_tape x0_tapeSize x0_refused x0_lines x0_changes x0_coins x0_goods x0_works x0_years x0_gone x0_spent x0_at x0_token x0_from x0_figures x0_fault x0_numbers x0_statements x0_left x0_far x0_tons x0_way x0_steps x0_met x0_queue x0_totals]) (st' := fun _ => [.int v6]) (st := []) hK qd3_18.2.2.2.2.2.2.2.1 cv_RX7_78 ws_yX7_in (As := [.long ((p2).toInt64), .long (0 : Int64), .long (99 : Int64)]) (kX7_in _ d ((p2).toInt64) (0 : Int64) (99 : Int64) e7) rfl rfl (Nat.le_of_ble_eq_true rfl) (by decide) [] [0] rfl (by decide +kernel) rfl rfl [0] (by decide +kernel) (fun _ => rfl) (fun _ => rfl) rfl rfl rfl (fun _ => rfl) (fun _ => ?_)
    refine J_if_ne (tg := 26) hK qd3_18.2.2.2.2.2.2.2.2.1 rfl rfl (fun hc16 => ?_) (fun hc16 => ?_)
    · have hf := iq hc16 hf
      refine J_aload_n hK qd3_18.2.2.2.2.2.2.2.2.2.2.2.2.2.1 rfl 0 rfl rfl ?_
      refine J_get hK fo_RX7_42 qd3_18.2.2.2.2.2.2.2.2.2.2.2.2.2.2.1 rfl 0 0 rfl rfl rfl ?_
      refine J_iload_n hK qd3_18.2.2.2.2.2.2.2.2.2.2.2.2.2.2.2.1 rfl 1 rfl rfl ?_
      obtain ⟨v8, ev8, hf⟩ := bs hf
      refine J_iald hK qd3_19.1 rfl 0 10 rfl rfl ev8 ?_
      refine J_istore_n (L' := [(3, .int v8), (0, .ref (h0 0)), (1, .int p1), (2, .int p2)]) hK qd3_19.2.1 rfl rfl (by decide) rfl ?_
      refine J_aload_n hK qd3_19.2.2.1 rfl 1 rfl rfl ?_
      refine J_get hK fo_RX7_42 qd3_19.2.2.2.1 rfl 0 0 rfl rfl rfl ?_
      refine J_iload_n hK qd3_19.2.2.2.2.1 rfl 2 rfl rfl ?_
      refine J_iload_n hK qd3_19.2.2.2.2.2.1 rfl 3 rfl rfl ?_
      obtain ⟨f9, ef9, hf⟩ := bs hf
      refine J_iast (g' := gMd d h0 a0_kept a0_tried a0_chosen r0_rows r0_line r0_good r0_work x0_shelf x0_rowSort x0_rowSize x0_moved x0_shown x0_tape x0_tapeSize x0_refused x0_lines f9 x0_coins x0_goods x0_works x0_years x0_gone x0_spent x0_at x0_token x0_from x0_figures x0_fault x0_numbers x0_statements x0_left x0_far x0_tons x0_way x0_steps x0_met x0_queue x0_totals) (gs' := [gMd d h0 a0_kept a0_tried a0_chosen r0_rows r0_line r0_good r0_work x0_shelf x0_rowSort x0_rowSize x0_moved x0_shown x0_tape x0_tapeSize x0_refused x0_lines f9 x0_coins x0_goods x0_works x0_years x0_gone x0_spent x0_at x0_token x0_from x0_figures x0_fault x0_numbers x0_statements x0_left x0_far x0_tons x0_way x0_steps x0_met x0_queue x0_totals]) hK qd3_19.2.2.2.2.2.2.1 rfl 0 10 rfl rfl ef9 rfl rfl ?_
      refine J_iload_n hK qd3_19.2.2.2.2.2.2.2.1 rfl 0 rfl rfl ?_
      obtain rfl := Option.some.inj hf
      exact J_iret hK hR qd3_19.2.2.2.2.2.2.2.2.1 () rfl (by decide) (by decide)
    · have hf := ip hc16 hf
      refine J_aload_n hK qd3_18.2.2.2.2.2.2.2.2.2.1 rfl 0 rfl rfl ?_
      refine J_bipush (v := (-2)) hK qd3_18.2.2.2.2.2.2.2.2.2.2.1 rfl (by decide) ?_
      obtain ⟨⟨v10, g11⟩, e12, hf⟩ := bs hf
      have hf := un2 hf
      refine J_callV (m := 1) (m' := 1) (ce' := 0) (sl' := 0) (gr := []) (gs' := fun _ => [gMd d h0 a0_kept a0_tried a0_chosen r0_rows r0_line r0_good r0_work x0_shelf x0_rowSort x0_rowSize x0_moved x0_shown x0_tape x0_tapeSize g11 x0_lines x0_changes x0_coins x0_goods x0_works x0_years x0_gone x0_spent x0_at x0_token x0_from x0_figures x0_fault x0_numbers x0_statements x0_left x0_far x0_tons x0_way x0_steps x0_met x0_queue x0_totals]) (st' := fun _ => [.int v10]) (st := []) hK qd3_18.2.2.2.2.2.2.2.2.2.2.2.1 cv_RX7_94 iv_yX7_refuse (As := [.int (-2)]) (kX7_refuse _ d h0 r0_rows r0_line r0_good r0_work a0_kept a0_tried a0_chosen x0_shelf x0_rowSort x0_rowSize x0_rows x0_moved x0_shown x0_tape x0_tapeSize x0_refused x0_lines x0_line x0_changes x0_coins x0_goods x0_good x0_works x0_work x0_years x0_gone x0_spent x0_at x0_token x0_from x0_figures x0_fault x0_numbers x0_statements x0_left x0_far x0_tons x0_way x0_steps x0_met x0_queue x0_totals (-2) e12) rfl rfl (Nat.le_of_ble_eq_true rfl) (by decide) 0 0 rfl rfl rfl [0] [] rfl (by decide +kernel) rfl rfl [0] (by decide +kernel) (fun _ => rfl) (fun _ => rfl) rfl rfl rfl (fun _ => rfl) (fun _ => ?_)
      obtain rfl := Option.some.inj hf
      exact J_iret hK hR qd3_18.2.2.2.2.2.2.2.2.2.2.2.2.1 () rfl (by decide) (by decide)

def fX7_coin (X0 : MdT) (p1 : Int32) (p2 : Int32) : Option (Int32 × (Nat → Int32) × (Nat → Int32)) :=
  u35 (fun (x0_shelf : (Nat → Int32)) (x0_rowSort : (Nat → Int32)) (x0_rowSize : (Nat → Int32)) (x0_rows : (Nat → Nat → Int64)) (x0_moved : (Nat → Int64)) (x0_shown : (Nat → Int32)) (x0_tape : (Nat → Int32)) (x0_tapeSize : Int32) (x0_refused : (Nat → Int32)) (x0_lines : Int32) (x0_line : (Nat → Nat → Int32)) (x0_changes : (Nat → Int32)) (x0_coins : (Nat → Int32)) (x0_goods : Int32) (x0_good : (Nat → Nat → Int32)) (x0_works : Int32) (x0_work : (Nat → Nat → Int32)) (x0_years : Int32) (x0_gone : Int32) (x0_spent : Int32) (x0_at : Int32) (x0_token : Int32) (x0_from : Int32) (x0_figures : Int64) (x0_fault : Int32) (x0_numbers : (Nat → Int32)) (x0_statements : Int32) (x0_left : (Nat → Int32)) (x0_far : (Nat → Int32)) (x0_tons : Int32) (x0_way : (Nat → Int32)) (x0_steps : Int32) (x0_met : Int64) (x0_queue : (Nat → Int32)) (x0_totals : (Nat → Int32)) => (fX7_in ((p1).toInt64) (0 : Int64) (2 : Int64)).bind (fun v1 => if v1 = 0 then ((fX7_refuse (x0_shelf, x0_rowSort, x0_rowSize, x0_rows, x0_moved, x0_shown, x0_tape, x0_tapeSize, x0_refused, x0_lines, x0_line, x0_changes, x0_coins, x0_goods, x0_good, x0_works, x0_work, x0_years, x0_gone, x0_spent, x0_at, x0_token, x0_from, x0_figures, x0_fault, x0_numbers, x0_statements, x0_left, x0_far, x0_tons, x0_way, x0_steps, x0_met, x0_queue, x0_totals) (-2)).bind (u2 fun v3 g4 => some (v3, g4, x0_coins))) else ((fX7_in ((p2).toInt64) (0 : Int64) (9 : Int64)).bind (fun v6 => if v6 = 0 then ((fX7_refuse (x0_shelf, x0_rowSort, x0_rowSize, x0_rows, x0_moved, x0_shown, x0_tape, x0_tapeSize, x0_refused, x0_lines, x0_line, x0_changes, x0_coins, x0_goods, x0_good, x0_works, x0_work, x0_years, x0_gone, x0_spent, x0_at, x0_token, x0_from, x0_figures, x0_fault, x0_numbers, x0_statements, x0_left, x0_far, x0_tons, x0_way, x0_steps, x0_met, x0_queue, x0_totals) (-2)).bind (u2 fun v10 g11 => some (v10, g11, x0_coins))) else ((rd 3 x0_coins p1).bind fun v8 => (wr 3 x0_coins p1 p2).bind fun f9 => some (v8, x0_refused, f9)))))) X0
set_option maxHeartbeats 4000000 in
set_option maxRecDepth 100000 in
theorem kX7_coin (l : Launch) (d : DT) (h0 : Nat → Nat) (r0_rows : Nat → Nat) (r0_line : Nat → Nat) (r0_good : Nat → Nat) (r0_work : Nat → Nat) (a0_kept : Option Nat) (a0_tried : Option Nat) (a0_chosen : Option Nat) (x0_shelf : (Nat → Int32)) (x0_rowSort : (Nat → Int32)) (x0_rowSize : (Nat → Int32)) (x0_rows : (Nat → Nat → Int64)) (x0_moved : (Nat → Int64)) (x0_shown : (Nat → Int32)) (x0_tape : (Nat → Int32)) (x0_tapeSize : Int32) (x0_refused : (Nat → Int32)) (x0_lines : Int32) (x0_line : (Nat → Nat → Int32)) (x0_changes : (Nat → Int32)) (x0_coins : (Nat → Int32)) (x0_goods : Int32) (x0_good : (Nat → Nat → Int32)) (x0_works : Int32) (x0_work : (Nat → Nat → Int32)) (x0_years : Int32) (x0_gone : Int32) (x0_spent : Int32) (x0_at : Int32) (x0_token : Int32) (x0_from : Int32) (x0_figures : Int64) (x0_fault : Int32) (x0_numbers : (Nat → Int32)) (x0_statements : Int32) (x0_left : (Nat → Int32)) (x0_far : (Nat → Int32)) (x0_tons : Int32) (x0_way : (Nat → Int32)) (x0_steps : Int32) (x0_met : Int64) (x0_queue : (Nat → Int32)) (x0_totals : (Nat → Int32)) (p1 : Int32) (p2 : Int32)  {out : Int32 × (Nat → Int32) × (Nat → Int32)} (hf : fX7_coin (x0_shelf, x0_rowSort, x0_rowSize, x0_rows, x0_moved, x0_shown, x0_tape, x0_tapeSize, x0_refused, x0_lines, x0_line, x0_changes, x0_coins, x0_goods, x0_good, x0_works, x0_work, x0_years, x0_gone, x0_spent, x0_at, x0_token, x0_from, x0_figures, x0_fault, x0_numbers, x0_statements, x0_left, x0_far, x0_tons, x0_way, x0_steps, x0_met, x0_queue, x0_totals) p1 p2 = some out) : Ct l d yX7_coin cX7_coin 4 (some .int) { frames := 1, cells := 0, slots := 0, locals := 25 } [.ref (h0 0), .int p1, .int p2] [gMd d h0 a0_kept a0_tried a0_chosen r0_rows r0_line r0_good r0_work x0_shelf x0_rowSort x0_rowSize x0_moved x0_shown x0_tape x0_tapeSize x0_refused x0_lines x0_changes x0_coins x0_goods x0_works x0_years x0_gone x0_spent x0_at x0_token x0_from x0_figures x0_fault x0_numbers x0_statements x0_left x0_far x0_tons x0_way x0_steps x0_met x0_queue x0_totals] (fun _ : Unit => (some (.int out.1), [gMd d h0 a0_kept a0_tried a0_chosen r0_rows r0_line r0_good r0_work x0_shelf x0_rowSort x0_rowSize x0_moved x0_shown x0_tape x0_tapeSize (out.2.1) x0_lines x0_changes (out.2.2) x0_goods x0_works x0_years x0_gone x0_spent x0_at x0_token x0_from x0_figures x0_fault x0_numbers x0_statements x0_left x0_far x0_tons x0_way x0_steps x0_met x0_queue x0_totals])) := by
  refine Ct.of (by decide) (Nat.le_of_ble_eq_true rfl) ?_
  intro Φ hl hK hR
  subst hl
  have hK : Ok d Φ RX7 "coin" cX7_coin 4 (some .int) { frames := 1, cells := 0, slots := 0, locals := 25 } := hK
  unfold fX7_coin at hf
  have hf := un35 hf
  show J d Φ 4 [gMd d h0 a0_kept a0_tried a0_chosen r0_rows r0_line r0_good r0_work x0_shelf x0_rowSort x0_rowSize x0_moved x0_shown x0_tape x0_tapeSize x0_refused x0_lines x0_changes x0_coins x0_goods x0_works x0_years x0_gone x0_spent x0_at x0_token x0_from x0_figures x0_fault x0_numbers x0_statements x0_left x0_far x0_tons x0_way x0_steps x0_met x0_queue x0_totals] 0 0 0 [(0, .ref (h0 0)), (1, .int p1), (2, .int p2)] []
  refine J_iload_n hK qd3_20.1 rfl 1 rfl rfl ?_
  refine J_i2l hK qd3_20.2.1 rfl ?_
  refine J_lconst (v := 0) hK qd3_20.2.2.1 rfl (by decide) ?_
  refine J_ldc2 (v := (2 : Int64)) hK qd3_20.2.2.2.1 rfl wk_RX7_131 ?_
  obtain ⟨v1, e2, hf⟩ := bs hf
  refine J_callS (m := 1) (m' := 1) (ce' := 0) (sl' := 0) (gr := [gMd d h0 a0_kept a0_tried a0_chosen r0_rows r0_line r0_good r0_work x0_shelf x0_rowSort x0_rowSize x0_moved x0_shown x0_tape x0_tapeSize x0_refused x0_lines x0_changes x0_coins x0_goods x0_works x0_years x0_gone x0_spent x0_at x0_token x0_from x0_figures x0_fault x0_numbers x0_statements x0_left x0_far x0_tons x0_way x0_steps x0_met x0_queue x0_totals]) (gs' := fun _ => [gMd d h0 a0_kept a0_tried a0_chosen r0_rows r0_line r0_good r0_work x0_shelf x0_rowSort x0_rowSize x0_moved x0_shown x0_tape x0_tapeSize x0_refused x0_lines x0_changes x0_coins x0_goods x0_works x0_years x0_gone x0_spent x0_at x0_token x0_from x0_figures x0_fault x0_numbers x0_statements x0_left x0_far x0_tons x0_way x0_steps x0_met x0_queue x0_totals]) (st' := fun _ => [.int v1]) (st := []) hK qd3_20.2.2.2.2.1 cv_RX7_78 ws_yX7_in (As := [.long ((p1).toInt64), .long (0 : Int64), .long (2 : Int64)]) (kX7_in _ d ((p1).toInt64) (0 : Int64) (2 : Int64) e2) rfl rfl (Nat.le_of_ble_eq_true rfl) (by decide) [] [0] rfl (by decide +kernel) rfl rfl [0] (by decide +kernel) (fun _ => rfl) (fun _ => rfl) rfl rfl rfl (fun _ => rfl) (fun _ => ?_)
  refine J_if_eq (tg := 24) hK qd3_20.2.2.2.2.2.1 rfl rfl (fun hc9 => ?_) (fun hc9 => ?_)
  · have hf := ip hc9 hf
    refine J_aload_n hK qd3_20.2.2.2.2.2.2.2.2.2.2.2.2.1 rfl 0 rfl rfl ?_
    refine J_bipush (v := (-2)) hK qd3_20.2.2.2.2.2.2.2.2.2.2.2.2.2.1 rfl (by decide) ?_
    obtain ⟨⟨v3, g4⟩, e5, hf⟩ := bs hf
    have hf := un2 hf
    refine J_callV (m := 1) (m' := 1) (ce' := 0) (sl' := 0) (gr := []) (gs' := fun _ => [gMd d h0 a0_kept a0_tried a0_chosen r0_rows r0_line r0_good r0_work x0_shelf x0_rowSort x0_rowSize x0_moved x0_shown x0_tape x0_tapeSize g4 x0_lines x0_changes x0_coins x0_goods x0_works x0_years x0_gone x0_spent x0_at x0_token x0_from x0_figures x0_fault x0_numbers x0_statements x0_left x0_far x0_tons x0_way x0_steps x0_met x0_queue x0_totals]) (st' := fun _ => [.int v3]) (st := []) hK qd3_20.2.2.2.2.2.2.2.2.2.2.2.2.2.2.1 cv_RX7_94 iv_yX7_refuse (As := [.int (-2)]) (kX7_refuse _ d h0 r0_rows r0_line r0_good r0_work a0_kept a0_tried a0_chosen x0_shelf x0_rowSort x0_rowSize x0_rows x0_moved x0_shown x0_tape x0_tapeSize x0_refused x0_lines x0_line x0_changes x0_coins x0_goods x0_good x0_works x0_work x0_years x0_gone x0_spent x0_at x0_token x0_from x0_figures x0_fault x0_numbers x0_statements x0_left x0_far x0_tons x0_way x0_steps x0_met x0_queue x0_totals (-2) e5) rfl rfl (Nat.le_of_ble_eq_true rfl) (by decide) 0 0 rfl rfl rfl [0] [] rfl (by decide +kernel) rfl rfl [0] (by decide +kernel) (fun _ => rfl) (fun _ => rfl) rfl rfl rfl (fun _ => rfl) (fun _ => ?_)
    obtain rfl := Option.some.inj hf
    exact J_iret hK hR qd3_20.2.2.2.2.2.2.2.2.2.2.2.2.2.2.2.1 () rfl (by decide) (by decide)
  · have hf := iq hc9 hf
    refine J_iload_n hK qd3_20.2.2.2.2.2.2.1 rfl 2 rfl rfl ?_
    refine J_i2l hK qd3_20.2.2.2.2.2.2.2.1 rfl ?_
    refine J_lconst (v := 0) hK qd3_20.2.2.2.2.2.2.2.2.1 rfl (by decide) ?_
    refine J_ldc2 (v := (9 : Int64)) hK qd3_20.2.2.2.2.2.2.2.2.2.1 rfl wk_RX7_142 ?_
    obtain ⟨v6, e7, hf⟩ := bs hf
    refine J_callS (m := 1) (m' := 1) (ce' := 0) (sl' := 0) (gr := [gMd d h0 a0_kept a0_tried a0_chosen r0_rows r0_line r0_good r0_work x0_shelf x0_rowSort x0_rowSize x0_moved x0_shown x0_tape x0_tapeSize x0_refused x0_lines x0_changes x0_coins x0_goods x0_works x0_years x0_gone x0_spent x0_at x0_token x0_from x0_figures x0_fault x0_numbers x0_statements x0_left x0_far x0_tons x0_way x0_steps x0_met x0_queue x0_totals]) (gs' := fun _ => [gMd d h0 a0_kept a0_tried a0_chosen r0_rows r0_line r0_good r0_work x0_shelf x0_rowSort x0_rowSize x0_moved x0_shown x0_tape x0_tapeSize x0_refused x0_lines x0_changes x0_coins x0_goods x0_works x0_years x0_gone x0_spent x0_at x0_token x0_from x0_figures x0_fault x0_numbers x0_statements x0_left x0_far x0_tons x0_way x0_steps x0_met x0_queue x0_totals]) (st' := fun _ => [.int v6]) (st := []) hK qd3_20.2.2.2.2.2.2.2.2.2.2.1 cv_RX7_78 ws_yX7_in (As := [.long ((p2).toInt64), .long (0 : Int64), .long (9 : Int64)]) (kX7_in _ d ((p2).toInt64) (0 : Int64) (9 : Int64) e7) rfl rfl (Nat.le_of_ble_eq_true rfl) (by decide) [] [0] rfl (by decide +kernel) rfl rfl [0] (by decide +kernel) (fun _ => rfl) (fun _ => rfl) rfl rfl rfl (fun _ => rfl) (fun _ => ?_)
    refine J_if_ne (tg := 31) hK qd3_20.2.2.2.2.2.2.2.2.2.2.2.1 rfl rfl (fun hc21 => ?_) (fun hc21 => ?_)
    · have hf := iq hc21 hf
      refine J_aload_n hK qd3_21.1 rfl 0 rfl rfl ?_
      refine J_get hK fo_RX7_45 qd3_21.2.1 rfl 0 0 rfl rfl rfl ?_
      refine J_iload_n hK qd3_21.2.2.1 rfl 1 rfl rfl ?_
      obtain ⟨v8, ev8, hf⟩ := bs hf
      refine J_iald hK qd3_21.2.2.2.1 rfl 0 11 rfl rfl ev8 ?_
      refine J_istore_n (L' := [(3, .int v8), (0, .ref (h0 0)), (1, .int p1), (2, .int p2)]) hK qd3_21.2.2.2.2.1 rfl rfl (by decide) rfl ?_
      refine J_aload_n hK qd3_21.2.2.2.2.2.1 rfl 1 rfl rfl ?_
      refine J_get hK fo_RX7_45 qd3_21.2.2.2.2.2.2.1 rfl 0 0 rfl rfl rfl ?_
      refine J_iload_n hK qd3_21.2.2.2.2.2.2.2.1 rfl 2 rfl rfl ?_
      refine J_iload_n hK qd3_21.2.2.2.2.2.2.2.2.1 rfl 3 rfl rfl ?_
      obtain ⟨f9, ef9, hf⟩ := bs hf
      refine J_iast (g' := gMd d h0 a0_kept a0_tried a0_chosen r0_rows r0_line r0_good r0_work x0_shelf x0_rowSort x0_rowSize x0_moved x0_shown x0_tape x0_tapeSize x0_refused x0_lines x0_changes f9 x0_goods x0_works x0_years x0_gone x0_spent x0_at x0_token x0_from x0_figures x0_fault x0_numbers x0_statements x0_left x0_far x0_tons x0_way x0_steps x0_met x0_queue x0_totals) (gs' := [gMd d h0 a0_kept a0_tried a0_chosen r0_rows r0_line r0_good r0_work x0_shelf x0_rowSort x0_rowSize x0_moved x0_shown x0_tape x0_tapeSize x0_refused x0_lines x0_changes f9 x0_goods x0_works x0_years x0_gone x0_spent x0_at x0_token x0_from x0_figures x0_fault x0_numbers x0_statements x0_left x0_far x0_tons x0_way x0_steps x0_met x0_queue x0_totals]) hK qd3_21.2.2.2.2.2.2.2.2.2.1 rfl 0 11 rfl rfl ef9 rfl rfl ?_
      refine J_iload_n hK qd3_21.2.2.2.2.2.2.2.2.2.2.1 rfl 0 rfl rfl ?_
      obtain rfl := Option.some.inj hf
      exact J_iret hK hR qd3_21.2.2.2.2.2.2.2.2.2.2.2.1 () rfl (by decide) (by decide)
    · have hf := ip hc21 hf
      refine J_aload_n hK qd3_20.2.2.2.2.2.2.2.2.2.2.2.2.1 rfl 0 rfl rfl ?_
      refine J_bipush (v := (-2)) hK qd3_20.2.2.2.2.2.2.2.2.2.2.2.2.2.1 rfl (by decide) ?_
      obtain ⟨⟨v10, g11⟩, e12, hf⟩ := bs hf
      have hf := un2 hf
      refine J_callV (m := 1) (m' := 1) (ce' := 0) (sl' := 0) (gr := []) (gs' := fun _ => [gMd d h0 a0_kept a0_tried a0_chosen r0_rows r0_line r0_good r0_work x0_shelf x0_rowSort x0_rowSize x0_moved x0_shown x0_tape x0_tapeSize g11 x0_lines x0_changes x0_coins x0_goods x0_works x0_years x0_gone x0_spent x0_at x0_token x0_from x0_figures x0_fault x0_numbers x0_statements x0_left x0_far x0_tons x0_way x0_steps x0_met x0_queue x0_totals]) (st' := fun _ => [.int v10]) (st := []) hK qd3_20.2.2.2.2.2.2.2.2.2.2.2.2.2.2.1 cv_RX7_94 iv_yX7_refuse (As := [.int (-2)]) (kX7_refuse _ d h0 r0_rows r0_line r0_good r0_work a0_kept a0_tried a0_chosen x0_shelf x0_rowSort x0_rowSize x0_rows x0_moved x0_shown x0_tape x0_tapeSize x0_refused x0_lines x0_line x0_changes x0_coins x0_goods x0_good x0_works x0_work x0_years x0_gone x0_spent x0_at x0_token x0_from x0_figures x0_fault x0_numbers x0_statements x0_left x0_far x0_tons x0_way x0_steps x0_met x0_queue x0_totals (-2) e12) rfl rfl (Nat.le_of_ble_eq_true rfl) (by decide) 0 0 rfl rfl rfl [0] [] rfl (by decide +kernel) rfl rfl [0] (by decide +kernel) (fun _ => rfl) (fun _ => rfl) rfl rfl rfl (fun _ => rfl) (fun _ => ?_)
      obtain rfl := Option.some.inj hf
      exact J_iret hK hR qd3_20.2.2.2.2.2.2.2.2.2.2.2.2.2.2.2.1 () rfl (by decide) (by decide)
end
section
def fX7_years (X0 : MdT) (p1 : Int32) : Option (Int32 × (Nat → Int32) × Int32) :=
  u35 (fun (x0_shelf : (Nat → Int32)) (x0_rowSort : (Nat → Int32)) (x0_rowSize : (Nat → Int32)) (x0_rows : (Nat → Nat → Int64)) (x0_moved : (Nat → Int64)) (x0_shown : (Nat → Int32)) (x0_tape : (Nat → Int32)) (x0_tapeSize : Int32) (x0_refused : (Nat → Int32)) (x0_lines : Int32) (x0_line : (Nat → Nat → Int32)) (x0_changes : (Nat → Int32)) (x0_coins : (Nat → Int32)) (x0_goods : Int32) (x0_good : (Nat → Nat → Int32)) (x0_works : Int32) (x0_work : (Nat → Nat → Int32)) (x0_years : Int32) (x0_gone : Int32) (x0_spent : Int32) (x0_at : Int32) (x0_token : Int32) (x0_from : Int32) (x0_figures : Int64) (x0_fault : Int32) (x0_numbers : (Nat → Int32)) (x0_statements : Int32) (x0_left : (Nat → Int32)) (x0_far : (Nat → Int32)) (x0_tons : Int32) (x0_way : (Nat → Int32)) (x0_steps : Int32) (x0_met : Int64) (x0_queue : (Nat → Int32)) (x0_totals : (Nat → Int32)) => (fX7_in ((p1).toInt64) (1 : Int64) (30 : Int64)).bind (fun v1 => if v1 = 0 then ((fX7_refuse (x0_shelf, x0_rowSort, x0_rowSize, x0_rows, x0_moved, x0_shown, x0_tape, x0_tapeSize, x0_refused, x0_lines, x0_line, x0_changes, x0_coins, x0_goods, x0_good, x0_works, x0_work, x0_years, x0_gone, x0_spent, x0_at, x0_token, x0_from, x0_figures, x0_fault, x0_numbers, x0_statements, x0_left, x0_far, x0_tons, x0_way, x0_steps, x0_met, x0_queue, x0_totals) (-2)).bind (u2 fun v3 g4 => some (v3, g4, x0_years))) else (some (x0_years, x0_refused, p1)))) X0
set_option maxHeartbeats 4000000 in
set_option maxRecDepth 100000 in
theorem kX7_years (l : Launch) (d : DT) (h0 : Nat → Nat) (r0_rows : Nat → Nat) (r0_line : Nat → Nat) (r0_good : Nat → Nat) (r0_work : Nat → Nat) (a0_kept : Option Nat) (a0_tried : Option Nat) (a0_chosen : Option Nat) (x0_shelf : (Nat → Int32)) (x0_rowSort : (Nat → Int32)) (x0_rowSize : (Nat → Int32)) (x0_rows : (Nat → Nat → Int64)) (x0_moved : (Nat → Int64)) (x0_shown : (Nat → Int32)) (x0_tape : (Nat → Int32)) (x0_tapeSize : Int32) (x0_refused : (Nat → Int32)) (x0_lines : Int32) (x0_line : (Nat → Nat → Int32)) (x0_changes : (Nat → Int32)) (x0_coins : (Nat → Int32)) (x0_goods : Int32) (x0_good : (Nat → Nat → Int32)) (x0_works : Int32) (x0_work : (Nat → Nat → Int32)) (x0_years : Int32) (x0_gone : Int32) (x0_spent : Int32) (x0_at : Int32) (x0_token : Int32) (x0_from : Int32) (x0_figures : Int64) (x0_fault : Int32) (x0_numbers : (Nat → Int32)) (x0_statements : Int32) (x0_left : (Nat → Int32)) (x0_far : (Nat → Int32)) (x0_tons : Int32) (x0_way : (Nat → Int32)) (x0_steps : Int32) (x0_met : Int64) (x0_queue : (Nat → Int32)) (x0_totals : (Nat → Int32)) (p1 : Int32)  {out : Int32 × (Nat → Int32) × Int32} (hf : fX7_years (x0_shelf, x0_rowSort, x0_rowSize, x0_rows, x0_moved, x0_shown, x0_tape, x0_tapeSize, x0_refused, x0_lines, x0_line, x0_changes, x0_coins, x0_goods, x0_good, x0_works, x0_work, x0_years, x0_gone, x0_spent, x0_at, x0_token, x0_from, x0_figures, x0_fault, x0_numbers, x0_statements, x0_left, x0_far, x0_tons, x0_way, x0_steps, x0_met, x0_queue, x0_totals) p1 = some out) : Ct l d yX7_years cX7_years 3 (some .int) { frames := 1, cells := 0, slots := 0, locals := 25 } [.ref (h0 0), .int p1] [gMd d h0 a0_kept a0_tried a0_chosen r0_rows r0_line r0_good r0_work x0_shelf x0_rowSort x0_rowSize x0_moved x0_shown x0_tape x0_tapeSize x0_refused x0_lines x0_changes x0_coins x0_goods x0_works x0_years x0_gone x0_spent x0_at x0_token x0_from x0_figures x0_fault x0_numbers x0_statements x0_left x0_far x0_tons x0_way x0_steps x0_met x0_queue x0_totals] (fun _ : Unit => (some (.int out.1), [gMd d h0 a0_kept a0_tried a0_chosen r0_rows r0_line r0_good r0_work x0_shelf x0_rowSort x0_rowSize x0_moved x0_shown x0_tape x0_tapeSize (out.2.1) x0_lines x0_changes x0_coins x0_goods x0_works (out.2.2) x0_gone x0_spent x0_at x0_token x0_from x0_figures x0_fault x0_numbers x0_statements x0_left x0_far x0_tons x0_way x0_steps x0_met x0_queue x0_totals])) := by
  refine Ct.of (by decide) (Nat.le_of_ble_eq_true rfl) ?_
  intro Φ hl hK hR
  subst hl
  have hK : Ok d Φ RX7 "years" cX7_years 3 (some .int) { frames := 1, cells := 0, slots := 0, locals := 25 } := hK
  unfold fX7_years at hf
  have hf := un35 hf
  show J d Φ 3 [gMd d h0 a0_kept a0_tried a0_chosen r0_rows r0_line r0_good r0_work x0_shelf x0_rowSort x0_rowSize x0_moved x0_shown x0_tape x0_tapeSize x0_refused x0_lines x0_changes x0_coins x0_goods x0_works x0_years x0_gone x0_spent x0_at x0_token x0_from x0_figures x0_fault x0_numbers x0_statements x0_left x0_far x0_tons x0_way x0_steps x0_met x0_queue x0_totals] 0 0 0 [(0, .ref (h0 0)), (1, .int p1)] []
  refine J_iload_n hK qd3_22.1 rfl 1 rfl rfl ?_
  refine J_i2l hK qd3_22.2.1 rfl ?_
  refine J_lconst (v := 1) hK qd3_22.2.2.1 rfl (by decide) ?_
  refine J_ldc2 (v := (30 : Int64)) hK qd3_22.2.2.2.1 rfl wk_RX7_144 ?_
  obtain ⟨v1, e2, hf⟩ := bs hf
  refine J_callS (m := 1) (m' := 1) (ce' := 0) (sl' := 0) (gr := [gMd d h0 a0_kept a0_tried a0_chosen r0_rows r0_line r0_good r0_work x0_shelf x0_rowSort x0_rowSize x0_moved x0_shown x0_tape x0_tapeSize x0_refused x0_lines x0_changes x0_coins x0_goods x0_works x0_years x0_gone x0_spent x0_at x0_token x0_from x0_figures x0_fault x0_numbers x0_statements x0_left x0_far x0_tons x0_way x0_steps x0_met x0_queue x0_totals]) (gs' := fun _ => [gMd d h0 a0_kept a0_tried a0_chosen r0_rows r0_line r0_good r0_work x0_shelf x0_rowSort x0_rowSize x0_moved x0_shown x0_tape x0_tapeSize x0_refused x0_lines x0_changes x0_coins x0_goods x0_works x0_years x0_gone x0_spent x0_at x0_token x0_from x0_figures x0_fault x0_numbers x0_statements x0_left x0_far x0_tons x0_way x0_steps x0_met x0_queue x0_totals]) (st' := fun _ => [.int v1]) (st := []) hK qd3_22.2.2.2.2.1 cv_RX7_78 ws_yX7_in (As := [.long ((p1).toInt64), .long (1 : Int64), .long (30 : Int64)]) (kX7_in _ d ((p1).toInt64) (1 : Int64) (30 : Int64) e2) rfl rfl (Nat.le_of_ble_eq_true rfl) (by decide) [] [0] rfl (by decide +kernel) rfl rfl [0] (by decide +kernel) (fun _ => rfl) (fun _ => rfl) rfl rfl rfl (fun _ => rfl) (fun _ => ?_)
  refine J_if_ne (tg := 19) hK qd3_22.2.2.2.2.2.1 rfl rfl (fun hc9 => ?_) (fun hc9 => ?_)
  · have hf := iq hc9 hf
    refine J_aload_n hK qd3_22.2.2.2.2.2.2.2.2.2.2.1 rfl 0 rfl rfl ?_
    refine J_get hK fo_RX7_54 qd3_22.2.2.2.2.2.2.2.2.2.2.2.1 rfl 0 0 rfl rfl rfl ?_
    refine J_istore_n (L' := [(2, .int x0_years), (0, .ref (h0 0)), (1, .int p1)]) hK qd3_22.2.2.2.2.2.2.2.2.2.2.2.2.1 rfl rfl (by decide) rfl ?_
    refine J_aload_n hK qd3_22.2.2.2.2.2.2.2.2.2.2.2.2.2.1 rfl 1 rfl rfl ?_
    refine J_iload_n hK qd3_22.2.2.2.2.2.2.2.2.2.2.2.2.2.2.1 rfl 2 rfl rfl ?_
    refine J_put (g' := gMd d h0 a0_kept a0_tried a0_chosen r0_rows r0_line r0_good r0_work x0_shelf x0_rowSort x0_rowSize x0_moved x0_shown x0_tape x0_tapeSize x0_refused x0_lines x0_changes x0_coins x0_goods x0_works p1 x0_gone x0_spent x0_at x0_token x0_from x0_figures x0_fault x0_numbers x0_statements x0_left x0_far x0_tons x0_way x0_steps x0_met x0_queue x0_totals) (gs' := [gMd d h0 a0_kept a0_tried a0_chosen r0_rows r0_line r0_good r0_work x0_shelf x0_rowSort x0_rowSize x0_moved x0_shown x0_tape x0_tapeSize x0_refused x0_lines x0_changes x0_coins x0_goods x0_works p1 x0_gone x0_spent x0_at x0_token x0_from x0_figures x0_fault x0_numbers x0_statements x0_left x0_far x0_tons x0_way x0_steps x0_met x0_queue x0_totals]) hK fp_RX7_54 qd3_22.2.2.2.2.2.2.2.2.2.2.2.2.2.2.2.1 rfl 0 0 rfl rfl rfl rfl (Nat.le_of_ble_eq_true rfl) rfl rfl ?_
    refine J_iload_n hK qd3_23.1 rfl 0 rfl rfl ?_
    obtain rfl := Option.some.inj hf
    exact J_iret hK hR qd3_23.2.1 () rfl (by decide) (by decide)
  · have hf := ip hc9 hf
    refine J_aload_n hK qd3_22.2.2.2.2.2.2.1 rfl 0 rfl rfl ?_
    refine J_bipush (v := (-2)) hK qd3_22.2.2.2.2.2.2.2.1 rfl (by decide) ?_
    obtain ⟨⟨v3, g4⟩, e5, hf⟩ := bs hf
    have hf := un2 hf
    refine J_callV (m := 1) (m' := 1) (ce' := 0) (sl' := 0) (gr := []) (gs' := fun _ => [gMd d h0 a0_kept a0_tried a0_chosen r0_rows r0_line r0_good r0_work x0_shelf x0_rowSort x0_rowSize x0_moved x0_shown x0_tape x0_tapeSize g4 x0_lines x0_changes x0_coins x0_goods x0_works x0_years x0_gone x0_spent x0_at x0_token x0_from x0_figures x0_fault x0_numbers x0_statements x0_left x0_far x0_tons x0_way x0_steps x0_met x0_queue x0_totals]) (st' := fun _ => [.int v3]) (st := []) hK qd3_22.2.2.2.2.2.2.2.2.1 cv_RX7_94 iv_yX7_refuse (As := [.int (-2)]) (kX7_refuse _ d h0 r0_rows r0_line r0_good r0_work a0_kept a0_tried a0_chosen x0_shelf x0_rowSort x0_rowSize x0_rows x0_moved x0_shown x0_tape x0_tapeSize x0_refused x0_lines x0_line x0_changes x0_coins x0_goods x0_good x0_works x0_work x0_years x0_gone x0_spent x0_at x0_token x0_from x0_figures x0_fault x0_numbers x0_statements x0_left x0_far x0_tons x0_way x0_steps x0_met x0_queue x0_totals (-2) e5) rfl rfl (Nat.le_of_ble_eq_true rfl) (by decide) 0 0 rfl rfl rfl [0] [] rfl (by decide +kernel) rfl rfl [0] (by decide +kernel) (fun _ => rfl) (fun _ => rfl) rfl rfl rfl (fun _ => rfl) (fun _ => ?_)
    obtain rfl := Option.some.inj hf
    exact J_iret hK hR qd3_22.2.2.2.2.2.2.2.2.2.1 () rfl (by decide) (by decide)

def fX7_washed_j42 (p1 : Int32) (x0_refused : (Nat → Int32)) (x0_line : (Nat → Nat → Int32)) (v4 : Int32) (q5 : Nat) (y6 : Int32) : Option (Int32 × (Nat → Int32) × (Nat → Nat → Int32)) :=
  (wr 7 (x0_line q5) (6) y6).bind fun f7 => (ck p1 20).bind fun q8 => (rd 7 ((va_up x0_line q5 f7) q8) (6)).bind fun v9 => if v4 = v9 then (some (0, x0_refused, (va_up x0_line q5 f7))) else (some (1, x0_refused, (va_up x0_line q5 f7)))
def fX7_washed (X0 : MdT) (p1 : Int32) (p2 : Int32) : Option (Int32 × (Nat → Int32) × (Nat → Nat → Int32)) :=
  u35 (fun (x0_shelf : (Nat → Int32)) (x0_rowSort : (Nat → Int32)) (x0_rowSize : (Nat → Int32)) (x0_rows : (Nat → Nat → Int64)) (x0_moved : (Nat → Int64)) (x0_shown : (Nat → Int32)) (x0_tape : (Nat → Int32)) (x0_tapeSize : Int32) (x0_refused : (Nat → Int32)) (x0_lines : Int32) (x0_line : (Nat → Nat → Int32)) (x0_changes : (Nat → Int32)) (x0_coins : (Nat → Int32)) (x0_goods : Int32) (x0_good : (Nat → Nat → Int32)) (x0_works : Int32) (x0_work : (Nat → Nat → Int32)) (x0_years : Int32) (x0_gone : Int32) (x0_spent : Int32) (x0_at : Int32) (x0_token : Int32) (x0_from : Int32) (x0_figures : Int64) (x0_fault : Int32) (x0_numbers : (Nat → Int32)) (x0_statements : Int32) (x0_left : (Nat → Int32)) (x0_far : (Nat → Int32)) (x0_tons : Int32) (x0_way : (Nat → Int32)) (x0_steps : Int32) (x0_met : Int64) (x0_queue : (Nat → Int32)) (x0_totals : (Nat → Int32)) => (fX7_isLine (x0_shelf, x0_rowSort, x0_rowSize, x0_rows, x0_moved, x0_shown, x0_tape, x0_tapeSize, x0_refused, x0_lines, x0_line, x0_changes, x0_coins, x0_goods, x0_good, x0_works, x0_work, x0_years, x0_gone, x0_spent, x0_at, x0_token, x0_from, x0_figures, x0_fault, x0_numbers, x0_statements, x0_left, x0_far, x0_tons, x0_way, x0_steps, x0_met, x0_queue, x0_totals) p1).bind (fun v1 => if v1 = 0 then ((fX7_refuse (x0_shelf, x0_rowSort, x0_rowSize, x0_rows, x0_moved, x0_shown, x0_tape, x0_tapeSize, x0_refused, x0_lines, x0_line, x0_changes, x0_coins, x0_goods, x0_good, x0_works, x0_work, x0_years, x0_gone, x0_spent, x0_at, x0_token, x0_from, x0_figures, x0_fault, x0_numbers, x0_statements, x0_left, x0_far, x0_tons, x0_way, x0_steps, x0_met, x0_queue, x0_totals) (-2)).bind (u2 fun v10 g11 => some (v10, g11, x0_line))) else ((ck p1 20).bind fun q3 => (rd 7 (x0_line q3) (6)).bind fun v4 => (ck p1 20).bind fun q5 => if p2 = 0 then (fX7_washed_j42 p1 x0_refused x0_line v4 q5 (0)) else (fX7_washed_j42 p1 x0_refused x0_line v4 q5 (1))))) X0
set_option maxHeartbeats 4000000 in
set_option maxRecDepth 100000 in
theorem kX7_washed (l : Launch) (d : DT) (h0 : Nat → Nat) (r0_rows : Nat → Nat) (r0_line : Nat → Nat) (r0_good : Nat → Nat) (r0_work : Nat → Nat) (a0_kept : Option Nat) (a0_tried : Option Nat) (a0_chosen : Option Nat) (x0_shelf : (Nat → Int32)) (x0_rowSort : (Nat → Int32)) (x0_rowSize : (Nat → Int32)) (x0_rows : (Nat → Nat → Int64)) (x0_moved : (Nat → Int64)) (x0_shown : (Nat → Int32)) (x0_tape : (Nat → Int32)) (x0_tapeSize : Int32) (x0_refused : (Nat → Int32)) (x0_lines : Int32) (x0_line : (Nat → Nat → Int32)) (x0_changes : (Nat → Int32)) (x0_coins : (Nat → Int32)) (x0_goods : Int32) (x0_good : (Nat → Nat → Int32)) (x0_works : Int32) (x0_work : (Nat → Nat → Int32)) (x0_years : Int32) (x0_gone : Int32) (x0_spent : Int32) (x0_at : Int32) (x0_token : Int32) (x0_from : Int32) (x0_figures : Int64) (x0_fault : Int32) (x0_numbers : (Nat → Int32)) (x0_statements : Int32) (x0_left : (Nat → Int32)) (x0_far : (Nat → Int32)) (x0_tons : Int32) (x0_way : (Nat → Int32)) (x0_steps : Int32) (x0_met : Int64) (x0_queue : (Nat → Int32)) (x0_totals : (Nat → Int32)) (p1 : Int32) (p2 : Int32)  {out : Int32 × (Nat → Int32) × (Nat → Nat → Int32)} (hf : fX7_washed (x0_shelf, x0_rowSort, x0_rowSize, x0_rows, x0_moved, x0_shown, x0_tape, x0_tapeSize, x0_refused, x0_lines, x0_line, x0_changes, x0_coins, x0_goods, x0_good, x0_works, x0_work, x0_years, x0_gone, x0_spent, x0_at, x0_token, x0_from, x0_figures, x0_fault, x0_numbers, x0_statements, x0_left, x0_far, x0_tons, x0_way, x0_steps, x0_met, x0_queue, x0_totals) p1 p2 = some out) : Ct l d yX7_washed cX7_washed 4 (some .int) { frames := 2, cells := 0, slots := 0, locals := 46 } [.ref (h0 0), .int p1, .int p2] [gMd d h0 a0_kept a0_tried a0_chosen r0_rows r0_line r0_good r0_work x0_shelf x0_rowSort x0_rowSize x0_moved x0_shown x0_tape x0_tapeSize x0_refused x0_lines x0_changes x0_coins x0_goods x0_works x0_years x0_gone x0_spent x0_at x0_token x0_from x0_figures x0_fault x0_numbers x0_statements x0_left x0_far x0_tons x0_way x0_steps x0_met x0_queue x0_totals, gridI d r0_line 20 7 x0_line] (fun _ : Unit => (some (.int out.1), [gMd d h0 a0_kept a0_tried a0_chosen r0_rows r0_line r0_good r0_work x0_shelf x0_rowSort x0_rowSize x0_moved x0_shown x0_tape x0_tapeSize (out.2.1) x0_lines x0_changes x0_coins x0_goods x0_works x0_years x0_gone x0_spent x0_at x0_token x0_from x0_figures x0_fault x0_numbers x0_statements x0_left x0_far x0_tons x0_way x0_steps x0_met x0_queue x0_totals, gridI d r0_line 20 7 (out.2.2)])) := by
  refine Ct.of (by decide) (Nat.le_of_ble_eq_true rfl) ?_
  intro Φ hl hK hR
  subst hl
  have hK : Ok d Φ RX7 "washed" cX7_washed 4 (some .int) { frames := 2, cells := 0, slots := 0, locals := 46 } := hK
  unfold fX7_washed at hf
  have hf := un35 hf
  show J d Φ 4 [gMd d h0 a0_kept a0_tried a0_chosen r0_rows r0_line r0_good r0_work x0_shelf x0_rowSort x0_rowSize x0_moved x0_shown x0_tape x0_tapeSize x0_refused x0_lines x0_changes x0_coins x0_goods x0_works x0_years x0_gone x0_spent x0_at x0_token x0_from x0_figures x0_fault x0_numbers x0_statements x0_left x0_far x0_tons x0_way x0_steps x0_met x0_queue x0_totals, gridI d r0_line 20 7 x0_line] 0 0 0 [(0, .ref (h0 0)), (1, .int p1), (2, .int p2)] []
  refine J_aload_n hK qd3_24.1 rfl 0 rfl rfl ?_
  refine J_iload_n hK qd3_24.2.1 rfl 1 rfl rfl ?_
  obtain ⟨v1, e2, hf⟩ := bs hf
  refine J_callV (m := 2) (m' := 2) (ce' := 0) (sl' := 0) (gr := [gridI d r0_line 20 7 x0_line]) (gs' := fun _ => [gMd d h0 a0_kept a0_tried a0_chosen r0_rows r0_line r0_good r0_work x0_shelf x0_rowSort x0_rowSize x0_moved x0_shown x0_tape x0_tapeSize x0_refused x0_lines x0_changes x0_coins x0_goods x0_works x0_years x0_gone x0_spent x0_at x0_token x0_from x0_figures x0_fault x0_numbers x0_statements x0_left x0_far x0_tons x0_way x0_steps x0_met x0_queue x0_totals, gridI d r0_line 20 7 x0_line]) (st' := fun _ => [.int v1]) (st := []) hK qd3_24.2.2.1 cv_RX7_128 iv_yX7_isLine (As := [.int p1]) (kX7_isLine _ d h0 r0_rows r0_line r0_good r0_work a0_kept a0_tried a0_chosen x0_shelf x0_rowSort x0_rowSize x0_rows x0_moved x0_shown x0_tape x0_tapeSize x0_refused x0_lines x0_line x0_changes x0_coins x0_goods x0_good x0_works x0_work x0_years x0_gone x0_spent x0_at x0_token x0_from x0_figures x0_fault x0_numbers x0_statements x0_left x0_far x0_tons x0_way x0_steps x0_met x0_queue x0_totals p1 e2) rfl rfl (Nat.le_of_ble_eq_true rfl) (by decide) 0 0 rfl rfl rfl [0] [1] rfl (by decide +kernel) rfl rfl [1, 0] (by decide +kernel) (fun _ => rfl) (fun _ => rfl) rfl rfl rfl (fun _ => rfl) (fun _ => ?_)
  refine J_if_ne (tg := 15) hK qd3_24.2.2.2.1 rfl rfl (fun hc5 => ?_) (fun hc5 => ?_)
  · have hf := iq hc5 hf
    refine J_aload_n hK qd3_24.2.2.2.2.2.2.2.2.1 rfl 0 rfl rfl ?_
    refine J_get hK fo_RX7_39 qd3_24.2.2.2.2.2.2.2.2.2.1 rfl 0 0 rfl rfl rfl ?_
    refine J_iload_n hK qd3_24.2.2.2.2.2.2.2.2.2.2.1 rfl 1 rfl rfl ?_
    obtain ⟨q3, eq3, hf⟩ := bs hf
    refine J_aald hK qd3_24.2.2.2.2.2.2.2.2.2.2.2.1 rfl 0 9 rfl rfl rfl eq3 ?_
    refine J_bipush (v := 6) hK qd3_24.2.2.2.2.2.2.2.2.2.2.2.2.1 rfl (by decide) ?_
    obtain ⟨v4, ev4, hf⟩ := bs hf
    refine J_iald hK qd3_24.2.2.2.2.2.2.2.2.2.2.2.2.2.1 rfl 1 q3 rfl (gridI_at (ck_ok eq3).2.2) ev4 ?_
    refine J_istore_n (L' := [(3, .int v4), (0, .ref (h0 0)), (1, .int p1), (2, .int p2)]) hK qd3_24.2.2.2.2.2.2.2.2.2.2.2.2.2.2.1 rfl rfl (by decide) rfl ?_
    refine J_aload_n hK qd3_24.2.2.2.2.2.2.2.2.2.2.2.2.2.2.2.1 rfl 1 rfl rfl ?_
    refine J_get hK fo_RX7_39 qd3_25.1 rfl 0 0 rfl rfl rfl ?_
    refine J_iload_n hK qd3_25.2.1 rfl 2 rfl rfl ?_
    obtain ⟨q5, eq5, hf⟩ := bs hf
    refine J_aald hK qd3_25.2.2.1 rfl 0 9 rfl rfl rfl eq5 ?_
    refine J_bipush (v := 6) hK qd3_25.2.2.2.1 rfl (by decide) ?_
    refine J_iload_n hK qd3_25.2.2.2.2.1 rfl 3 rfl rfl ?_
    have j42 : ∀ (y6 : Int32), fX7_washed_j42 p1 x0_refused x0_line v4 q5 y6 = some out → J d Φ 4 [gMd d h0 a0_kept a0_tried a0_chosen r0_rows r0_line r0_good r0_work x0_shelf x0_rowSort x0_rowSize x0_moved x0_shown x0_tape x0_tapeSize x0_refused x0_lines x0_changes x0_coins x0_goods x0_works x0_years x0_gone x0_spent x0_at x0_token x0_from x0_figures x0_fault x0_numbers x0_statements x0_left x0_far x0_tons x0_way x0_steps x0_met x0_queue x0_totals, gridI d r0_line 20 7 x0_line] 0 0 42 [(0, .ref (h0 0)), (1, .int p1), (3, .int v4)] [.int y6, .int (6), .ref (r0_line q5)] := by
      intro y6 hf
      unfold fX7_washed_j42 at hf
      obtain ⟨f7, ef7, hf⟩ := bs hf
      refine J_iast (g' := gridI d r0_line 20 7 (va_up x0_line q5 f7)) (gs' := [gMd d h0 a0_kept a0_tried a0_chosen r0_rows r0_line r0_good r0_work x0_shelf x0_rowSort x0_rowSize x0_moved x0_shown x0_tape x0_tapeSize x0_refused x0_lines x0_changes x0_coins x0_goods x0_works x0_years x0_gone x0_spent x0_at x0_token x0_from x0_figures x0_fault x0_numbers x0_statements x0_left x0_far x0_tons x0_way x0_steps x0_met x0_queue x0_totals, gridI d r0_line 20 7 (va_up x0_line q5 f7)]) hK qd3_25.2.2.2.2.2.2.2.2.2.1 rfl 1 q5 rfl (gridI_at (ck_ok eq5).2.2) ef7 gridI_set rfl ?_
      refine J_iload_n hK qd3_25.2.2.2.2.2.2.2.2.2.2.1 rfl 2 rfl rfl ?_
      refine J_aload_n hK qd3_25.2.2.2.2.2.2.2.2.2.2.2.1 rfl 0 rfl rfl ?_
      refine J_get hK fo_RX7_39 qd3_25.2.2.2.2.2.2.2.2.2.2.2.2.1 rfl 0 0 rfl rfl rfl ?_
      refine J_iload_n hK qd3_25.2.2.2.2.2.2.2.2.2.2.2.2.2.1 rfl 1 rfl rfl ?_
      obtain ⟨q8, eq8, hf⟩ := bs hf
      refine J_aald hK qd3_25.2.2.2.2.2.2.2.2.2.2.2.2.2.2.1 rfl 0 9 rfl rfl rfl eq8 ?_
      refine J_bipush (v := 6) hK qd3_25.2.2.2.2.2.2.2.2.2.2.2.2.2.2.2.1 rfl (by decide) ?_
      obtain ⟨v9, ev9, hf⟩ := bs hf
      refine J_iald hK qd3_26.1 rfl 1 q8 rfl (gridI_at (ck_ok eq8).2.2) ev9 ?_
      refine J_icmp_eq (tg := 60) hK qd3_26.2.1 rfl rfl (fun hc53 => ?_) (fun hc53 => ?_)
      · have hf := ip hc53 hf
        refine J_iconst (v := 0) hK qd3_26.2.2.2.2.1 rfl (by decide) ?_
        obtain rfl := Option.some.inj hf
        exact J_iret hK hR qd3_26.2.2.2.2.2.1 () rfl (by decide) (by decide)
      · have hf := iq hc53 hf
        refine J_iconst (v := 1) hK qd3_26.2.2.1 rfl (by decide) ?_
        refine J_goto hK qd3_26.2.2.2.1 (n := 61) rfl ?_
        obtain rfl := Option.some.inj hf
        exact J_iret hK hR qd3_26.2.2.2.2.2.1 () rfl (by decide) (by decide)
    refine J_if_eq (tg := 41) hK qd3_25.2.2.2.2.2.1 rfl rfl (fun hc34 => ?_) (fun hc34 => ?_)
    · have hf := ip hc34 hf
      refine J_iconst (v := 0) hK qd3_25.2.2.2.2.2.2.2.2.1 rfl (by decide) ?_
      exact J_loc [1, 2, 0] rfl (j42 (0) hf)
    · have hf := iq hc34 hf
      refine J_iconst (v := 1) hK qd3_25.2.2.2.2.2.2.1 rfl (by decide) ?_
      refine J_goto hK qd3_25.2.2.2.2.2.2.2.1 (n := 42) rfl ?_
      exact J_loc [1, 2, 0] rfl (j42 (1) hf)
  · have hf := ip hc5 hf
    refine J_aload_n hK qd3_24.2.2.2.2.1 rfl 0 rfl rfl ?_
    refine J_bipush (v := (-2)) hK qd3_24.2.2.2.2.2.1 rfl (by decide) ?_
    obtain ⟨⟨v10, g11⟩, e12, hf⟩ := bs hf
    have hf := un2 hf
    refine J_callV (m := 2) (m' := 2) (ce' := 0) (sl' := 0) (gr := [gridI d r0_line 20 7 x0_line]) (gs' := fun _ => [gMd d h0 a0_kept a0_tried a0_chosen r0_rows r0_line r0_good r0_work x0_shelf x0_rowSort x0_rowSize x0_moved x0_shown x0_tape x0_tapeSize g11 x0_lines x0_changes x0_coins x0_goods x0_works x0_years x0_gone x0_spent x0_at x0_token x0_from x0_figures x0_fault x0_numbers x0_statements x0_left x0_far x0_tons x0_way x0_steps x0_met x0_queue x0_totals, gridI d r0_line 20 7 x0_line]) (st' := fun _ => [.int v10]) (st := []) hK qd3_24.2.2.2.2.2.2.1 cv_RX7_94 iv_yX7_refuse (As := [.int (-2)]) (kX7_refuse _ d h0 r0_rows r0_line r0_good r0_work a0_kept a0_tried a0_chosen x0_shelf x0_rowSort x0_rowSize x0_rows x0_moved x0_shown x0_tape x0_tapeSize x0_refused x0_lines x0_line x0_changes x0_coins x0_goods x0_good x0_works x0_work x0_years x0_gone x0_spent x0_at x0_token x0_from x0_figures x0_fault x0_numbers x0_statements x0_left x0_far x0_tons x0_way x0_steps x0_met x0_queue x0_totals (-2) e12) rfl rfl (Nat.le_of_ble_eq_true rfl) (by decide) 0 0 rfl rfl rfl [0] [1] rfl (by decide +kernel) rfl rfl [1, 0] (by decide +kernel) (fun _ => rfl) (fun _ => rfl) rfl rfl rfl (fun _ => rfl) (fun _ => ?_)
    obtain rfl := Option.some.inj hf
    exact J_iret hK hR qd3_24.2.2.2.2.2.2.2.1 () rfl (by decide) (by decide)

def fX7_feed_s42 (p1 : Int32) (z4 : Int32) (z5 : (Nat → Int32)) (z6 : Int32) : Option ((Int32 × (Nat → Int32) × Int32) ⊕ ((Nat → Int32) × Int32)) :=
  if z4 < 0 then (some (.inr (z5, z6))) else ((some ((p1 >>> ((8 * z4) &&& 31)) &&& 255)).bind fun t10 => (wr 250 z5 z6 t10).bind fun f11 => some (.inl ((z4 + (-1)), f11, (z6 + 1))))
def fX7_feed (n : Nat) (X0 : MdT) (p1 : Int32) (p2 : Int32) : Option (Int32 × (Nat → Int32) × Int32 × (Nat → Int32)) :=
  u35 (fun (x0_shelf : (Nat → Int32)) (x0_rowSort : (Nat → Int32)) (x0_rowSize : (Nat → Int32)) (x0_rows : (Nat → Nat → Int64)) (x0_moved : (Nat → Int64)) (x0_shown : (Nat → Int32)) (x0_tape : (Nat → Int32)) (x0_tapeSize : Int32) (x0_refused : (Nat → Int32)) (x0_lines : Int32) (x0_line : (Nat → Nat → Int32)) (x0_changes : (Nat → Int32)) (x0_coins : (Nat → Int32)) (x0_goods : Int32) (x0_good : (Nat → Nat → Int32)) (x0_works : Int32) (x0_work : (Nat → Nat → Int32)) (x0_years : Int32) (x0_gone : Int32) (x0_spent : Int32) (x0_at : Int32) (x0_token : Int32) (x0_from : Int32) (x0_figures : Int64) (x0_fault : Int32) (x0_numbers : (Nat → Int32)) (x0_statements : Int32) (x0_left : (Nat → Int32)) (x0_far : (Nat → Int32)) (x0_tons : Int32) (x0_way : (Nat → Int32)) (x0_steps : Int32) (x0_met : Int64) (x0_queue : (Nat → Int32)) (x0_totals : (Nat → Int32)) => (fX7_in ((p2).toInt64) (1 : Int64) (4 : Int64)).bind (fun v1 => if v1 = 0 then ((fX7_refuse (x0_shelf, x0_rowSort, x0_rowSize, x0_rows, x0_moved, x0_shown, x0_tape, x0_tapeSize, x0_refused, x0_lines, x0_line, x0_changes, x0_coins, x0_goods, x0_good, x0_works, x0_work, x0_years, x0_gone, x0_spent, x0_at, x0_token, x0_from, x0_figures, x0_fault, x0_numbers, x0_statements, x0_left, x0_far, x0_tons, x0_way, x0_steps, x0_met, x0_queue, x0_totals) (-2)).bind (u2 fun v15 g16 => some (v15, x0_tape, x0_tapeSize, g16))) else (if p2 ≤ (250 - x0_tapeSize) then ((lp (u3 (fX7_feed_s42 p1)) n ((p2 - 1), x0_tape, x0_tapeSize)).bind (u2 fun w8 w9 => some (w9, w8, w9, x0_refused))) else ((fX7_refuse (x0_shelf, x0_rowSort, x0_rowSize, x0_rows, x0_moved, x0_shown, x0_tape, x0_tapeSize, x0_refused, x0_lines, x0_line, x0_changes, x0_coins, x0_goods, x0_good, x0_works, x0_work, x0_years, x0_gone, x0_spent, x0_at, x0_token, x0_from, x0_figures, x0_fault, x0_numbers, x0_statements, x0_left, x0_far, x0_tons, x0_way, x0_steps, x0_met, x0_queue, x0_totals) (-6)).bind (u2 fun v12 g13 => some (v12, x0_tape, x0_tapeSize, g13)))))) X0
set_option maxHeartbeats 4000000 in
set_option maxRecDepth 100000 in
theorem kX7_feed (l : Launch) (d : DT) (h0 : Nat → Nat) (r0_rows : Nat → Nat) (r0_line : Nat → Nat) (r0_good : Nat → Nat) (r0_work : Nat → Nat) (a0_kept : Option Nat) (a0_tried : Option Nat) (a0_chosen : Option Nat) (n : Nat) (x0_shelf : (Nat → Int32)) (x0_rowSort : (Nat → Int32)) (x0_rowSize : (Nat → Int32)) (x0_rows : (Nat → Nat → Int64)) (x0_moved : (Nat → Int64)) (x0_shown : (Nat → Int32)) (x0_tape : (Nat → Int32)) (x0_tapeSize : Int32) (x0_refused : (Nat → Int32)) (x0_lines : Int32) (x0_line : (Nat → Nat → Int32)) (x0_changes : (Nat → Int32)) (x0_coins : (Nat → Int32)) (x0_goods : Int32) (x0_good : (Nat → Nat → Int32)) (x0_works : Int32) (x0_work : (Nat → Nat → Int32)) (x0_years : Int32) (x0_gone : Int32) (x0_spent : Int32) (x0_at : Int32) (x0_token : Int32) (x0_from : Int32) (x0_figures : Int64) (x0_fault : Int32) (x0_numbers : (Nat → Int32)) (x0_statements : Int32) (x0_left : (Nat → Int32)) (x0_far : (Nat → Int32)) (x0_tons : Int32) (x0_way : (Nat → Int32)) (x0_steps : Int32) (x0_met : Int64) (x0_queue : (Nat → Int32)) (x0_totals : (Nat → Int32)) (p1 : Int32) (p2 : Int32)  {out : Int32 × (Nat → Int32) × Int32 × (Nat → Int32)} (hf : fX7_feed n (x0_shelf, x0_rowSort, x0_rowSize, x0_rows, x0_moved, x0_shown, x0_tape, x0_tapeSize, x0_refused, x0_lines, x0_line, x0_changes, x0_coins, x0_goods, x0_good, x0_works, x0_work, x0_years, x0_gone, x0_spent, x0_at, x0_token, x0_from, x0_figures, x0_fault, x0_numbers, x0_statements, x0_left, x0_far, x0_tons, x0_way, x0_steps, x0_met, x0_queue, x0_totals) p1 p2 = some out) : Ct l d yX7_feed cX7_feed 4 (some .int) { frames := 1, cells := 0, slots := 0, locals := 25 } [.ref (h0 0), .int p1, .int p2] [gMd d h0 a0_kept a0_tried a0_chosen r0_rows r0_line r0_good r0_work x0_shelf x0_rowSort x0_rowSize x0_moved x0_shown x0_tape x0_tapeSize x0_refused x0_lines x0_changes x0_coins x0_goods x0_works x0_years x0_gone x0_spent x0_at x0_token x0_from x0_figures x0_fault x0_numbers x0_statements x0_left x0_far x0_tons x0_way x0_steps x0_met x0_queue x0_totals] (fun _ : Unit => (some (.int out.1), [gMd d h0 a0_kept a0_tried a0_chosen r0_rows r0_line r0_good r0_work x0_shelf x0_rowSort x0_rowSize x0_moved x0_shown (out.2.1) (out.2.2.1) (out.2.2.2) x0_lines x0_changes x0_coins x0_goods x0_works x0_years x0_gone x0_spent x0_at x0_token x0_from x0_figures x0_fault x0_numbers x0_statements x0_left x0_far x0_tons x0_way x0_steps x0_met x0_queue x0_totals])) := by
  refine Ct.of (by decide) (Nat.le_of_ble_eq_true rfl) ?_
  intro Φ hl hK hR
  subst hl
  have hK : Ok d Φ RX7 "feed" cX7_feed 4 (some .int) { frames := 1, cells := 0, slots := 0, locals := 25 } := hK
  unfold fX7_feed at hf
  have hf := un35 hf
  show J d Φ 4 [gMd d h0 a0_kept a0_tried a0_chosen r0_rows r0_line r0_good r0_work x0_shelf x0_rowSort x0_rowSize x0_moved x0_shown x0_tape x0_tapeSize x0_refused x0_lines x0_changes x0_coins x0_goods x0_works x0_years x0_gone x0_spent x0_at x0_token x0_from x0_figures x0_fault x0_numbers x0_statements x0_left x0_far x0_tons x0_way x0_steps x0_met x0_queue x0_totals] 0 0 0 [(0, .ref (h0 0)), (1, .int p1), (2, .int p2)] []
  refine J_iload_n hK qd3_27.1 rfl 2 rfl rfl ?_
  refine J_i2l hK qd3_27.2.1 rfl ?_
  refine J_lconst (v := 1) hK qd3_27.2.2.1 rfl (by decide) ?_
  refine J_ldc2 (v := (4 : Int64)) hK qd3_27.2.2.2.1 rfl wk_RX7_90 ?_
  obtain ⟨v1, e2, hf⟩ := bs hf
  refine J_callS (m := 1) (m' := 1) (ce' := 0) (sl' := 0) (gr := [gMd d h0 a0_kept a0_tried a0_chosen r0_rows r0_line r0_good r0_work x0_shelf x0_rowSort x0_rowSize x0_moved x0_shown x0_tape x0_tapeSize x0_refused x0_lines x0_changes x0_coins x0_goods x0_works x0_years x0_gone x0_spent x0_at x0_token x0_from x0_figures x0_fault x0_numbers x0_statements x0_left x0_far x0_tons x0_way x0_steps x0_met x0_queue x0_totals]) (gs' := fun _ => [gMd d h0 a0_kept a0_tried a0_chosen r0_rows r0_line r0_good r0_work x0_shelf x0_rowSort x0_rowSize x0_moved x0_shown x0_tape x0_tapeSize x0_refused x0_lines x0_changes x0_coins x0_goods x0_works x0_years x0_gone x0_spent x0_at x0_token x0_from x0_figures x0_fault x0_numbers x0_statements x0_left x0_far x0_tons x0_way x0_steps x0_met x0_queue x0_totals]) (st' := fun _ => [.int v1]) (st := []) hK qd3_27.2.2.2.2.1 cv_RX7_78 ws_yX7_in (As := [.long ((p2).toInt64), .long (1 : Int64), .long (4 : Int64)]) (kX7_in _ d ((p2).toInt64) (1 : Int64) (4 : Int64) e2) rfl rfl (Nat.le_of_ble_eq_true rfl) (by decide) [] [0] rfl (by decide +kernel) rfl rfl [0] (by decide +kernel) (fun _ => rfl) (fun _ => rfl) rfl rfl rfl (fun _ => rfl) (fun _ => ?_)
  refine J_if_ne (tg := 19) hK qd3_27.2.2.2.2.2.1 rfl rfl (fun hc9 => ?_) (fun hc9 => ?_)
  · have hf := iq hc9 hf
    refine J_iload_n hK qd3_27.2.2.2.2.2.2.2.2.2.2.1 rfl 2 rfl rfl ?_
    refine J_sipush (v := 250) hK qd3_27.2.2.2.2.2.2.2.2.2.2.2.1 rfl (by decide) ?_
    refine J_aload_n hK qd3_27.2.2.2.2.2.2.2.2.2.2.2.2.1 rfl 0 rfl rfl ?_
    refine J_get hK fo_RX7_146 qd3_27.2.2.2.2.2.2.2.2.2.2.2.2.2.1 rfl 0 0 rfl rfl rfl ?_
    refine J_isub hK qd3_27.2.2.2.2.2.2.2.2.2.2.2.2.2.2.1 rfl ?_
    refine J_icmp_le (tg := 38) hK qd3_27.2.2.2.2.2.2.2.2.2.2.2.2.2.2.2.1 rfl rfl (fun hc28 => ?_) (fun hc28 => ?_)
    · have hf := ip hc28 hf
      refine J_iload_n hK qd3_28.2.2.2.2.1 rfl 2 rfl rfl ?_
      refine J_iconst (v := 1) hK qd3_28.2.2.2.2.2.1 rfl (by decide) ?_
      refine J_isub hK qd3_28.2.2.2.2.2.2.1 rfl ?_
      refine J_istore_n (L' := [(3, .int (p2 - 1)), (0, .ref (h0 0)), (1, .int p1), (2, .int p2)]) hK qd3_28.2.2.2.2.2.2.2.1 rfl rfl (by decide) rfl ?_
      obtain ⟨e7, hl3, hf⟩ := bs hf
      have hx3_78 : ∀ (w8 : (Nat → Int32)) (w9 : Int32), (w8, w9) = e7 → J d Φ 4 [gMd d h0 a0_kept a0_tried a0_chosen r0_rows r0_line r0_good r0_work x0_shelf x0_rowSort x0_rowSize x0_moved x0_shown w8 w9 x0_refused x0_lines x0_changes x0_coins x0_goods x0_works x0_years x0_gone x0_spent x0_at x0_token x0_from x0_figures x0_fault x0_numbers x0_statements x0_left x0_far x0_tons x0_way x0_steps x0_met x0_queue x0_totals] 0 0 78 [(0, .ref (h0 0))] [] := by
        intro w8 w9 he
        rw [← he] at hf
        have hf := un2 hf
        refine J_aload_n hK qd3_29.2.2.2.2.2.2.2.2.2.2.2.2.2.1 rfl 0 rfl rfl ?_
        refine J_get hK fo_RX7_146 qd3_29.2.2.2.2.2.2.2.2.2.2.2.2.2.2.1 rfl 0 0 rfl rfl rfl ?_
        obtain rfl := Option.some.inj hf
        exact J_iret hK hR qd3_29.2.2.2.2.2.2.2.2.2.2.2.2.2.2.2.1 () rfl (by decide) (by decide)
      have lo3 : ∀ (k : Nat) (z4 : Int32) (z5 : (Nat → Int32)) (z6 : Int32), lp (u3 (fX7_feed_s42 p1)) k (z4, z5, z6) = some e7 → J d Φ 4 [gMd d h0 a0_kept a0_tried a0_chosen r0_rows r0_line r0_good r0_work x0_shelf x0_rowSort x0_rowSize x0_moved x0_shown z5 z6 x0_refused x0_lines x0_changes x0_coins x0_goods x0_works x0_years x0_gone x0_spent x0_at x0_token x0_from x0_figures x0_fault x0_numbers x0_statements x0_left x0_far x0_tons x0_way x0_steps x0_met x0_queue x0_totals] 0 0 42 [(0, .ref (h0 0)), (1, .int p1), (3, .int z4)] [] := by
        intro k
        induction k with
        | zero => intro z4 z5 z6 h; cases h
        | succ k ih3 =>
          intro z4 z5 z6 h
          obtain ⟨k2, rr3, hk2, hs3, hr3⟩ := lp_ok h
          cases hk2
          have hs3 : fX7_feed_s42 p1 z4 z5 z6 = some rr3 := hs3
          unfold fX7_feed_s42 at hs3
          refine J_iload_n hK qd3_28.2.2.2.2.2.2.2.2.1 rfl 2 rfl rfl ?_
          refine J_if_lt (tg := 78) hK qd3_28.2.2.2.2.2.2.2.2.2.1 rfl rfl (fun hc43 => ?_) (fun hc43 => ?_)
          · have hs3 := ip hc43 hs3
            exact J_loc [0] rfl (hx3_78 z5 z6 (lpx hs3 hr3))
          · have hs3 := iq hc43 hs3
            refine J_aload_n hK qd3_28.2.2.2.2.2.2.2.2.2.2.1 rfl 0 rfl rfl ?_
            refine J_get hK fo_RX7_31 qd3_28.2.2.2.2.2.2.2.2.2.2.2.1 rfl 0 0 rfl rfl rfl ?_
            refine J_aload_n hK qd3_28.2.2.2.2.2.2.2.2.2.2.2.2.1 rfl 0 rfl rfl ?_
            refine J_dup hK qd3_28.2.2.2.2.2.2.2.2.2.2.2.2.2.1 rfl rfl ?_
            refine J_get hK fo_RX7_146 qd3_28.2.2.2.2.2.2.2.2.2.2.2.2.2.2.1 rfl 0 0 rfl rfl rfl ?_
            refine J_dup_x1 hK qd3_28.2.2.2.2.2.2.2.2.2.2.2.2.2.2.2.1 rfl rfl rfl ?_
            refine J_iconst (v := 1) hK qd3_29.1 rfl (by decide) ?_
            refine J_iadd hK qd3_29.2.1 rfl ?_
            refine J_put (g' := gMd d h0 a0_kept a0_tried a0_chosen r0_rows r0_line r0_good r0_work x0_shelf x0_rowSort x0_rowSize x0_moved x0_shown z5 (z6 + 1) x0_refused x0_lines x0_changes x0_coins x0_goods x0_works x0_years x0_gone x0_spent x0_at x0_token x0_from x0_figures x0_fault x0_numbers x0_statements x0_left x0_far x0_tons x0_way x0_steps x0_met x0_queue x0_totals) (gs' := [gMd d h0 a0_kept a0_tried a0_chosen r0_rows r0_line r0_good r0_work x0_shelf x0_rowSort x0_rowSize x0_moved x0_shown z5 (z6 + 1) x0_refused x0_lines x0_changes x0_coins x0_goods x0_works x0_years x0_gone x0_spent x0_at x0_token x0_from x0_figures x0_fault x0_numbers x0_statements x0_left x0_far x0_tons x0_way x0_steps x0_met x0_queue x0_totals]) hK fp_RX7_146 qd3_29.2.2.1 rfl 0 0 rfl rfl rfl rfl (Nat.le_of_ble_eq_true rfl) rfl rfl ?_
            refine J_iload_n hK qd3_29.2.2.2.1 rfl 1 rfl rfl ?_
            refine J_bipush (v := 8) hK qd3_29.2.2.2.2.1 rfl (by decide) ?_
            refine J_iload_n hK qd3_29.2.2.2.2.2.1 rfl 2 rfl rfl ?_
            refine J_imul hK qd3_29.2.2.2.2.2.2.1 rfl ?_
            refine J_ishr hK qd3_29.2.2.2.2.2.2.2.1 rfl ?_
            refine J_sipush (v := 255) hK qd3_29.2.2.2.2.2.2.2.2.1 rfl (by decide) ?_
            refine J_iand hK qd3_29.2.2.2.2.2.2.2.2.2.1 rfl ?_
            obtain ⟨t10, et10, hs3⟩ := bs hs3
            refine J_nmi et10 ?_
            obtain ⟨f11, ef11, hs3⟩ := bs hs3
            refine J_iast (g' := gMd d h0 a0_kept a0_tried a0_chosen r0_rows r0_line r0_good r0_work x0_shelf x0_rowSort x0_rowSize x0_moved x0_shown f11 (z6 + 1) x0_refused x0_lines x0_changes x0_coins x0_goods x0_works x0_years x0_gone x0_spent x0_at x0_token x0_from x0_figures x0_fault x0_numbers x0_statements x0_left x0_far x0_tons x0_way x0_steps x0_met x0_queue x0_totals) (gs' := [gMd d h0 a0_kept a0_tried a0_chosen r0_rows r0_line r0_good r0_work x0_shelf x0_rowSort x0_rowSize x0_moved x0_shown f11 (z6 + 1) x0_refused x0_lines x0_changes x0_coins x0_goods x0_works x0_years x0_gone x0_spent x0_at x0_token x0_from x0_figures x0_fault x0_numbers x0_statements x0_left x0_far x0_tons x0_way x0_steps x0_met x0_queue x0_totals]) hK qd3_29.2.2.2.2.2.2.2.2.2.2.1 rfl 0 7 rfl rfl ef11 rfl rfl ?_
            refine J_iinc (L' := [(3, .int (z4 + (-1))), (0, .ref (h0 0)), (1, .int p1)]) (v := (z4 + (-1))) hK qd3_29.2.2.2.2.2.2.2.2.2.2.2.1 rfl 2 rfl rfl (by decide) rfl ?_
            refine J_goto hK qd3_29.2.2.2.2.2.2.2.2.2.2.2.2.1 (n := 42) rfl ?_
            exact J_loc [1, 2, 0] rfl (ih3 (z4 + (-1)) f11 (z6 + 1) (lpc hs3 hr3))
      exact J_loc [1, 2, 0] rfl (lo3 n (p2 - 1) x0_tape x0_tapeSize hl3)
    · have hf := iq hc28 hf
      refine J_aload_n hK qd3_28.1 rfl 0 rfl rfl ?_
      refine J_bipush (v := (-6)) hK qd3_28.2.1 rfl (by decide) ?_
      obtain ⟨⟨v12, g13⟩, e14, hf⟩ := bs hf
      have hf := un2 hf
      refine J_callV (m := 1) (m' := 1) (ce' := 0) (sl' := 0) (gr := []) (gs' := fun _ => [gMd d h0 a0_kept a0_tried a0_chosen r0_rows r0_line r0_good r0_work x0_shelf x0_rowSort x0_rowSize x0_moved x0_shown x0_tape x0_tapeSize g13 x0_lines x0_changes x0_coins x0_goods x0_works x0_years x0_gone x0_spent x0_at x0_token x0_from x0_figures x0_fault x0_numbers x0_statements x0_left x0_far x0_tons x0_way x0_steps x0_met x0_queue x0_totals]) (st' := fun _ => [.int v12]) (st := []) hK qd3_28.2.2.1 cv_RX7_94 iv_yX7_refuse (As := [.int (-6)]) (kX7_refuse _ d h0 r0_rows r0_line r0_good r0_work a0_kept a0_tried a0_chosen x0_shelf x0_rowSort x0_rowSize x0_rows x0_moved x0_shown x0_tape x0_tapeSize x0_refused x0_lines x0_line x0_changes x0_coins x0_goods x0_good x0_works x0_work x0_years x0_gone x0_spent x0_at x0_token x0_from x0_figures x0_fault x0_numbers x0_statements x0_left x0_far x0_tons x0_way x0_steps x0_met x0_queue x0_totals (-6) e14) rfl rfl (Nat.le_of_ble_eq_true rfl) (by decide) 0 0 rfl rfl rfl [0] [] rfl (by decide +kernel) rfl rfl [0] (by decide +kernel) (fun _ => rfl) (fun _ => rfl) rfl rfl rfl (fun _ => rfl) (fun _ => ?_)
      obtain rfl := Option.some.inj hf
      exact J_iret hK hR qd3_28.2.2.2.1 () rfl (by decide) (by decide)
  · have hf := ip hc9 hf
    refine J_aload_n hK qd3_27.2.2.2.2.2.2.1 rfl 0 rfl rfl ?_
    refine J_bipush (v := (-2)) hK qd3_27.2.2.2.2.2.2.2.1 rfl (by decide) ?_
    obtain ⟨⟨v15, g16⟩, e17, hf⟩ := bs hf
    have hf := un2 hf
    refine J_callV (m := 1) (m' := 1) (ce' := 0) (sl' := 0) (gr := []) (gs' := fun _ => [gMd d h0 a0_kept a0_tried a0_chosen r0_rows r0_line r0_good r0_work x0_shelf x0_rowSort x0_rowSize x0_moved x0_shown x0_tape x0_tapeSize g16 x0_lines x0_changes x0_coins x0_goods x0_works x0_years x0_gone x0_spent x0_at x0_token x0_from x0_figures x0_fault x0_numbers x0_statements x0_left x0_far x0_tons x0_way x0_steps x0_met x0_queue x0_totals]) (st' := fun _ => [.int v15]) (st := []) hK qd3_27.2.2.2.2.2.2.2.2.1 cv_RX7_94 iv_yX7_refuse (As := [.int (-2)]) (kX7_refuse _ d h0 r0_rows r0_line r0_good r0_work a0_kept a0_tried a0_chosen x0_shelf x0_rowSort x0_rowSize x0_rows x0_moved x0_shown x0_tape x0_tapeSize x0_refused x0_lines x0_line x0_changes x0_coins x0_goods x0_good x0_works x0_work x0_years x0_gone x0_spent x0_at x0_token x0_from x0_figures x0_fault x0_numbers x0_statements x0_left x0_far x0_tons x0_way x0_steps x0_met x0_queue x0_totals (-2) e17) rfl rfl (Nat.le_of_ble_eq_true rfl) (by decide) 0 0 rfl rfl rfl [0] [] rfl (by decide +kernel) rfl rfl [0] (by decide +kernel) (fun _ => rfl) (fun _ => rfl) rfl rfl rfl (fun _ => rfl) (fun _ => ?_)
    obtain rfl := Option.some.inj hf
    exact J_iret hK hR qd3_27.2.2.2.2.2.2.2.2.2.1 () rfl (by decide) (by decide)

def fX7_wipe (X0 : MdT) : Option (Int32 × Int32) :=
  u35 (fun (x0_shelf : (Nat → Int32)) (x0_rowSort : (Nat → Int32)) (x0_rowSize : (Nat → Int32)) (x0_rows : (Nat → Nat → Int64)) (x0_moved : (Nat → Int64)) (x0_shown : (Nat → Int32)) (x0_tape : (Nat → Int32)) (x0_tapeSize : Int32) (x0_refused : (Nat → Int32)) (x0_lines : Int32) (x0_line : (Nat → Nat → Int32)) (x0_changes : (Nat → Int32)) (x0_coins : (Nat → Int32)) (x0_goods : Int32) (x0_good : (Nat → Nat → Int32)) (x0_works : Int32) (x0_work : (Nat → Nat → Int32)) (x0_years : Int32) (x0_gone : Int32) (x0_spent : Int32) (x0_at : Int32) (x0_token : Int32) (x0_from : Int32) (x0_figures : Int64) (x0_fault : Int32) (x0_numbers : (Nat → Int32)) (x0_statements : Int32) (x0_left : (Nat → Int32)) (x0_far : (Nat → Int32)) (x0_tons : Int32) (x0_way : (Nat → Int32)) (x0_steps : Int32) (x0_met : Int64) (x0_queue : (Nat → Int32)) (x0_totals : (Nat → Int32)) => some (x0_tapeSize, 0)) X0
set_option maxHeartbeats 4000000 in
set_option maxRecDepth 100000 in
theorem kX7_wipe (l : Launch) (d : DT) (h0 : Nat → Nat) (r0_rows : Nat → Nat) (r0_line : Nat → Nat) (r0_good : Nat → Nat) (r0_work : Nat → Nat) (a0_kept : Option Nat) (a0_tried : Option Nat) (a0_chosen : Option Nat) (x0_shelf : (Nat → Int32)) (x0_rowSort : (Nat → Int32)) (x0_rowSize : (Nat → Int32)) (x0_rows : (Nat → Nat → Int64)) (x0_moved : (Nat → Int64)) (x0_shown : (Nat → Int32)) (x0_tape : (Nat → Int32)) (x0_tapeSize : Int32) (x0_refused : (Nat → Int32)) (x0_lines : Int32) (x0_line : (Nat → Nat → Int32)) (x0_changes : (Nat → Int32)) (x0_coins : (Nat → Int32)) (x0_goods : Int32) (x0_good : (Nat → Nat → Int32)) (x0_works : Int32) (x0_work : (Nat → Nat → Int32)) (x0_years : Int32) (x0_gone : Int32) (x0_spent : Int32) (x0_at : Int32) (x0_token : Int32) (x0_from : Int32) (x0_figures : Int64) (x0_fault : Int32) (x0_numbers : (Nat → Int32)) (x0_statements : Int32) (x0_left : (Nat → Int32)) (x0_far : (Nat → Int32)) (x0_tons : Int32) (x0_way : (Nat → Int32)) (x0_steps : Int32) (x0_met : Int64) (x0_queue : (Nat → Int32)) (x0_totals : (Nat → Int32))  {out : Int32 × Int32} (hf : fX7_wipe (x0_shelf, x0_rowSort, x0_rowSize, x0_rows, x0_moved, x0_shown, x0_tape, x0_tapeSize, x0_refused, x0_lines, x0_line, x0_changes, x0_coins, x0_goods, x0_good, x0_works, x0_work, x0_years, x0_gone, x0_spent, x0_at, x0_token, x0_from, x0_figures, x0_fault, x0_numbers, x0_statements, x0_left, x0_far, x0_tons, x0_way, x0_steps, x0_met, x0_queue, x0_totals) = some out) : Ct l d yX7_wipe cX7_wipe 2 (some .int) { frames := 0, cells := 0, slots := 0, locals := 0 } [.ref (h0 0)] [gMd d h0 a0_kept a0_tried a0_chosen r0_rows r0_line r0_good r0_work x0_shelf x0_rowSort x0_rowSize x0_moved x0_shown x0_tape x0_tapeSize x0_refused x0_lines x0_changes x0_coins x0_goods x0_works x0_years x0_gone x0_spent x0_at x0_token x0_from x0_figures x0_fault x0_numbers x0_statements x0_left x0_far x0_tons x0_way x0_steps x0_met x0_queue x0_totals] (fun _ : Unit => (some (.int out.1), [gMd d h0 a0_kept a0_tried a0_chosen r0_rows r0_line r0_good r0_work x0_shelf x0_rowSort x0_rowSize x0_moved x0_shown x0_tape (out.2) x0_refused x0_lines x0_changes x0_coins x0_goods x0_works x0_years x0_gone x0_spent x0_at x0_token x0_from x0_figures x0_fault x0_numbers x0_statements x0_left x0_far x0_tons x0_way x0_steps x0_met x0_queue x0_totals])) := by
  refine Ct.of (by decide) (Nat.le_of_ble_eq_true rfl) ?_
  intro Φ hl hK hR
  subst hl
  have hK : Ok d Φ RX7 "wipe" cX7_wipe 2 (some .int) { frames := 0, cells := 0, slots := 0, locals := 0 } := hK
  unfold fX7_wipe at hf
  have hf := un35 hf
  show J d Φ 2 [gMd d h0 a0_kept a0_tried a0_chosen r0_rows r0_line r0_good r0_work x0_shelf x0_rowSort x0_rowSize x0_moved x0_shown x0_tape x0_tapeSize x0_refused x0_lines x0_changes x0_coins x0_goods x0_works x0_years x0_gone x0_spent x0_at x0_token x0_from x0_figures x0_fault x0_numbers x0_statements x0_left x0_far x0_tons x0_way x0_steps x0_met x0_queue x0_totals] 0 0 0 [(0, .ref (h0 0))] []
  refine J_aload_n hK qd3_30.1 rfl 0 rfl rfl ?_
  refine J_get hK fo_RX7_146 qd3_30.2.1 rfl 0 0 rfl rfl rfl ?_
  refine J_istore_n (L' := [(1, .int x0_tapeSize), (0, .ref (h0 0))]) hK qd3_30.2.2.1 rfl rfl (by decide) rfl ?_
  refine J_aload_n hK qd3_30.2.2.2.1 rfl 1 rfl rfl ?_
  refine J_iconst (v := 0) hK qd3_30.2.2.2.2.1 rfl (by decide) ?_
  refine J_put (g' := gMd d h0 a0_kept a0_tried a0_chosen r0_rows r0_line r0_good r0_work x0_shelf x0_rowSort x0_rowSize x0_moved x0_shown x0_tape (0) x0_refused x0_lines x0_changes x0_coins x0_goods x0_works x0_years x0_gone x0_spent x0_at x0_token x0_from x0_figures x0_fault x0_numbers x0_statements x0_left x0_far x0_tons x0_way x0_steps x0_met x0_queue x0_totals) (gs' := [gMd d h0 a0_kept a0_tried a0_chosen r0_rows r0_line r0_good r0_work x0_shelf x0_rowSort x0_rowSize x0_moved x0_shown x0_tape (0) x0_refused x0_lines x0_changes x0_coins x0_goods x0_works x0_years x0_gone x0_spent x0_at x0_token x0_from x0_figures x0_fault x0_numbers x0_statements x0_left x0_far x0_tons x0_way x0_steps x0_met x0_queue x0_totals]) hK fp_RX7_146 qd3_30.2.2.2.2.2.1 rfl 0 0 rfl rfl rfl rfl (Nat.le_of_ble_eq_true rfl) rfl rfl ?_
  refine J_iload_n hK qd3_30.2.2.2.2.2.2.1 rfl 0 rfl rfl ?_
  obtain rfl := Option.some.inj hf
  exact J_iret hK hR qd3_30.2.2.2.2.2.2.2.1 () rfl (by decide) (by decide)

def fX7_isLetter (p0 : Int32) : Option (Int32) :=
  if p0 < 97 then (some (0)) else (if 122 < p0 then (some (0)) else (some (1)))
set_option maxHeartbeats 4000000 in
set_option maxRecDepth 100000 in
theorem kX7_isLetter (l : Launch) (d : DT)  (p0 : Int32)  {out : Int32} (hf : fX7_isLetter p0 = some out) : Ct l d yX7_isLetter cX7_isLetter 1 (some .boolean) { frames := 0, cells := 0, slots := 0, locals := 0 } [.int p0] [] (fun _ : Unit => (some (.int out), [])) := by
  refine Ct.of (by decide) (Nat.le_of_ble_eq_true rfl) ?_
  intro Φ hl hK hR
  subst hl
  have hK : Ok d Φ RX7 "isLetter" cX7_isLetter 1 (some .boolean) { frames := 0, cells := 0, slots := 0, locals := 0 } := hK
  unfold fX7_isLetter at hf
  show J d Φ 1 [] 0 0 0 [(0, .int p0)] []
  refine J_iload_n hK qd3_31.1 rfl 0 rfl rfl ?_
  refine J_bipush (v := 97) hK qd3_31.2.1 rfl (by decide) ?_
  refine J_icmp_lt (tg := 16) hK qd3_31.2.2.1 rfl rfl (fun hc3 => ?_) (fun hc3 => ?_)
  · have hf := ip hc3 hf
    refine J_iconst (v := 0) hK qd3_31.2.2.2.2.2.2.2.2.1 rfl (by decide) ?_
    obtain rfl := Option.some.inj hf
    exact J_zret hK hR qd3_31.2.2.2.2.2.2.2.2.2.1 () rfl rfl (by decide) (by decide)
  · have hf := iq hc3 hf
    refine J_iload_n hK qd3_31.2.2.2.1 rfl 0 rfl rfl ?_
    refine J_bipush (v := 122) hK qd3_31.2.2.2.2.1 rfl (by decide) ?_
    refine J_icmp_gt (tg := 16) hK qd3_31.2.2.2.2.2.1 rfl rfl (fun hc9 => ?_) (fun hc9 => ?_)
    · have hf := ip hc9 hf
      refine J_iconst (v := 0) hK qd3_31.2.2.2.2.2.2.2.2.1 rfl (by decide) ?_
      obtain rfl := Option.some.inj hf
      exact J_zret hK hR qd3_31.2.2.2.2.2.2.2.2.2.1 () rfl rfl (by decide) (by decide)
    · have hf := iq hc9 hf
      refine J_iconst (v := 1) hK qd3_31.2.2.2.2.2.2.1 rfl (by decide) ?_
      refine J_goto hK qd3_31.2.2.2.2.2.2.2.1 (n := 17) rfl ?_
      obtain rfl := Option.some.inj hf
      exact J_zret hK hR qd3_31.2.2.2.2.2.2.2.2.2.1 () rfl rfl (by decide) (by decide)

def fX7_isDigit (p0 : Int32) : Option (Int32) :=
  if p0 < 48 then (some (0)) else (if 57 < p0 then (some (0)) else (some (1)))
set_option maxHeartbeats 4000000 in
set_option maxRecDepth 100000 in
theorem kX7_isDigit (l : Launch) (d : DT)  (p0 : Int32)  {out : Int32} (hf : fX7_isDigit p0 = some out) : Ct l d yX7_isDigit cX7_isDigit 1 (some .boolean) { frames := 0, cells := 0, slots := 0, locals := 0 } [.int p0] [] (fun _ : Unit => (some (.int out), [])) := by
  refine Ct.of (by decide) (Nat.le_of_ble_eq_true rfl) ?_
  intro Φ hl hK hR
  subst hl
  have hK : Ok d Φ RX7 "isDigit" cX7_isDigit 1 (some .boolean) { frames := 0, cells := 0, slots := 0, locals := 0 } := hK
  unfold fX7_isDigit at hf
  show J d Φ 1 [] 0 0 0 [(0, .int p0)] []
  refine J_iload_n hK qd3_32.1 rfl 0 rfl rfl ?_
  refine J_bipush (v := 48) hK qd3_32.2.1 rfl (by decide) ?_
  refine J_icmp_lt (tg := 16) hK qd3_32.2.2.1 rfl rfl (fun hc3 => ?_) (fun hc3 => ?_)
  · have hf := ip hc3 hf
    refine J_iconst (v := 0) hK qd3_32.2.2.2.2.2.2.2.2.1 rfl (by decide) ?_
    obtain rfl := Option.some.inj hf
    exact J_zret hK hR qd3_32.2.2.2.2.2.2.2.2.2.1 () rfl rfl (by decide) (by decide)
  · have hf := iq hc3 hf
    refine J_iload_n hK qd3_32.2.2.2.1 rfl 0 rfl rfl ?_
    refine J_bipush (v := 57) hK qd3_32.2.2.2.2.1 rfl (by decide) ?_
    refine J_icmp_gt (tg := 16) hK qd3_32.2.2.2.2.2.1 rfl rfl (fun hc9 => ?_) (fun hc9 => ?_)
    · have hf := ip hc9 hf
      refine J_iconst (v := 0) hK qd3_32.2.2.2.2.2.2.2.2.1 rfl (by decide) ?_
      obtain rfl := Option.some.inj hf
      exact J_zret hK hR qd3_32.2.2.2.2.2.2.2.2.2.1 () rfl rfl (by decide) (by decide)
    · have hf := iq hc9 hf
      refine J_iconst (v := 1) hK qd3_32.2.2.2.2.2.2.1 rfl (by decide) ?_
      refine J_goto hK qd3_32.2.2.2.2.2.2.2.1 (n := 17) rfl ?_
      obtain rfl := Option.some.inj hf
      exact J_zret hK hR qd3_32.2.2.2.2.2.2.2.2.2.1 () rfl rfl (by decide) (by decide)

def fX7_look_j254 (w4 : Int32) (y12 : Int32) : Option (Int32 × Int32 × Int32 × Int64) :=
  some ((w4 + 1), y12, w4, (0 : Int64))
def fX7_look_j218 (z14 : Int32) (y22 : Int64) : Option ((Int32 × Int64) ⊕ (Int32 × Int64)) :=
  some (.inl ((z14 + 1), y22))
def fX7_look_s149 (x0_tape : (Nat → Int32)) (x0_tapeSize : Int32) (w4 : Int32) (z14 : Int32) (z15 : Int64) : Option ((Int32 × Int64) ⊕ (Int32 × Int64)) :=
  if x0_tapeSize ≤ z14 then (some (.inr (z14, z15))) else ((rd 250 x0_tape z14).bind fun v19 => (fX7_isDigit v19).bind (fun v20 => if v20 = 0 then (some (.inr (z14, z15))) else (if 3 ≤ (z14 - w4) then (fX7_look_j218 z14 (100000 : Int64)) else ((rd 250 x0_tape z14).bind fun v23 => fX7_look_j218 z14 (((z15 * (10 : Int64)) + (v23).toInt64) - (48 : Int64))))))
def fX7_look_s90 (x0_tape : (Nat → Int32)) (x0_tapeSize : Int32) (z25 : Int32) : Option ((Int32) ⊕ (Int32)) :=
  if x0_tapeSize ≤ z25 then (some (.inr z25)) else ((rd 250 x0_tape z25).bind fun v28 => (fX7_isLetter v28).bind (fun v29 => if v29 = 0 then (some (.inr z25)) else (some (.inl (z25 + 1)))))
def fX7_look_s0 (x0_tape : (Nat → Int32)) (x0_tapeSize : Int32) (z2 : Int32) : Option ((Int32) ⊕ (Int32)) :=
  if x0_tapeSize ≤ z2 then (some (.inr z2)) else ((rd 250 x0_tape z2).bind fun v31 => if v31 = 32 then (some (.inl (z2 + 1))) else (some (.inr z2)))
def fX7_look (n : Nat) (X0 : MdT) : Option (Int32 × Int32 × Int32 × Int64) :=
  u35 (fun (x0_shelf : (Nat → Int32)) (x0_rowSort : (Nat → Int32)) (x0_rowSize : (Nat → Int32)) (x0_rows : (Nat → Nat → Int64)) (x0_moved : (Nat → Int64)) (x0_shown : (Nat → Int32)) (x0_tape : (Nat → Int32)) (x0_tapeSize : Int32) (x0_refused : (Nat → Int32)) (x0_lines : Int32) (x0_line : (Nat → Nat → Int32)) (x0_changes : (Nat → Int32)) (x0_coins : (Nat → Int32)) (x0_goods : Int32) (x0_good : (Nat → Nat → Int32)) (x0_works : Int32) (x0_work : (Nat → Nat → Int32)) (x0_years : Int32) (x0_gone : Int32) (x0_spent : Int32) (x0_at : Int32) (x0_token : Int32) (x0_from : Int32) (x0_figures : Int64) (x0_fault : Int32) (x0_numbers : (Nat → Int32)) (x0_statements : Int32) (x0_left : (Nat → Int32)) (x0_far : (Nat → Int32)) (x0_tons : Int32) (x0_way : (Nat → Int32)) (x0_steps : Int32) (x0_met : Int64) (x0_queue : (Nat → Int32)) (x0_totals : (Nat → Int32)) => (lp (fX7_look_s0 x0_tape x0_tapeSize) n x0_at).bind (fun w4 => if w4 = x0_tapeSize then (some (w4, 0, w4, (0 : Int64))) else ((rd 250 x0_tape w4).bind fun v5 => (fX7_isLetter v5).bind (fun v6 => if v6 = 0 then ((rd 250 x0_tape w4).bind fun v8 => (fX7_isDigit v8).bind (fun v9 => if v9 = 0 then ((rd 250 x0_tape w4).bind fun v11 => if v11 = 59 then (fX7_look_j254 w4 (3)) else (fX7_look_j254 w4 (4))) else ((lp (u2 (fX7_look_s149 x0_tape x0_tapeSize w4)) n (w4, (0 : Int64))).bind (u2 fun w17 w18 => some (w17, 2, w4, w18))))) else ((lp (fX7_look_s90 x0_tape x0_tapeSize) n w4).bind (fun w27 => some (w27, 1, w4, (0 : Int64)))))))) X0
set_option maxHeartbeats 4000000 in
set_option maxRecDepth 100000 in
theorem kX7_look (l : Launch) (d : DT) (h0 : Nat → Nat) (r0_rows : Nat → Nat) (r0_line : Nat → Nat) (r0_good : Nat → Nat) (r0_work : Nat → Nat) (a0_kept : Option Nat) (a0_tried : Option Nat) (a0_chosen : Option Nat) (n : Nat) (x0_shelf : (Nat → Int32)) (x0_rowSort : (Nat → Int32)) (x0_rowSize : (Nat → Int32)) (x0_rows : (Nat → Nat → Int64)) (x0_moved : (Nat → Int64)) (x0_shown : (Nat → Int32)) (x0_tape : (Nat → Int32)) (x0_tapeSize : Int32) (x0_refused : (Nat → Int32)) (x0_lines : Int32) (x0_line : (Nat → Nat → Int32)) (x0_changes : (Nat → Int32)) (x0_coins : (Nat → Int32)) (x0_goods : Int32) (x0_good : (Nat → Nat → Int32)) (x0_works : Int32) (x0_work : (Nat → Nat → Int32)) (x0_years : Int32) (x0_gone : Int32) (x0_spent : Int32) (x0_at : Int32) (x0_token : Int32) (x0_from : Int32) (x0_figures : Int64) (x0_fault : Int32) (x0_numbers : (Nat → Int32)) (x0_statements : Int32) (x0_left : (Nat → Int32)) (x0_far : (Nat → Int32)) (x0_tons : Int32) (x0_way : (Nat → Int32)) (x0_steps : Int32) (x0_met : Int64) (x0_queue : (Nat → Int32)) (x0_totals : (Nat → Int32))  {out : Int32 × Int32 × Int32 × Int64} (hf : fX7_look n (x0_shelf, x0_rowSort, x0_rowSize, x0_rows, x0_moved, x0_shown, x0_tape, x0_tapeSize, x0_refused, x0_lines, x0_line, x0_changes, x0_coins, x0_goods, x0_good, x0_works, x0_work, x0_years, x0_gone, x0_spent, x0_at, x0_token, x0_from, x0_figures, x0_fault, x0_numbers, x0_statements, x0_left, x0_far, x0_tons, x0_way, x0_steps, x0_met, x0_queue, x0_totals) = some out) : Ct l d yX7_look cX7_look 1 none { frames := 1, cells := 0, slots := 0, locals := 20 } [.ref (h0 0)] [gMd d h0 a0_kept a0_tried a0_chosen r0_rows r0_line r0_good r0_work x0_shelf x0_rowSort x0_rowSize x0_moved x0_shown x0_tape x0_tapeSize x0_refused x0_lines x0_changes x0_coins x0_goods x0_works x0_years x0_gone x0_spent x0_at x0_token x0_from x0_figures x0_fault x0_numbers x0_statements x0_left x0_far x0_tons x0_way x0_steps x0_met x0_queue x0_totals] (fun _ : Unit => (none, [gMd d h0 a0_kept a0_tried a0_chosen r0_rows r0_line r0_good r0_work x0_shelf x0_rowSort x0_rowSize x0_moved x0_shown x0_tape x0_tapeSize x0_refused x0_lines x0_changes x0_coins x0_goods x0_works x0_years x0_gone x0_spent (out.1) (out.2.1) (out.2.2.1) (out.2.2.2) x0_fault x0_numbers x0_statements x0_left x0_far x0_tons x0_way x0_steps x0_met x0_queue x0_totals])) := by
  refine Ct.of (by decide) (Nat.le_of_ble_eq_true rfl) ?_
  intro Φ hl hK hR
  subst hl
  have hK : Ok d Φ RX7 "look" cX7_look 1 none { frames := 1, cells := 0, slots := 0, locals := 20 } := hK
  unfold fX7_look at hf
  have hf := un35 hf
  show J d Φ 1 [gMd d h0 a0_kept a0_tried a0_chosen r0_rows r0_line r0_good r0_work x0_shelf x0_rowSort x0_rowSize x0_moved x0_shown x0_tape x0_tapeSize x0_refused x0_lines x0_changes x0_coins x0_goods x0_works x0_years x0_gone x0_spent x0_at x0_token x0_from x0_figures x0_fault x0_numbers x0_statements x0_left x0_far x0_tons x0_way x0_steps x0_met x0_queue x0_totals] 0 0 0 [(0, .ref (h0 0))] []
  obtain ⟨e3, hl1, hf⟩ := bs hf
  have hx1_38 : ∀ (w4 : Int32), w4 = e3 → J d Φ 1 [gMd d h0 a0_kept a0_tried a0_chosen r0_rows r0_line r0_good r0_work x0_shelf x0_rowSort x0_rowSize x0_moved x0_shown x0_tape x0_tapeSize x0_refused x0_lines x0_changes x0_coins x0_goods x0_works x0_years x0_gone x0_spent w4 x0_token x0_from x0_figures x0_fault x0_numbers x0_statements x0_left x0_far x0_tons x0_way x0_steps x0_met x0_queue x0_totals] 0 0 38 [(0, .ref (h0 0))] [] := by
    intro w4 he
    rw [← he] at hf
    refine J_aload_n hK qd3_34.2.2.2.1 rfl 0 rfl rfl ?_
    refine J_aload_n hK qd3_34.2.2.2.2.1 rfl 0 rfl rfl ?_
    refine J_get hK fo_RX7_149 qd3_34.2.2.2.2.2.1 rfl 0 0 rfl rfl rfl ?_
    refine J_put (g' := gMd d h0 a0_kept a0_tried a0_chosen r0_rows r0_line r0_good r0_work x0_shelf x0_rowSort x0_rowSize x0_moved x0_shown x0_tape x0_tapeSize x0_refused x0_lines x0_changes x0_coins x0_goods x0_works x0_years x0_gone x0_spent w4 x0_token w4 x0_figures x0_fault x0_numbers x0_statements x0_left x0_far x0_tons x0_way x0_steps x0_met x0_queue x0_totals) (gs' := [gMd d h0 a0_kept a0_tried a0_chosen r0_rows r0_line r0_good r0_work x0_shelf x0_rowSort x0_rowSize x0_moved x0_shown x0_tape x0_tapeSize x0_refused x0_lines x0_changes x0_coins x0_goods x0_works x0_years x0_gone x0_spent w4 x0_token w4 x0_figures x0_fault x0_numbers x0_statements x0_left x0_far x0_tons x0_way x0_steps x0_met x0_queue x0_totals]) hK fp_RX7_152 qd3_34.2.2.2.2.2.2.1 rfl 0 0 rfl rfl rfl rfl (Nat.le_of_ble_eq_true rfl) rfl rfl ?_
    refine J_aload_n hK qd3_34.2.2.2.2.2.2.2.1 rfl 0 rfl rfl ?_
    refine J_lconst (v := 0) hK qd3_34.2.2.2.2.2.2.2.2.1 rfl (by decide) ?_
    refine J_put (g' := gMd d h0 a0_kept a0_tried a0_chosen r0_rows r0_line r0_good r0_work x0_shelf x0_rowSort x0_rowSize x0_moved x0_shown x0_tape x0_tapeSize x0_refused x0_lines x0_changes x0_coins x0_goods x0_works x0_years x0_gone x0_spent w4 x0_token w4 (0 : Int64) x0_fault x0_numbers x0_statements x0_left x0_far x0_tons x0_way x0_steps x0_met x0_queue x0_totals) (gs' := [gMd d h0 a0_kept a0_tried a0_chosen r0_rows r0_line r0_good r0_work x0_shelf x0_rowSort x0_rowSize x0_moved x0_shown x0_tape x0_tapeSize x0_refused x0_lines x0_changes x0_coins x0_goods x0_works x0_years x0_gone x0_spent w4 x0_token w4 (0 : Int64) x0_fault x0_numbers x0_statements x0_left x0_far x0_tons x0_way x0_steps x0_met x0_queue x0_totals]) hK fp_RX7_155 qd3_34.2.2.2.2.2.2.2.2.2.1 rfl 0 0 rfl rfl rfl rfl (Nat.le_of_ble_eq_true rfl) rfl rfl ?_
    refine J_aload_n hK qd3_34.2.2.2.2.2.2.2.2.2.2.1 rfl 0 rfl rfl ?_
    refine J_get hK fo_RX7_149 qd3_34.2.2.2.2.2.2.2.2.2.2.2.1 rfl 0 0 rfl rfl rfl ?_
    refine J_aload_n hK qd3_34.2.2.2.2.2.2.2.2.2.2.2.2.1 rfl 0 rfl rfl ?_
    refine J_get hK fo_RX7_146 qd3_34.2.2.2.2.2.2.2.2.2.2.2.2.2.1 rfl 0 0 rfl rfl rfl ?_
    refine J_icmp_ne (tg := 70) hK qd3_34.2.2.2.2.2.2.2.2.2.2.2.2.2.2.1 rfl rfl (fun hc59 => ?_) (fun hc59 => ?_)
    · have hf := iq hc59 hf
      refine J_aload_n hK qd3_35.2.2.2.1 rfl 0 rfl rfl ?_
      refine J_get hK fo_RX7_31 qd3_35.2.2.2.2.1 rfl 0 0 rfl rfl rfl ?_
      refine J_aload_n hK qd3_35.2.2.2.2.2.1 rfl 0 rfl rfl ?_
      refine J_get hK fo_RX7_149 qd3_35.2.2.2.2.2.2.1 rfl 0 0 rfl rfl rfl ?_
      obtain ⟨v5, ev5, hf⟩ := bs hf
      refine J_iald hK qd3_35.2.2.2.2.2.2.2.1 rfl 0 7 rfl rfl ev5 ?_
      obtain ⟨v6, e7, hf⟩ := bs hf
      refine J_callS (m := 1) (m' := 1) (ce' := 0) (sl' := 0) (gr := [gMd d h0 a0_kept a0_tried a0_chosen r0_rows r0_line r0_good r0_work x0_shelf x0_rowSort x0_rowSize x0_moved x0_shown x0_tape x0_tapeSize x0_refused x0_lines x0_changes x0_coins x0_goods x0_works x0_years x0_gone x0_spent w4 x0_token w4 (0 : Int64) x0_fault x0_numbers x0_statements x0_left x0_far x0_tons x0_way x0_steps x0_met x0_queue x0_totals]) (gs' := fun _ => [gMd d h0 a0_kept a0_tried a0_chosen r0_rows r0_line r0_good r0_work x0_shelf x0_rowSort x0_rowSize x0_moved x0_shown x0_tape x0_tapeSize x0_refused x0_lines x0_changes x0_coins x0_goods x0_works x0_years x0_gone x0_spent w4 x0_token w4 (0 : Int64) x0_fault x0_numbers x0_statements x0_left x0_far x0_tons x0_way x0_steps x0_met x0_queue x0_totals]) (st' := fun _ => [.int v6]) (st := []) hK qd3_35.2.2.2.2.2.2.2.2.1 cv_RX7_162 ws_yX7_isLetter (As := [.int v5]) (kX7_isLetter _ d v5 e7) rfl rfl (Nat.le_of_ble_eq_true rfl) (by decide) [] [0] rfl (by decide +kernel) rfl rfl [0] (by decide +kernel) (fun _ => rfl) (fun _ => rfl) rfl rfl rfl (fun _ => rfl) (fun _ => ?_)
      refine J_if_eq (tg := 129) hK qd3_35.2.2.2.2.2.2.2.2.2.1 rfl rfl (fun hc82 => ?_) (fun hc82 => ?_)
      · have hf := ip hc82 hf
        refine J_aload_n hK qd3_37.1 rfl 0 rfl rfl ?_
        refine J_get hK fo_RX7_31 qd3_37.2.1 rfl 0 0 rfl rfl rfl ?_
        refine J_aload_n hK qd3_37.2.2.1 rfl 0 rfl rfl ?_
        refine J_get hK fo_RX7_149 qd3_37.2.2.2.1 rfl 0 0 rfl rfl rfl ?_
        obtain ⟨v8, ev8, hf⟩ := bs hf
        refine J_iald hK qd3_37.2.2.2.2.1 rfl 0 7 rfl rfl ev8 ?_
        obtain ⟨v9, e10, hf⟩ := bs hf
        refine J_callS (m := 1) (m' := 1) (ce' := 0) (sl' := 0) (gr := [gMd d h0 a0_kept a0_tried a0_chosen r0_rows r0_line r0_good r0_work x0_shelf x0_rowSort x0_rowSize x0_moved x0_shown x0_tape x0_tapeSize x0_refused x0_lines x0_changes x0_coins x0_goods x0_works x0_years x0_gone x0_spent w4 x0_token w4 (0 : Int64) x0_fault x0_numbers x0_statements x0_left x0_far x0_tons x0_way x0_steps x0_met x0_queue x0_totals]) (gs' := fun _ => [gMd d h0 a0_kept a0_tried a0_chosen r0_rows r0_line r0_good r0_work x0_shelf x0_rowSort x0_rowSize x0_moved x0_shown x0_tape x0_tapeSize x0_refused x0_lines x0_changes x0_coins x0_goods x0_works x0_years x0_gone x0_spent w4 x0_token w4 (0 : Int64) x0_fault x0_numbers x0_statements x0_left x0_far x0_tons x0_way x0_steps x0_met x0_queue x0_totals]) (st' := fun _ => [.int v9]) (st := []) hK qd3_37.2.2.2.2.2.1 cv_RX7_165 ws_yX7_isDigit (As := [.int v8]) (kX7_isDigit _ d v8 e10) rfl rfl (Nat.le_of_ble_eq_true rfl) (by decide) [] [0] rfl (by decide +kernel) rfl rfl [0] (by decide +kernel) (fun _ => rfl) (fun _ => rfl) rfl rfl rfl (fun _ => rfl) (fun _ => ?_)
        refine J_if_eq (tg := 234) hK qd3_37.2.2.2.2.2.2.1 rfl rfl (fun hc141 => ?_) (fun hc141 => ?_)
        · have hf := ip hc141 hf
          refine J_aload_n hK qd3_40.2.2.2.2.2.1 rfl 0 rfl rfl ?_
          refine J_aload_n hK qd3_40.2.2.2.2.2.2.1 rfl 0 rfl rfl ?_
          refine J_get hK fo_RX7_31 qd3_40.2.2.2.2.2.2.2.1 rfl 0 0 rfl rfl rfl ?_
          refine J_aload_n hK qd3_40.2.2.2.2.2.2.2.2.1 rfl 0 rfl rfl ?_
          refine J_get hK fo_RX7_149 qd3_40.2.2.2.2.2.2.2.2.2.1 rfl 0 0 rfl rfl rfl ?_
          obtain ⟨v11, ev11, hf⟩ := bs hf
          refine J_iald hK qd3_40.2.2.2.2.2.2.2.2.2.2.1 rfl 0 7 rfl rfl ev11 ?_
          refine J_bipush (v := 59) hK qd3_40.2.2.2.2.2.2.2.2.2.2.2.1 rfl (by decide) ?_
          have j254 : ∀ (y12 : Int32), fX7_look_j254 w4 y12 = some out → J d Φ 1 [gMd d h0 a0_kept a0_tried a0_chosen r0_rows r0_line r0_good r0_work x0_shelf x0_rowSort x0_rowSize x0_moved x0_shown x0_tape x0_tapeSize x0_refused x0_lines x0_changes x0_coins x0_goods x0_works x0_years x0_gone x0_spent w4 x0_token w4 (0 : Int64) x0_fault x0_numbers x0_statements x0_left x0_far x0_tons x0_way x0_steps x0_met x0_queue x0_totals] 0 0 254 [(0, .ref (h0 0))] [.int y12, .ref (h0 0)] := by
            intro y12 hf
            unfold fX7_look_j254 at hf
            refine J_put (g' := gMd d h0 a0_kept a0_tried a0_chosen r0_rows r0_line r0_good r0_work x0_shelf x0_rowSort x0_rowSize x0_moved x0_shown x0_tape x0_tapeSize x0_refused x0_lines x0_changes x0_coins x0_goods x0_works x0_years x0_gone x0_spent w4 y12 w4 (0 : Int64) x0_fault x0_numbers x0_statements x0_left x0_far x0_tons x0_way x0_steps x0_met x0_queue x0_totals) (gs' := [gMd d h0 a0_kept a0_tried a0_chosen r0_rows r0_line r0_good r0_work x0_shelf x0_rowSort x0_rowSize x0_moved x0_shown x0_tape x0_tapeSize x0_refused x0_lines x0_changes x0_coins x0_goods x0_works x0_years x0_gone x0_spent w4 y12 w4 (0 : Int64) x0_fault x0_numbers x0_statements x0_left x0_far x0_tons x0_way x0_steps x0_met x0_queue x0_totals]) hK fp_RX7_159 qd3_41.1 rfl 0 0 rfl rfl rfl rfl (Nat.le_of_ble_eq_true rfl) rfl rfl ?_
            refine J_aload_n hK qd3_41.2.1 rfl 0 rfl rfl ?_
            refine J_dup hK qd3_41.2.2.1 rfl rfl ?_
            refine J_get hK fo_RX7_149 qd3_41.2.2.2.1 rfl 0 0 rfl rfl rfl ?_
            refine J_iconst (v := 1) hK qd3_41.2.2.2.2.1 rfl (by decide) ?_
            refine J_iadd hK qd3_41.2.2.2.2.2.1 rfl ?_
            refine J_put (g' := gMd d h0 a0_kept a0_tried a0_chosen r0_rows r0_line r0_good r0_work x0_shelf x0_rowSort x0_rowSize x0_moved x0_shown x0_tape x0_tapeSize x0_refused x0_lines x0_changes x0_coins x0_goods x0_works x0_years x0_gone x0_spent (w4 + 1) y12 w4 (0 : Int64) x0_fault x0_numbers x0_statements x0_left x0_far x0_tons x0_way x0_steps x0_met x0_queue x0_totals) (gs' := [gMd d h0 a0_kept a0_tried a0_chosen r0_rows r0_line r0_good r0_work x0_shelf x0_rowSort x0_rowSize x0_moved x0_shown x0_tape x0_tapeSize x0_refused x0_lines x0_changes x0_coins x0_goods x0_works x0_years x0_gone x0_spent (w4 + 1) y12 w4 (0 : Int64) x0_fault x0_numbers x0_statements x0_left x0_far x0_tons x0_way x0_steps x0_met x0_queue x0_totals]) hK fp_RX7_149 qd3_41.2.2.2.2.2.2.1 rfl 0 0 rfl rfl rfl rfl (Nat.le_of_ble_eq_true rfl) rfl rfl ?_
            obtain rfl := Option.some.inj hf
            exact J_vret hK hR qd3_41.2.2.2.2.2.2.2.1 () rfl (by decide) (by decide)
          refine J_icmp_ne (tg := 253) hK qd3_40.2.2.2.2.2.2.2.2.2.2.2.2.1 rfl rfl (fun hc246 => ?_) (fun hc246 => ?_)
          · have hf := iq hc246 hf
            refine J_iconst (v := 4) hK qd3_40.2.2.2.2.2.2.2.2.2.2.2.2.2.2.2.1 rfl (by decide) ?_
            exact (j254 (4) hf)
          · have hf := ip hc246 hf
            refine J_iconst (v := 3) hK qd3_40.2.2.2.2.2.2.2.2.2.2.2.2.2.1 rfl (by decide) ?_
            refine J_goto hK qd3_40.2.2.2.2.2.2.2.2.2.2.2.2.2.2.1 (n := 254) rfl ?_
            exact (j254 (3) hf)
        · have hf := iq hc141 hf
          refine J_aload_n hK qd3_37.2.2.2.2.2.2.2.1 rfl 0 rfl rfl ?_
          refine J_iconst (v := 2) hK qd3_37.2.2.2.2.2.2.2.2.1 rfl (by decide) ?_
          refine J_put (g' := gMd d h0 a0_kept a0_tried a0_chosen r0_rows r0_line r0_good r0_work x0_shelf x0_rowSort x0_rowSize x0_moved x0_shown x0_tape x0_tapeSize x0_refused x0_lines x0_changes x0_coins x0_goods x0_works x0_years x0_gone x0_spent w4 (2) w4 (0 : Int64) x0_fault x0_numbers x0_statements x0_left x0_far x0_tons x0_way x0_steps x0_met x0_queue x0_totals) (gs' := [gMd d h0 a0_kept a0_tried a0_chosen r0_rows r0_line r0_good r0_work x0_shelf x0_rowSort x0_rowSize x0_moved x0_shown x0_tape x0_tapeSize x0_refused x0_lines x0_changes x0_coins x0_goods x0_works x0_years x0_gone x0_spent w4 (2) w4 (0 : Int64) x0_fault x0_numbers x0_statements x0_left x0_far x0_tons x0_way x0_steps x0_met x0_queue x0_totals]) hK fp_RX7_159 qd3_37.2.2.2.2.2.2.2.2.2.1 rfl 0 0 rfl rfl rfl rfl (Nat.le_of_ble_eq_true rfl) rfl rfl ?_
          obtain ⟨e16, hl13, hf⟩ := bs hf
          have hx13_267 : ∀ (w17 : Int32) (w18 : Int64), (w17, w18) = e16 → J d Φ 1 [gMd d h0 a0_kept a0_tried a0_chosen r0_rows r0_line r0_good r0_work x0_shelf x0_rowSort x0_rowSize x0_moved x0_shown x0_tape x0_tapeSize x0_refused x0_lines x0_changes x0_coins x0_goods x0_works x0_years x0_gone x0_spent w17 (2) w4 w18 x0_fault x0_numbers x0_statements x0_left x0_far x0_tons x0_way x0_steps x0_met x0_queue x0_totals] 0 0 267 [] [] := by
            intro w17 w18 he
            rw [← he] at hf
            have hf := un2 hf
            obtain rfl := Option.some.inj hf
            exact J_vret hK hR qd3_41.2.2.2.2.2.2.2.1 () rfl (by decide) (by decide)
          have lo13 : ∀ (k : Nat) (z14 : Int32) (z15 : Int64), lp (u2 (fX7_look_s149 x0_tape x0_tapeSize w4)) k (z14, z15) = some e16 → J d Φ 1 [gMd d h0 a0_kept a0_tried a0_chosen r0_rows r0_line r0_good r0_work x0_shelf x0_rowSort x0_rowSize x0_moved x0_shown x0_tape x0_tapeSize x0_refused x0_lines x0_changes x0_coins x0_goods x0_works x0_years x0_gone x0_spent z14 (2) w4 z15 x0_fault x0_numbers x0_statements x0_left x0_far x0_tons x0_way x0_steps x0_met x0_queue x0_totals] 0 0 149 [(0, .ref (h0 0))] [] := by
            intro k
            induction k with
            | zero => intro z14 z15 h; cases h
            | succ k ih13 =>
              intro z14 z15 h
              obtain ⟨k2, rr13, hk2, hs13, hr13⟩ := lp_ok h
              cases hk2
              have hs13 : fX7_look_s149 x0_tape x0_tapeSize w4 z14 z15 = some rr13 := hs13
              unfold fX7_look_s149 at hs13
              refine J_aload_n hK qd3_37.2.2.2.2.2.2.2.2.2.2.1 rfl 0 rfl rfl ?_
              refine J_get hK fo_RX7_149 qd3_37.2.2.2.2.2.2.2.2.2.2.2.1 rfl 0 0 rfl rfl rfl ?_
              refine J_aload_n hK qd3_37.2.2.2.2.2.2.2.2.2.2.2.2.1 rfl 0 rfl rfl ?_
              refine J_get hK fo_RX7_146 qd3_37.2.2.2.2.2.2.2.2.2.2.2.2.2.1 rfl 0 0 rfl rfl rfl ?_
              refine J_icmp_ge (tg := 267) hK qd3_37.2.2.2.2.2.2.2.2.2.2.2.2.2.2.1 rfl rfl (fun hc157 => ?_) (fun hc157 => ?_)
              · have hs13 := ip hc157 hs13
                exact J_loc [] rfl (hx13_267 z14 z15 (lpx hs13 hr13))
              · have hs13 := iq hc157 hs13
                refine J_aload_n hK qd3_37.2.2.2.2.2.2.2.2.2.2.2.2.2.2.2.1 rfl 0 rfl rfl ?_
                refine J_get hK fo_RX7_31 qd3_38.1 rfl 0 0 rfl rfl rfl ?_
                refine J_aload_n hK qd3_38.2.1 rfl 0 rfl rfl ?_
                refine J_get hK fo_RX7_149 qd3_38.2.2.1 rfl 0 0 rfl rfl rfl ?_
                obtain ⟨v19, ev19, hs13⟩ := bs hs13
                refine J_iald hK qd3_38.2.2.2.1 rfl 0 7 rfl rfl ev19 ?_
                obtain ⟨v20, e21, hs13⟩ := bs hs13
                refine J_callS (m := 1) (m' := 1) (ce' := 0) (sl' := 0) (gr := [gMd d h0 a0_kept a0_tried a0_chosen r0_rows r0_line r0_good r0_work x0_shelf x0_rowSort x0_rowSize x0_moved x0_shown x0_tape x0_tapeSize x0_refused x0_lines x0_changes x0_coins x0_goods x0_works x0_years x0_gone x0_spent z14 (2) w4 z15 x0_fault x0_numbers x0_statements x0_left x0_far x0_tons x0_way x0_steps x0_met x0_queue x0_totals]) (gs' := fun _ => [gMd d h0 a0_kept a0_tried a0_chosen r0_rows r0_line r0_good r0_work x0_shelf x0_rowSort x0_rowSize x0_moved x0_shown x0_tape x0_tapeSize x0_refused x0_lines x0_changes x0_coins x0_goods x0_works x0_years x0_gone x0_spent z14 (2) w4 z15 x0_fault x0_numbers x0_statements x0_left x0_far x0_tons x0_way x0_steps x0_met x0_queue x0_totals]) (st' := fun _ => [.int v20]) (st := []) hK qd3_38.2.2.2.2.1 cv_RX7_165 ws_yX7_isDigit (As := [.int v19]) (kX7_isDigit _ d v19 e21) rfl rfl (Nat.le_of_ble_eq_true rfl) (by decide) [] [0] rfl (by decide +kernel) rfl rfl [0] (by decide +kernel) (fun _ => rfl) (fun _ => rfl) rfl rfl rfl (fun _ => rfl) (fun _ => ?_)
                refine J_if_eq (tg := 267) hK qd3_38.2.2.2.2.2.1 rfl rfl (fun hc172 => ?_) (fun hc172 => ?_)
                · have hs13 := ip hc172 hs13
                  exact J_loc [] rfl (hx13_267 z14 z15 (lpx hs13 hr13))
                · have hs13 := iq hc172 hs13
                  refine J_aload_n hK qd3_38.2.2.2.2.2.2.1 rfl 0 rfl rfl ?_
                  refine J_aload_n hK qd3_38.2.2.2.2.2.2.2.1 rfl 0 rfl rfl ?_
                  refine J_get hK fo_RX7_149 qd3_38.2.2.2.2.2.2.2.2.1 rfl 0 0 rfl rfl rfl ?_
                  refine J_aload_n hK qd3_38.2.2.2.2.2.2.2.2.2.1 rfl 0 rfl rfl ?_
                  refine J_get hK fo_RX7_152 qd3_38.2.2.2.2.2.2.2.2.2.2.1 rfl 0 0 rfl rfl rfl ?_
                  refine J_isub hK qd3_38.2.2.2.2.2.2.2.2.2.2.2.1 rfl ?_
                  refine J_iconst (v := 3) hK qd3_38.2.2.2.2.2.2.2.2.2.2.2.2.1 rfl (by decide) ?_
                  have j218 : ∀ (y22 : Int64), fX7_look_j218 z14 y22 = some rr13 → J d Φ 1 [gMd d h0 a0_kept a0_tried a0_chosen r0_rows r0_line r0_good r0_work x0_shelf x0_rowSort x0_rowSize x0_moved x0_shown x0_tape x0_tapeSize x0_refused x0_lines x0_changes x0_coins x0_goods x0_works x0_years x0_gone x0_spent z14 (2) w4 z15 x0_fault x0_numbers x0_statements x0_left x0_far x0_tons x0_way x0_steps x0_met x0_queue x0_totals] 0 0 218 [(0, .ref (h0 0))] [.long y22, .ref (h0 0)] := by
                    intro y22 hs13
                    unfold fX7_look_j218 at hs13
                    refine J_put (g' := gMd d h0 a0_kept a0_tried a0_chosen r0_rows r0_line r0_good r0_work x0_shelf x0_rowSort x0_rowSize x0_moved x0_shown x0_tape x0_tapeSize x0_refused x0_lines x0_changes x0_coins x0_goods x0_works x0_years x0_gone x0_spent z14 (2) w4 y22 x0_fault x0_numbers x0_statements x0_left x0_far x0_tons x0_way x0_steps x0_met x0_queue x0_totals) (gs' := [gMd d h0 a0_kept a0_tried a0_chosen r0_rows r0_line r0_good r0_work x0_shelf x0_rowSort x0_rowSize x0_moved x0_shown x0_tape x0_tapeSize x0_refused x0_lines x0_changes x0_coins x0_goods x0_works x0_years x0_gone x0_spent z14 (2) w4 y22 x0_fault x0_numbers x0_statements x0_left x0_far x0_tons x0_way x0_steps x0_met x0_queue x0_totals]) hK fp_RX7_155 qd3_39.2.2.2.2.2.2.2.2.2.2.2.2.2.1 rfl 0 0 rfl rfl rfl rfl (Nat.le_of_ble_eq_true rfl) rfl rfl ?_
                    refine J_aload_n hK qd3_39.2.2.2.2.2.2.2.2.2.2.2.2.2.2.1 rfl 0 rfl rfl ?_
                    refine J_dup hK qd3_39.2.2.2.2.2.2.2.2.2.2.2.2.2.2.2.1 rfl rfl ?_
                    refine J_get hK fo_RX7_149 qd3_40.1 rfl 0 0 rfl rfl rfl ?_
                    refine J_iconst (v := 1) hK qd3_40.2.1 rfl (by decide) ?_
                    refine J_iadd hK qd3_40.2.2.1 rfl ?_
                    refine J_put (g' := gMd d h0 a0_kept a0_tried a0_chosen r0_rows r0_line r0_good r0_work x0_shelf x0_rowSort x0_rowSize x0_moved x0_shown x0_tape x0_tapeSize x0_refused x0_lines x0_changes x0_coins x0_goods x0_works x0_years x0_gone x0_spent (z14 + 1) (2) w4 y22 x0_fault x0_numbers x0_statements x0_left x0_far x0_tons x0_way x0_steps x0_met x0_queue x0_totals) (gs' := [gMd d h0 a0_kept a0_tried a0_chosen r0_rows r0_line r0_good r0_work x0_shelf x0_rowSort x0_rowSize x0_moved x0_shown x0_tape x0_tapeSize x0_refused x0_lines x0_changes x0_coins x0_goods x0_works x0_years x0_gone x0_spent (z14 + 1) (2) w4 y22 x0_fault x0_numbers x0_statements x0_left x0_far x0_tons x0_way x0_steps x0_met x0_queue x0_totals]) hK fp_RX7_149 qd3_40.2.2.2.1 rfl 0 0 rfl rfl rfl rfl (Nat.le_of_ble_eq_true rfl) rfl rfl ?_
                    refine J_goto hK qd3_40.2.2.2.2.1 (n := 149) rfl ?_
                    exact (ih13 (z14 + 1) y22 (lpc hs13 hr13))
                  refine J_icmp_ge (tg := 215) hK qd3_38.2.2.2.2.2.2.2.2.2.2.2.2.2.1 rfl rfl (fun hc186 => ?_) (fun hc186 => ?_)
                  · have hs13 := ip hc186 hs13
                    refine J_ldc2 (v := (100000 : Int64)) hK qd3_39.2.2.2.2.2.2.2.2.2.2.2.2.1 rfl wk_RX7_172 ?_
                    exact (j218 (100000 : Int64) hs13)
                  · have hs13 := iq hc186 hs13
                    refine J_aload_n hK qd3_38.2.2.2.2.2.2.2.2.2.2.2.2.2.2.1 rfl 0 rfl rfl ?_
                    refine J_get hK fo_RX7_155 qd3_38.2.2.2.2.2.2.2.2.2.2.2.2.2.2.2.1 rfl 0 0 rfl rfl rfl ?_
                    refine J_ldc2 (v := (10 : Int64)) hK qd3_39.1 rfl wk_RX7_168 ?_
                    refine J_lmul hK qd3_39.2.1 rfl ?_
                    refine J_aload_n hK qd3_39.2.2.1 rfl 0 rfl rfl ?_
                    refine J_get hK fo_RX7_31 qd3_39.2.2.2.1 rfl 0 0 rfl rfl rfl ?_
                    refine J_aload_n hK qd3_39.2.2.2.2.1 rfl 0 rfl rfl ?_
                    refine J_get hK fo_RX7_149 qd3_39.2.2.2.2.2.1 rfl 0 0 rfl rfl rfl ?_
                    obtain ⟨v23, ev23, hs13⟩ := bs hs13
                    refine J_iald hK qd3_39.2.2.2.2.2.2.1 rfl 0 7 rfl rfl ev23 ?_
                    refine J_i2l hK qd3_39.2.2.2.2.2.2.2.1 rfl ?_
                    refine J_ladd hK qd3_39.2.2.2.2.2.2.2.2.1 rfl ?_
                    refine J_ldc2 (v := (48 : Int64)) hK qd3_39.2.2.2.2.2.2.2.2.2.1 rfl wk_RX7_170 ?_
                    refine J_lsub hK qd3_39.2.2.2.2.2.2.2.2.2.2.1 rfl ?_
                    refine J_goto hK qd3_39.2.2.2.2.2.2.2.2.2.2.2.1 (n := 218) rfl ?_
                    exact (j218 (((z15 * (10 : Int64)) + (v23).toInt64) - (48 : Int64)) hs13)
          exact (lo13 n w4 (0 : Int64) hl13)
      · have hf := iq hc82 hf
        refine J_aload_n hK qd3_35.2.2.2.2.2.2.2.2.2.2.1 rfl 0 rfl rfl ?_
        refine J_iconst (v := 1) hK qd3_35.2.2.2.2.2.2.2.2.2.2.2.1 rfl (by decide) ?_
        refine J_put (g' := gMd d h0 a0_kept a0_tried a0_chosen r0_rows r0_line r0_good r0_work x0_shelf x0_rowSort x0_rowSize x0_moved x0_shown x0_tape x0_tapeSize x0_refused x0_lines x0_changes x0_coins x0_goods x0_works x0_years x0_gone x0_spent w4 (1) w4 (0 : Int64) x0_fault x0_numbers x0_statements x0_left x0_far x0_tons x0_way x0_steps x0_met x0_queue x0_totals) (gs' := [gMd d h0 a0_kept a0_tried a0_chosen r0_rows r0_line r0_good r0_work x0_shelf x0_rowSort x0_rowSize x0_moved x0_shown x0_tape x0_tapeSize x0_refused x0_lines x0_changes x0_coins x0_goods x0_works x0_years x0_gone x0_spent w4 (1) w4 (0 : Int64) x0_fault x0_numbers x0_statements x0_left x0_far x0_tons x0_way x0_steps x0_met x0_queue x0_totals]) hK fp_RX7_159 qd3_35.2.2.2.2.2.2.2.2.2.2.2.2.1 rfl 0 0 rfl rfl rfl rfl (Nat.le_of_ble_eq_true rfl) rfl rfl ?_
        obtain ⟨e26, hl24, hf⟩ := bs hf
        have hx24_267 : ∀ (w27 : Int32), w27 = e26 → J d Φ 1 [gMd d h0 a0_kept a0_tried a0_chosen r0_rows r0_line r0_good r0_work x0_shelf x0_rowSort x0_rowSize x0_moved x0_shown x0_tape x0_tapeSize x0_refused x0_lines x0_changes x0_coins x0_goods x0_works x0_years x0_gone x0_spent w27 (1) w4 (0 : Int64) x0_fault x0_numbers x0_statements x0_left x0_far x0_tons x0_way x0_steps x0_met x0_queue x0_totals] 0 0 267 [] [] := by
          intro w27 he
          rw [← he] at hf
          obtain rfl := Option.some.inj hf
          exact J_vret hK hR qd3_41.2.2.2.2.2.2.2.1 () rfl (by decide) (by decide)
        have lo24 : ∀ (k : Nat) (z25 : Int32), lp (fX7_look_s90 x0_tape x0_tapeSize) k z25 = some e26 → J d Φ 1 [gMd d h0 a0_kept a0_tried a0_chosen r0_rows r0_line r0_good r0_work x0_shelf x0_rowSort x0_rowSize x0_moved x0_shown x0_tape x0_tapeSize x0_refused x0_lines x0_changes x0_coins x0_goods x0_works x0_years x0_gone x0_spent z25 (1) w4 (0 : Int64) x0_fault x0_numbers x0_statements x0_left x0_far x0_tons x0_way x0_steps x0_met x0_queue x0_totals] 0 0 90 [(0, .ref (h0 0))] [] := by
          intro k
          induction k with
          | zero => intro z25 h; cases h
          | succ k ih24 =>
            intro z25 h
            obtain ⟨k2, rr24, hk2, hs24, hr24⟩ := lp_ok h
            cases hk2
            have hs24 : fX7_look_s90 x0_tape x0_tapeSize z25 = some rr24 := hs24
            unfold fX7_look_s90 at hs24
            refine J_aload_n hK qd3_35.2.2.2.2.2.2.2.2.2.2.2.2.2.1 rfl 0 rfl rfl ?_
            refine J_get hK fo_RX7_149 qd3_35.2.2.2.2.2.2.2.2.2.2.2.2.2.2.1 rfl 0 0 rfl rfl rfl ?_
            refine J_aload_n hK qd3_35.2.2.2.2.2.2.2.2.2.2.2.2.2.2.2.1 rfl 0 rfl rfl ?_
            refine J_get hK fo_RX7_146 qd3_36.1 rfl 0 0 rfl rfl rfl ?_
            refine J_icmp_ge (tg := 267) hK qd3_36.2.1 rfl rfl (fun hc98 => ?_) (fun hc98 => ?_)
            · have hs24 := ip hc98 hs24
              exact J_loc [] rfl (hx24_267 z25 (lpx hs24 hr24))
            · have hs24 := iq hc98 hs24
              refine J_aload_n hK qd3_36.2.2.1 rfl 0 rfl rfl ?_
              refine J_get hK fo_RX7_31 qd3_36.2.2.2.1 rfl 0 0 rfl rfl rfl ?_
              refine J_aload_n hK qd3_36.2.2.2.2.1 rfl 0 rfl rfl ?_
              refine J_get hK fo_RX7_149 qd3_36.2.2.2.2.2.1 rfl 0 0 rfl rfl rfl ?_
              obtain ⟨v28, ev28, hs24⟩ := bs hs24
              refine J_iald hK qd3_36.2.2.2.2.2.2.1 rfl 0 7 rfl rfl ev28 ?_
              obtain ⟨v29, e30, hs24⟩ := bs hs24
              refine J_callS (m := 1) (m' := 1) (ce' := 0) (sl' := 0) (gr := [gMd d h0 a0_kept a0_tried a0_chosen r0_rows r0_line r0_good r0_work x0_shelf x0_rowSort x0_rowSize x0_moved x0_shown x0_tape x0_tapeSize x0_refused x0_lines x0_changes x0_coins x0_goods x0_works x0_years x0_gone x0_spent z25 (1) w4 (0 : Int64) x0_fault x0_numbers x0_statements x0_left x0_far x0_tons x0_way x0_steps x0_met x0_queue x0_totals]) (gs' := fun _ => [gMd d h0 a0_kept a0_tried a0_chosen r0_rows r0_line r0_good r0_work x0_shelf x0_rowSort x0_rowSize x0_moved x0_shown x0_tape x0_tapeSize x0_refused x0_lines x0_changes x0_coins x0_goods x0_works x0_years x0_gone x0_spent z25 (1) w4 (0 : Int64) x0_fault x0_numbers x0_statements x0_left x0_far x0_tons x0_way x0_steps x0_met x0_queue x0_totals]) (st' := fun _ => [.int v29]) (st := []) hK qd3_36.2.2.2.2.2.2.2.1 cv_RX7_162 ws_yX7_isLetter (As := [.int v28]) (kX7_isLetter _ d v28 e30) rfl rfl (Nat.le_of_ble_eq_true rfl) (by decide) [] [0] rfl (by decide +kernel) rfl rfl [0] (by decide +kernel) (fun _ => rfl) (fun _ => rfl) rfl rfl rfl (fun _ => rfl) (fun _ => ?_)
              refine J_if_eq (tg := 267) hK qd3_36.2.2.2.2.2.2.2.2.1 rfl rfl (fun hc113 => ?_) (fun hc113 => ?_)
              · have hs24 := ip hc113 hs24
                exact J_loc [] rfl (hx24_267 z25 (lpx hs24 hr24))
              · have hs24 := iq hc113 hs24
                refine J_aload_n hK qd3_36.2.2.2.2.2.2.2.2.2.1 rfl 0 rfl rfl ?_
                refine J_dup hK qd3_36.2.2.2.2.2.2.2.2.2.2.1 rfl rfl ?_
                refine J_get hK fo_RX7_149 qd3_36.2.2.2.2.2.2.2.2.2.2.2.1 rfl 0 0 rfl rfl rfl ?_
                refine J_iconst (v := 1) hK qd3_36.2.2.2.2.2.2.2.2.2.2.2.2.1 rfl (by decide) ?_
                refine J_iadd hK qd3_36.2.2.2.2.2.2.2.2.2.2.2.2.2.1 rfl ?_
                refine J_put (g' := gMd d h0 a0_kept a0_tried a0_chosen r0_rows r0_line r0_good r0_work x0_shelf x0_rowSort x0_rowSize x0_moved x0_shown x0_tape x0_tapeSize x0_refused x0_lines x0_changes x0_coins x0_goods x0_works x0_years x0_gone x0_spent (z25 + 1) (1) w4 (0 : Int64) x0_fault x0_numbers x0_statements x0_left x0_far x0_tons x0_way x0_steps x0_met x0_queue x0_totals) (gs' := [gMd d h0 a0_kept a0_tried a0_chosen r0_rows r0_line r0_good r0_work x0_shelf x0_rowSort x0_rowSize x0_moved x0_shown x0_tape x0_tapeSize x0_refused x0_lines x0_changes x0_coins x0_goods x0_works x0_years x0_gone x0_spent (z25 + 1) (1) w4 (0 : Int64) x0_fault x0_numbers x0_statements x0_left x0_far x0_tons x0_way x0_steps x0_met x0_queue x0_totals]) hK fp_RX7_149 qd3_36.2.2.2.2.2.2.2.2.2.2.2.2.2.2.1 rfl 0 0 rfl rfl rfl rfl (Nat.le_of_ble_eq_true rfl) rfl rfl ?_
                refine J_goto hK qd3_36.2.2.2.2.2.2.2.2.2.2.2.2.2.2.2.1 (n := 90) rfl ?_
                exact (ih24 (z25 + 1) (lpc hs24 hr24))
        exact (lo24 n w4 hl24)
    · have hf := ip hc59 hf
      refine J_aload_n hK qd3_34.2.2.2.2.2.2.2.2.2.2.2.2.2.2.2.1 rfl 0 rfl rfl ?_
      refine J_iconst (v := 0) hK qd3_35.1 rfl (by decide) ?_
      refine J_put (g' := gMd d h0 a0_kept a0_tried a0_chosen r0_rows r0_line r0_good r0_work x0_shelf x0_rowSort x0_rowSize x0_moved x0_shown x0_tape x0_tapeSize x0_refused x0_lines x0_changes x0_coins x0_goods x0_works x0_years x0_gone x0_spent w4 (0) w4 (0 : Int64) x0_fault x0_numbers x0_statements x0_left x0_far x0_tons x0_way x0_steps x0_met x0_queue x0_totals) (gs' := [gMd d h0 a0_kept a0_tried a0_chosen r0_rows r0_line r0_good r0_work x0_shelf x0_rowSort x0_rowSize x0_moved x0_shown x0_tape x0_tapeSize x0_refused x0_lines x0_changes x0_coins x0_goods x0_works x0_years x0_gone x0_spent w4 (0) w4 (0 : Int64) x0_fault x0_numbers x0_statements x0_left x0_far x0_tons x0_way x0_steps x0_met x0_queue x0_totals]) hK fp_RX7_159 qd3_35.2.1 rfl 0 0 rfl rfl rfl rfl (Nat.le_of_ble_eq_true rfl) rfl rfl ?_
      refine J_goto hK qd3_35.2.2.1 (n := 267) rfl ?_
      obtain rfl := Option.some.inj hf
      exact J_vret hK hR qd3_41.2.2.2.2.2.2.2.1 () rfl (by decide) (by decide)
  have lo1 : ∀ (k : Nat) (z2 : Int32), lp (fX7_look_s0 x0_tape x0_tapeSize) k z2 = some e3 → J d Φ 1 [gMd d h0 a0_kept a0_tried a0_chosen r0_rows r0_line r0_good r0_work x0_shelf x0_rowSort x0_rowSize x0_moved x0_shown x0_tape x0_tapeSize x0_refused x0_lines x0_changes x0_coins x0_goods x0_works x0_years x0_gone x0_spent z2 x0_token x0_from x0_figures x0_fault x0_numbers x0_statements x0_left x0_far x0_tons x0_way x0_steps x0_met x0_queue x0_totals] 0 0 0 [(0, .ref (h0 0))] [] := by
    intro k
    induction k with
    | zero => intro z2 h; cases h
    | succ k ih1 =>
      intro z2 h
      obtain ⟨k2, rr1, hk2, hs1, hr1⟩ := lp_ok h
      cases hk2
      have hs1 : fX7_look_s0 x0_tape x0_tapeSize z2 = some rr1 := hs1
      unfold fX7_look_s0 at hs1
      refine J_aload_n hK qd3_33.1 rfl 0 rfl rfl ?_
      refine J_get hK fo_RX7_149 qd3_33.2.1 rfl 0 0 rfl rfl rfl ?_
      refine J_aload_n hK qd3_33.2.2.1 rfl 0 rfl rfl ?_
      refine J_get hK fo_RX7_146 qd3_33.2.2.2.1 rfl 0 0 rfl rfl rfl ?_
      refine J_icmp_ge (tg := 38) hK qd3_33.2.2.2.2.1 rfl rfl (fun hc8 => ?_) (fun hc8 => ?_)
      · have hs1 := ip hc8 hs1
        exact (hx1_38 z2 (lpx hs1 hr1))
      · have hs1 := iq hc8 hs1
        refine J_aload_n hK qd3_33.2.2.2.2.2.1 rfl 0 rfl rfl ?_
        refine J_get hK fo_RX7_31 qd3_33.2.2.2.2.2.2.1 rfl 0 0 rfl rfl rfl ?_
        refine J_aload_n hK qd3_33.2.2.2.2.2.2.2.1 rfl 0 rfl rfl ?_
        refine J_get hK fo_RX7_149 qd3_33.2.2.2.2.2.2.2.2.1 rfl 0 0 rfl rfl rfl ?_
        obtain ⟨v31, ev31, hs1⟩ := bs hs1
        refine J_iald hK qd3_33.2.2.2.2.2.2.2.2.2.1 rfl 0 7 rfl rfl ev31 ?_
        refine J_bipush (v := 32) hK qd3_33.2.2.2.2.2.2.2.2.2.2.1 rfl (by decide) ?_
        refine J_icmp_ne (tg := 38) hK qd3_33.2.2.2.2.2.2.2.2.2.2.2.1 rfl rfl (fun hc22 => ?_) (fun hc22 => ?_)
        · have hs1 := iq hc22 hs1
          exact (hx1_38 z2 (lpx hs1 hr1))
        · have hs1 := ip hc22 hs1
          refine J_aload_n hK qd3_33.2.2.2.2.2.2.2.2.2.2.2.2.1 rfl 0 rfl rfl ?_
          refine J_dup hK qd3_33.2.2.2.2.2.2.2.2.2.2.2.2.2.1 rfl rfl ?_
          refine J_get hK fo_RX7_149 qd3_33.2.2.2.2.2.2.2.2.2.2.2.2.2.2.1 rfl 0 0 rfl rfl rfl ?_
          refine J_iconst (v := 1) hK qd3_33.2.2.2.2.2.2.2.2.2.2.2.2.2.2.2.1 rfl (by decide) ?_
          refine J_iadd hK qd3_34.1 rfl ?_
          refine J_put (g' := gMd d h0 a0_kept a0_tried a0_chosen r0_rows r0_line r0_good r0_work x0_shelf x0_rowSort x0_rowSize x0_moved x0_shown x0_tape x0_tapeSize x0_refused x0_lines x0_changes x0_coins x0_goods x0_works x0_years x0_gone x0_spent (z2 + 1) x0_token x0_from x0_figures x0_fault x0_numbers x0_statements x0_left x0_far x0_tons x0_way x0_steps x0_met x0_queue x0_totals) (gs' := [gMd d h0 a0_kept a0_tried a0_chosen r0_rows r0_line r0_good r0_work x0_shelf x0_rowSort x0_rowSize x0_moved x0_shown x0_tape x0_tapeSize x0_refused x0_lines x0_changes x0_coins x0_goods x0_works x0_years x0_gone x0_spent (z2 + 1) x0_token x0_from x0_figures x0_fault x0_numbers x0_statements x0_left x0_far x0_tons x0_way x0_steps x0_met x0_queue x0_totals]) hK fp_RX7_149 qd3_34.2.1 rfl 0 0 rfl rfl rfl rfl (Nat.le_of_ble_eq_true rfl) rfl rfl ?_
          refine J_goto hK qd3_34.2.2.1 (n := 0) rfl ?_
          exact (ih1 (z2 + 1) (lpc hs1 hr1))
  exact (lo1 n x0_at hl1)

def fX7_wrong (X0 : MdT) : Option (Int32 × Int32) :=
  u35 (fun (x0_shelf : (Nat → Int32)) (x0_rowSort : (Nat → Int32)) (x0_rowSize : (Nat → Int32)) (x0_rows : (Nat → Nat → Int64)) (x0_moved : (Nat → Int64)) (x0_shown : (Nat → Int32)) (x0_tape : (Nat → Int32)) (x0_tapeSize : Int32) (x0_refused : (Nat → Int32)) (x0_lines : Int32) (x0_line : (Nat → Nat → Int32)) (x0_changes : (Nat → Int32)) (x0_coins : (Nat → Int32)) (x0_goods : Int32) (x0_good : (Nat → Nat → Int32)) (x0_works : Int32) (x0_work : (Nat → Nat → Int32)) (x0_years : Int32) (x0_gone : Int32) (x0_spent : Int32) (x0_at : Int32) (x0_token : Int32) (x0_from : Int32) (x0_figures : Int64) (x0_fault : Int32) (x0_numbers : (Nat → Int32)) (x0_statements : Int32) (x0_left : (Nat → Int32)) (x0_far : (Nat → Int32)) (x0_tons : Int32) (x0_way : (Nat → Int32)) (x0_steps : Int32) (x0_met : Int64) (x0_queue : (Nat → Int32)) (x0_totals : (Nat → Int32)) => some (0, x0_from)) X0
set_option maxHeartbeats 4000000 in
set_option maxRecDepth 100000 in
theorem kX7_wrong (l : Launch) (d : DT) (h0 : Nat → Nat) (r0_rows : Nat → Nat) (r0_line : Nat → Nat) (r0_good : Nat → Nat) (r0_work : Nat → Nat) (a0_kept : Option Nat) (a0_tried : Option Nat) (a0_chosen : Option Nat) (x0_shelf : (Nat → Int32)) (x0_rowSort : (Nat → Int32)) (x0_rowSize : (Nat → Int32)) (x0_rows : (Nat → Nat → Int64)) (x0_moved : (Nat → Int64)) (x0_shown : (Nat → Int32)) (x0_tape : (Nat → Int32)) (x0_tapeSize : Int32) (x0_refused : (Nat → Int32)) (x0_lines : Int32) (x0_line : (Nat → Nat → Int32)) (x0_changes : (Nat → Int32)) (x0_coins : (Nat → Int32)) (x0_goods : Int32) (x0_good : (Nat → Nat → Int32)) (x0_works : Int32) (x0_work : (Nat → Nat → Int32)) (x0_years : Int32) (x0_gone : Int32) (x0_spent : Int32) (x0_at : Int32) (x0_token : Int32) (x0_from : Int32) (x0_figures : Int64) (x0_fault : Int32) (x0_numbers : (Nat → Int32)) (x0_statements : Int32) (x0_left : (Nat → Int32)) (x0_far : (Nat → Int32)) (x0_tons : Int32) (x0_way : (Nat → Int32)) (x0_steps : Int32) (x0_met : Int64) (x0_queue : (Nat → Int32)) (x0_totals : (Nat → Int32))  {out : Int32 × Int32} (hf : fX7_wrong (x0_shelf, x0_rowSort, x0_rowSize, x0_rows, x0_moved, x0_shown, x0_tape, x0_tapeSize, x0_refused, x0_lines, x0_line, x0_changes, x0_coins, x0_goods, x0_good, x0_works, x0_work, x0_years, x0_gone, x0_spent, x0_at, x0_token, x0_from, x0_figures, x0_fault, x0_numbers, x0_statements, x0_left, x0_far, x0_tons, x0_way, x0_steps, x0_met, x0_queue, x0_totals) = some out) : Ct l d yX7_wrong cX7_wrong 1 (some .boolean) { frames := 0, cells := 0, slots := 0, locals := 0 } [.ref (h0 0)] [gMd d h0 a0_kept a0_tried a0_chosen r0_rows r0_line r0_good r0_work x0_shelf x0_rowSort x0_rowSize x0_moved x0_shown x0_tape x0_tapeSize x0_refused x0_lines x0_changes x0_coins x0_goods x0_works x0_years x0_gone x0_spent x0_at x0_token x0_from x0_figures x0_fault x0_numbers x0_statements x0_left x0_far x0_tons x0_way x0_steps x0_met x0_queue x0_totals] (fun _ : Unit => (some (.int out.1), [gMd d h0 a0_kept a0_tried a0_chosen r0_rows r0_line r0_good r0_work x0_shelf x0_rowSort x0_rowSize x0_moved x0_shown x0_tape x0_tapeSize x0_refused x0_lines x0_changes x0_coins x0_goods x0_works x0_years x0_gone x0_spent x0_at x0_token x0_from x0_figures (out.2) x0_numbers x0_statements x0_left x0_far x0_tons x0_way x0_steps x0_met x0_queue x0_totals])) := by
  refine Ct.of (by decide) (Nat.le_of_ble_eq_true rfl) ?_
  intro Φ hl hK hR
  subst hl
  have hK : Ok d Φ RX7 "wrong" cX7_wrong 1 (some .boolean) { frames := 0, cells := 0, slots := 0, locals := 0 } := hK
  unfold fX7_wrong at hf
  have hf := un35 hf
  show J d Φ 1 [gMd d h0 a0_kept a0_tried a0_chosen r0_rows r0_line r0_good r0_work x0_shelf x0_rowSort x0_rowSize x0_moved x0_shown x0_tape x0_tapeSize x0_refused x0_lines x0_changes x0_coins x0_goods x0_works x0_years x0_gone x0_spent x0_at x0_token x0_from x0_figures x0_fault x0_numbers x0_statements x0_left x0_far x0_tons x0_way x0_steps x0_met x0_queue x0_totals] 0 0 0 [(0, .ref (h0 0))] []
  refine J_aload_n hK qd3_42.1 rfl 0 rfl rfl ?_
  refine J_aload_n hK qd3_42.2.1 rfl 0 rfl rfl ?_
  refine J_get hK fo_RX7_152 qd3_42.2.2.1 rfl 0 0 rfl rfl rfl ?_
  refine J_put (g' := gMd d h0 a0_kept a0_tried a0_chosen r0_rows r0_line r0_good r0_work x0_shelf x0_rowSort x0_rowSize x0_moved x0_shown x0_tape x0_tapeSize x0_refused x0_lines x0_changes x0_coins x0_goods x0_works x0_years x0_gone x0_spent x0_at x0_token x0_from x0_figures x0_from x0_numbers x0_statements x0_left x0_far x0_tons x0_way x0_steps x0_met x0_queue x0_totals) (gs' := [gMd d h0 a0_kept a0_tried a0_chosen r0_rows r0_line r0_good r0_work x0_shelf x0_rowSort x0_rowSize x0_moved x0_shown x0_tape x0_tapeSize x0_refused x0_lines x0_changes x0_coins x0_goods x0_works x0_years x0_gone x0_spent x0_at x0_token x0_from x0_figures x0_from x0_numbers x0_statements x0_left x0_far x0_tons x0_way x0_steps x0_met x0_queue x0_totals]) hK fp_RX7_174 qd3_42.2.2.2.1 rfl 0 0 rfl rfl rfl rfl (Nat.le_of_ble_eq_true rfl) rfl rfl ?_
  refine J_iconst (v := 0) hK qd3_42.2.2.2.2.1 rfl (by decide) ?_
  obtain rfl := Option.some.inj hf
  exact J_zret hK hR qd3_42.2.2.2.2.2.1 () rfl rfl (by decide) (by decide)

def fX7_isWord_s28 (p1 : Nat) (x0_tape : (Nat → Int32)) (x0_from : Int32) (z3 : Int32) : Option ((Int32) ⊕ (((Unit) ⊕ (Unit)))) :=
  (slen p1).bind fun v5 => if v5 ≤ z3 then (some (.inr (.inr ()))) else ((rd 250 x0_tape (x0_from + z3)).bind fun v6 => (schar p1 z3).bind fun v7 => if v6 = v7 then (some (.inl (z3 + 1))) else (some (.inr (.inl ()))))
def fX7_isWord (n : Nat) (X0 : MdT) (p1 : Nat) : Option (Int32) :=
  u35 (fun (x0_shelf : (Nat → Int32)) (x0_rowSort : (Nat → Int32)) (x0_rowSize : (Nat → Int32)) (x0_rows : (Nat → Nat → Int64)) (x0_moved : (Nat → Int64)) (x0_shown : (Nat → Int32)) (x0_tape : (Nat → Int32)) (x0_tapeSize : Int32) (x0_refused : (Nat → Int32)) (x0_lines : Int32) (x0_line : (Nat → Nat → Int32)) (x0_changes : (Nat → Int32)) (x0_coins : (Nat → Int32)) (x0_goods : Int32) (x0_good : (Nat → Nat → Int32)) (x0_works : Int32) (x0_work : (Nat → Nat → Int32)) (x0_years : Int32) (x0_gone : Int32) (x0_spent : Int32) (x0_at : Int32) (x0_token : Int32) (x0_from : Int32) (x0_figures : Int64) (x0_fault : Int32) (x0_numbers : (Nat → Int32)) (x0_statements : Int32) (x0_left : (Nat → Int32)) (x0_far : (Nat → Int32)) (x0_tons : Int32) (x0_way : (Nat → Int32)) (x0_steps : Int32) (x0_met : Int64) (x0_queue : (Nat → Int32)) (x0_totals : (Nat → Int32)) => if x0_token = 1 then ((slen p1).bind fun v1 => if (x0_at - x0_from) = v1 then ((lp (fX7_isWord_s28 p1 x0_tape x0_from) n (0)).bind (Sum.elim (fun _ => some (0)) (fun _ => some (1)))) else (some (0))) else (some (0))) X0
set_option maxHeartbeats 4000000 in
set_option maxRecDepth 100000 in
theorem kX7_isWord (l : Launch) (d : DT) (h0 : Nat → Nat) (r0_rows : Nat → Nat) (r0_line : Nat → Nat) (r0_good : Nat → Nat) (r0_work : Nat → Nat) (a0_kept : Option Nat) (a0_tried : Option Nat) (a0_chosen : Option Nat) (n : Nat) (x0_shelf : (Nat → Int32)) (x0_rowSort : (Nat → Int32)) (x0_rowSize : (Nat → Int32)) (x0_rows : (Nat → Nat → Int64)) (x0_moved : (Nat → Int64)) (x0_shown : (Nat → Int32)) (x0_tape : (Nat → Int32)) (x0_tapeSize : Int32) (x0_refused : (Nat → Int32)) (x0_lines : Int32) (x0_line : (Nat → Nat → Int32)) (x0_changes : (Nat → Int32)) (x0_coins : (Nat → Int32)) (x0_goods : Int32) (x0_good : (Nat → Nat → Int32)) (x0_works : Int32) (x0_work : (Nat → Nat → Int32)) (x0_years : Int32) (x0_gone : Int32) (x0_spent : Int32) (x0_at : Int32) (x0_token : Int32) (x0_from : Int32) (x0_figures : Int64) (x0_fault : Int32) (x0_numbers : (Nat → Int32)) (x0_statements : Int32) (x0_left : (Nat → Int32)) (x0_far : (Nat → Int32)) (x0_tons : Int32) (x0_way : (Nat → Int32)) (x0_steps : Int32) (x0_met : Int64) (x0_queue : (Nat → Int32)) (x0_totals : (Nat → Int32)) (p1 : Nat)  {out : Int32} (hf : fX7_isWord n (x0_shelf, x0_rowSort, x0_rowSize, x0_rows, x0_moved, x0_shown, x0_tape, x0_tapeSize, x0_refused, x0_lines, x0_line, x0_changes, x0_coins, x0_goods, x0_good, x0_works, x0_work, x0_years, x0_gone, x0_spent, x0_at, x0_token, x0_from, x0_figures, x0_fault, x0_numbers, x0_statements, x0_left, x0_far, x0_tons, x0_way, x0_steps, x0_met, x0_queue, x0_totals) p1 = some out) : Ct l d yX7_isWord cX7_isWord 3 (some .boolean) { frames := 4, cells := 0, slots := 0, locals := 85 } [.ref (h0 0), .ref (d.2.2.2.1 p1)] [gMd d h0 a0_kept a0_tried a0_chosen r0_rows r0_line r0_good r0_work x0_shelf x0_rowSort x0_rowSize x0_moved x0_shown x0_tape x0_tapeSize x0_refused x0_lines x0_changes x0_coins x0_goods x0_works x0_years x0_gone x0_spent x0_at x0_token x0_from x0_figures x0_fault x0_numbers x0_statements x0_left x0_far x0_tons x0_way x0_steps x0_met x0_queue x0_totals] (fun _ : Unit => (some (.int out), [gMd d h0 a0_kept a0_tried a0_chosen r0_rows r0_line r0_good r0_work x0_shelf x0_rowSort x0_rowSize x0_moved x0_shown x0_tape x0_tapeSize x0_refused x0_lines x0_changes x0_coins x0_goods x0_works x0_years x0_gone x0_spent x0_at x0_token x0_from x0_figures x0_fault x0_numbers x0_statements x0_left x0_far x0_tons x0_way x0_steps x0_met x0_queue x0_totals])) := by
  refine Ct.of (by decide) (Nat.le_of_ble_eq_true rfl) ?_
  intro Φ hl hK hR
  subst hl
  have hK : Ok d Φ RX7 "isWord" cX7_isWord 3 (some .boolean) { frames := 4, cells := 0, slots := 0, locals := 85 } := hK
  unfold fX7_isWord at hf
  have hf := un35 hf
  show J d Φ 3 [gMd d h0 a0_kept a0_tried a0_chosen r0_rows r0_line r0_good r0_work x0_shelf x0_rowSort x0_rowSize x0_moved x0_shown x0_tape x0_tapeSize x0_refused x0_lines x0_changes x0_coins x0_goods x0_works x0_years x0_gone x0_spent x0_at x0_token x0_from x0_figures x0_fault x0_numbers x0_statements x0_left x0_far x0_tons x0_way x0_steps x0_met x0_queue x0_totals] 0 0 0 [(0, .ref (h0 0)), (1, .ref (d.2.2.2.1 p1))] []
  refine J_aload_n hK qd3_43.1 rfl 0 rfl rfl ?_
  refine J_get hK fo_RX7_159 qd3_43.2.1 rfl 0 0 rfl rfl rfl ?_
  refine J_iconst (v := 1) hK qd3_43.2.2.1 rfl (by decide) ?_
  refine J_icmp_ne (tg := 24) hK qd3_43.2.2.2.1 rfl rfl (fun hc5 => ?_) (fun hc5 => ?_)
  · have hf := iq hc5 hf
    refine J_iconst (v := 0) hK qd3_43.2.2.2.2.2.2.2.2.2.2.2.2.1 rfl (by decide) ?_
    obtain rfl := Option.some.inj hf
    exact J_zret hK hR qd3_43.2.2.2.2.2.2.2.2.2.2.2.2.2.1 () rfl rfl (by decide) (by decide)
  · have hf := ip hc5 hf
    refine J_aload_n hK qd3_43.2.2.2.2.1 rfl 0 rfl rfl ?_
    refine J_get hK fo_RX7_149 qd3_43.2.2.2.2.2.1 rfl 0 0 rfl rfl rfl ?_
    refine J_aload_n hK qd3_43.2.2.2.2.2.2.1 rfl 0 rfl rfl ?_
    refine J_get hK fo_RX7_152 qd3_43.2.2.2.2.2.2.2.1 rfl 0 0 rfl rfl rfl ?_
    refine J_isub hK qd3_43.2.2.2.2.2.2.2.2.1 rfl ?_
    refine J_aload_n hK qd3_43.2.2.2.2.2.2.2.2.2.1 rfl 1 rfl rfl ?_
    obtain ⟨v1, ev1, hf⟩ := bs hf
    refine J_callT (m' := 1) (m := 1) (gr := [gMd d h0 a0_kept a0_tried a0_chosen r0_rows r0_line r0_good r0_work x0_shelf x0_rowSort x0_rowSize x0_moved x0_shown x0_tape x0_tapeSize x0_refused x0_lines x0_changes x0_coins x0_goods x0_works x0_years x0_gone x0_spent x0_at x0_token x0_from x0_figures x0_fault x0_numbers x0_statements x0_left x0_far x0_tons x0_way x0_steps x0_met x0_queue x0_totals]) (gs' := fun _ => [gMd d h0 a0_kept a0_tried a0_chosen r0_rows r0_line r0_good r0_work x0_shelf x0_rowSort x0_rowSize x0_moved x0_shown x0_tape x0_tapeSize x0_refused x0_lines x0_changes x0_coins x0_goods x0_works x0_years x0_gone x0_spent x0_at x0_token x0_from x0_figures x0_fault x0_numbers x0_statements x0_left x0_far x0_tons x0_way x0_steps x0_met x0_queue x0_totals]) (st' := fun _ => [.int v1, .int (x0_at - x0_from)]) (st := [.int (x0_at - x0_from)]) hK qd3_43.2.2.2.2.2.2.2.2.2.2.1 cv_RX7_177 iv_yJ0_length_8abf5 (As := []) (kJ_length _ d p1 ev1) rfl rfl (Nat.le_of_ble_eq_true rfl) (by decide) (hK.str (str_some_length ev1).choose_spec).1 [] [0] rfl (by decide +kernel) rfl rfl [0] (by decide +kernel) (fun _ => rfl) (fun _ => rfl) rfl rfl rfl (fun _ => rfl) (fun _ => ?_)
    refine J_icmp_eq (tg := 26) hK qd3_43.2.2.2.2.2.2.2.2.2.2.2.1 rfl rfl (fun hc21 => ?_) (fun hc21 => ?_)
    · have hf := ip hc21 hf
      refine J_iconst (v := 0) hK qd3_43.2.2.2.2.2.2.2.2.2.2.2.2.2.2.1 rfl (by decide) ?_
      refine J_istore_n (L' := [(2, .int (0)), (0, .ref (h0 0)), (1, .ref (d.2.2.2.1 p1))]) hK qd3_43.2.2.2.2.2.2.2.2.2.2.2.2.2.2.2.1 rfl rfl (by decide) rfl ?_
      obtain ⟨e4, hl2, hf⟩ := bs hf
      have hx2_55 : (.inl ()) = e4 → J d Φ 3 [gMd d h0 a0_kept a0_tried a0_chosen r0_rows r0_line r0_good r0_work x0_shelf x0_rowSort x0_rowSize x0_moved x0_shown x0_tape x0_tapeSize x0_refused x0_lines x0_changes x0_coins x0_goods x0_works x0_years x0_gone x0_spent x0_at x0_token x0_from x0_figures x0_fault x0_numbers x0_statements x0_left x0_far x0_tons x0_way x0_steps x0_met x0_queue x0_totals] 0 0 55 [] [] := by
        intro  he
        rw [← he] at hf
        simp only [Sum.elim_inl, Sum.elim_inr] at hf
        refine J_iconst (v := 0) hK qd3_44.2.2.2.2.2.2.2.2.2.2.2.2.2.2.2.1 rfl (by decide) ?_
        obtain rfl := Option.some.inj hf
        exact J_zret hK hR qd3_45.1 () rfl rfl (by decide) (by decide)
      have hx2_63 : (.inr ()) = e4 → J d Φ 3 [gMd d h0 a0_kept a0_tried a0_chosen r0_rows r0_line r0_good r0_work x0_shelf x0_rowSort x0_rowSize x0_moved x0_shown x0_tape x0_tapeSize x0_refused x0_lines x0_changes x0_coins x0_goods x0_works x0_years x0_gone x0_spent x0_at x0_token x0_from x0_figures x0_fault x0_numbers x0_statements x0_left x0_far x0_tons x0_way x0_steps x0_met x0_queue x0_totals] 0 0 63 [] [] := by
        intro  he
        rw [← he] at hf
        simp only [Sum.elim_inl, Sum.elim_inr] at hf
        refine J_iconst (v := 1) hK qd3_45.2.2.2.1 rfl (by decide) ?_
        obtain rfl := Option.some.inj hf
        exact J_zret hK hR qd3_45.2.2.2.2.1 () rfl rfl (by decide) (by decide)
      have lo2 : ∀ (k : Nat) (z3 : Int32), lp (fX7_isWord_s28 p1 x0_tape x0_from) k z3 = some e4 → J d Φ 3 [gMd d h0 a0_kept a0_tried a0_chosen r0_rows r0_line r0_good r0_work x0_shelf x0_rowSort x0_rowSize x0_moved x0_shown x0_tape x0_tapeSize x0_refused x0_lines x0_changes x0_coins x0_goods x0_works x0_years x0_gone x0_spent x0_at x0_token x0_from x0_figures x0_fault x0_numbers x0_statements x0_left x0_far x0_tons x0_way x0_steps x0_met x0_queue x0_totals] 0 0 28 [(0, .ref (h0 0)), (1, .ref (d.2.2.2.1 p1)), (2, .int z3)] [] := by
        intro k
        induction k with
        | zero => intro z3 h; cases h
        | succ k ih2 =>
          intro z3 h
          obtain ⟨k2, rr2, hk2, hs2, hr2⟩ := lp_ok h
          cases hk2
          have hs2 : fX7_isWord_s28 p1 x0_tape x0_from z3 = some rr2 := hs2
          unfold fX7_isWord_s28 at hs2
          refine J_iload_n hK qd3_44.1 rfl 2 rfl rfl ?_
          refine J_aload_n hK qd3_44.2.1 rfl 1 rfl rfl ?_
          obtain ⟨v5, ev5, hs2⟩ := bs hs2
          refine J_callT (m' := 1) (m := 1) (gr := [gMd d h0 a0_kept a0_tried a0_chosen r0_rows r0_line r0_good r0_work x0_shelf x0_rowSort x0_rowSize x0_moved x0_shown x0_tape x0_tapeSize x0_refused x0_lines x0_changes x0_coins x0_goods x0_works x0_years x0_gone x0_spent x0_at x0_token x0_from x0_figures x0_fault x0_numbers x0_statements x0_left x0_far x0_tons x0_way x0_steps x0_met x0_queue x0_totals]) (gs' := fun _ => [gMd d h0 a0_kept a0_tried a0_chosen r0_rows r0_line r0_good r0_work x0_shelf x0_rowSort x0_rowSize x0_moved x0_shown x0_tape x0_tapeSize x0_refused x0_lines x0_changes x0_coins x0_goods x0_works x0_years x0_gone x0_spent x0_at x0_token x0_from x0_figures x0_fault x0_numbers x0_statements x0_left x0_far x0_tons x0_way x0_steps x0_met x0_queue x0_totals]) (st' := fun _ => [.int v5, .int z3]) (st := [.int z3]) hK qd3_44.2.2.1 cv_RX7_177 iv_yJ0_length_8abf5 (As := []) (kJ_length _ d p1 ev5) rfl rfl (Nat.le_of_ble_eq_true rfl) (by decide) (hK.str (str_some_length ev5).choose_spec).1 [] [0] rfl (by decide +kernel) rfl rfl [0] (by decide +kernel) (fun _ => rfl) (fun _ => rfl) rfl rfl rfl (fun _ => rfl) (fun _ => ?_)
          refine J_icmp_ge (tg := 63) hK qd3_44.2.2.2.1 rfl rfl (fun hc33 => ?_) (fun hc33 => ?_)
          · have hs2 := ip hc33 hs2
            exact J_loc [] rfl (hx2_63  (lpx hs2 hr2))
          · have hs2 := iq hc33 hs2
            refine J_aload_n hK qd3_44.2.2.2.2.1 rfl 0 rfl rfl ?_
            refine J_get hK fo_RX7_31 qd3_44.2.2.2.2.2.1 rfl 0 0 rfl rfl rfl ?_
            refine J_aload_n hK qd3_44.2.2.2.2.2.2.1 rfl 0 rfl rfl ?_
            refine J_get hK fo_RX7_152 qd3_44.2.2.2.2.2.2.2.1 rfl 0 0 rfl rfl rfl ?_
            refine J_iload_n hK qd3_44.2.2.2.2.2.2.2.2.1 rfl 2 rfl rfl ?_
            refine J_iadd hK qd3_44.2.2.2.2.2.2.2.2.2.1 rfl ?_
            obtain ⟨v6, ev6, hs2⟩ := bs hs2
            refine J_iald hK qd3_44.2.2.2.2.2.2.2.2.2.2.1 rfl 0 7 rfl rfl ev6 ?_
            refine J_aload_n hK qd3_44.2.2.2.2.2.2.2.2.2.2.2.1 rfl 1 rfl rfl ?_
            refine J_iload_n hK qd3_44.2.2.2.2.2.2.2.2.2.2.2.2.1 rfl 2 rfl rfl ?_
            obtain ⟨v7, ev7, hs2⟩ := bs hs2
            refine J_callT (m' := 1) (m := 1) (gr := [gMd d h0 a0_kept a0_tried a0_chosen r0_rows r0_line r0_good r0_work x0_shelf x0_rowSort x0_rowSize x0_moved x0_shown x0_tape x0_tapeSize x0_refused x0_lines x0_changes x0_coins x0_goods x0_works x0_years x0_gone x0_spent x0_at x0_token x0_from x0_figures x0_fault x0_numbers x0_statements x0_left x0_far x0_tons x0_way x0_steps x0_met x0_queue x0_totals]) (gs' := fun _ => [gMd d h0 a0_kept a0_tried a0_chosen r0_rows r0_line r0_good r0_work x0_shelf x0_rowSort x0_rowSize x0_moved x0_shown x0_tape x0_tapeSize x0_refused x0_lines x0_changes x0_coins x0_goods x0_works x0_years x0_gone x0_spent x0_at x0_token x0_from x0_figures x0_fault x0_numbers x0_statements x0_left x0_far x0_tons x0_way x0_steps x0_met x0_queue x0_totals]) (st' := fun _ => [.int v7, .int v6]) (st := [.int v6]) hK qd3_44.2.2.2.2.2.2.2.2.2.2.2.2.2.1 cv_RX7_183 iv_yJ0_charAt_5068e (As := [.int z3]) (kJ_charAt _ d p1 z3 ev7) rfl rfl (Nat.le_of_ble_eq_true rfl) (by decide) (hK.str (str_some_charAt ev7).choose_spec).1 [] [0] rfl (by decide +kernel) rfl rfl [0] (by decide +kernel) (fun _ => rfl) (fun _ => rfl) rfl rfl rfl (fun _ => rfl) (fun _ => ?_)
            refine J_icmp_eq (tg := 57) hK qd3_44.2.2.2.2.2.2.2.2.2.2.2.2.2.2.1 rfl rfl (fun hc52 => ?_) (fun hc52 => ?_)
            · have hs2 := ip hc52 hs2
              refine J_iinc (L' := [(2, .int (z3 + 1)), (0, .ref (h0 0)), (1, .ref (d.2.2.2.1 p1))]) (v := (z3 + 1)) hK qd3_45.2.1 rfl 2 rfl rfl (by decide) rfl ?_
              refine J_goto hK qd3_45.2.2.1 (n := 28) rfl ?_
              exact J_loc [1, 2, 0] rfl (ih2 (z3 + 1) (lpc hs2 hr2))
            · have hs2 := iq hc52 hs2
              exact J_loc [] rfl (hx2_55  (lpx hs2 hr2))
      exact J_loc [1, 2, 0] rfl (lo2 n (0) hl2)
    · have hf := iq hc21 hf
      refine J_iconst (v := 0) hK qd3_43.2.2.2.2.2.2.2.2.2.2.2.2.1 rfl (by decide) ?_
      obtain rfl := Option.some.inj hf
      exact J_zret hK hR qd3_43.2.2.2.2.2.2.2.2.2.2.2.2.2.1 () rfl rfl (by decide) (by decide)

def fX7_number (n : Nat) (X0 : MdT) (m1 : Nat) (p1 : (Nat → Int32)) (p2 : Int32) (p3 : Int32) (p4 : Int32) : Option (Int32 × (Int32 × Int32 × Int32 × Int64 × Int32) × (Nat → Int32)) :=
  u35 (fun (x0_shelf : (Nat → Int32)) (x0_rowSort : (Nat → Int32)) (x0_rowSize : (Nat → Int32)) (x0_rows : (Nat → Nat → Int64)) (x0_moved : (Nat → Int64)) (x0_shown : (Nat → Int32)) (x0_tape : (Nat → Int32)) (x0_tapeSize : Int32) (x0_refused : (Nat → Int32)) (x0_lines : Int32) (x0_line : (Nat → Nat → Int32)) (x0_changes : (Nat → Int32)) (x0_coins : (Nat → Int32)) (x0_goods : Int32) (x0_good : (Nat → Nat → Int32)) (x0_works : Int32) (x0_work : (Nat → Nat → Int32)) (x0_years : Int32) (x0_gone : Int32) (x0_spent : Int32) (x0_at : Int32) (x0_token : Int32) (x0_from : Int32) (x0_figures : Int64) (x0_fault : Int32) (x0_numbers : (Nat → Int32)) (x0_statements : Int32) (x0_left : (Nat → Int32)) (x0_far : (Nat → Int32)) (x0_tons : Int32) (x0_way : (Nat → Int32)) (x0_steps : Int32) (x0_met : Int64) (x0_queue : (Nat → Int32)) (x0_totals : (Nat → Int32)) => if x0_token = 2 then ((fX7_in x0_figures ((p3).toInt64) ((p4).toInt64)).bind (fun v5 => if v5 = 0 then ((fX7_wrong (x0_shelf, x0_rowSort, x0_rowSize, x0_rows, x0_moved, x0_shown, x0_tape, x0_tapeSize, x0_refused, x0_lines, x0_line, x0_changes, x0_coins, x0_goods, x0_good, x0_works, x0_work, x0_years, x0_gone, x0_spent, x0_at, x0_token, x0_from, x0_figures, x0_fault, x0_numbers, x0_statements, x0_left, x0_far, x0_tons, x0_way, x0_steps, x0_met, x0_queue, x0_totals)).bind (u2 fun v13 g14 => (zb v13).bind fun v16 => some (v16, (x0_at, x0_token, x0_from, x0_figures, g14), p1))) else ((wr m1 p1 p2 ((x0_figures).toInt32)).bind fun f7 => (fX7_look n (x0_shelf, x0_rowSort, x0_rowSize, x0_rows, x0_moved, x0_shown, x0_tape, x0_tapeSize, x0_refused, x0_lines, x0_line, x0_changes, x0_coins, x0_goods, x0_good, x0_works, x0_work, x0_years, x0_gone, x0_spent, x0_at, x0_token, x0_from, x0_figures, x0_fault, x0_numbers, x0_statements, x0_left, x0_far, x0_tons, x0_way, x0_steps, x0_met, x0_queue, x0_totals)).bind (u4 fun g8 g9 g10 g11 => some (1, (g8, g9, g10, g11, x0_fault), f7))))) else ((fX7_wrong (x0_shelf, x0_rowSort, x0_rowSize, x0_rows, x0_moved, x0_shown, x0_tape, x0_tapeSize, x0_refused, x0_lines, x0_line, x0_changes, x0_coins, x0_goods, x0_good, x0_works, x0_work, x0_years, x0_gone, x0_spent, x0_at, x0_token, x0_from, x0_figures, x0_fault, x0_numbers, x0_statements, x0_left, x0_far, x0_tons, x0_way, x0_steps, x0_met, x0_queue, x0_totals)).bind (u2 fun v1 g2 => (zb v1).bind fun v4 => some (v4, (x0_at, x0_token, x0_from, x0_figures, g2), p1)))) X0
set_option maxHeartbeats 4000000 in
set_option maxRecDepth 100000 in
theorem kX7_number (l : Launch) (d : DT) (h0 : Nat → Nat) (r0_rows : Nat → Nat) (r0_line : Nat → Nat) (r0_good : Nat → Nat) (r0_work : Nat → Nat) (a0_kept : Option Nat) (a0_tried : Option Nat) (a0_chosen : Option Nat) (b1 : Nat) (n : Nat) (x0_shelf : (Nat → Int32)) (x0_rowSort : (Nat → Int32)) (x0_rowSize : (Nat → Int32)) (x0_rows : (Nat → Nat → Int64)) (x0_moved : (Nat → Int64)) (x0_shown : (Nat → Int32)) (x0_tape : (Nat → Int32)) (x0_tapeSize : Int32) (x0_refused : (Nat → Int32)) (x0_lines : Int32) (x0_line : (Nat → Nat → Int32)) (x0_changes : (Nat → Int32)) (x0_coins : (Nat → Int32)) (x0_goods : Int32) (x0_good : (Nat → Nat → Int32)) (x0_works : Int32) (x0_work : (Nat → Nat → Int32)) (x0_years : Int32) (x0_gone : Int32) (x0_spent : Int32) (x0_at : Int32) (x0_token : Int32) (x0_from : Int32) (x0_figures : Int64) (x0_fault : Int32) (x0_numbers : (Nat → Int32)) (x0_statements : Int32) (x0_left : (Nat → Int32)) (x0_far : (Nat → Int32)) (x0_tons : Int32) (x0_way : (Nat → Int32)) (x0_steps : Int32) (x0_met : Int64) (x0_queue : (Nat → Int32)) (x0_totals : (Nat → Int32)) (m1 : Nat) (p1 : (Nat → Int32)) (p2 : Int32) (p3 : Int32) (p4 : Int32)  {out : Int32 × (Int32 × Int32 × Int32 × Int64 × Int32) × (Nat → Int32)} (hf : fX7_number n (x0_shelf, x0_rowSort, x0_rowSize, x0_rows, x0_moved, x0_shown, x0_tape, x0_tapeSize, x0_refused, x0_lines, x0_line, x0_changes, x0_coins, x0_goods, x0_good, x0_works, x0_work, x0_years, x0_gone, x0_spent, x0_at, x0_token, x0_from, x0_figures, x0_fault, x0_numbers, x0_statements, x0_left, x0_far, x0_tons, x0_way, x0_steps, x0_met, x0_queue, x0_totals) m1 p1 p2 p3 p4 = some out) : Ct l d yX7_number cX7_number 5 (some .boolean) { frames := 2, cells := 0, slots := 0, locals := 40 } [.ref (h0 0), .ref b1, .int p2, .int p3, .int p4] [gMd d h0 a0_kept a0_tried a0_chosen r0_rows r0_line r0_good r0_work x0_shelf x0_rowSort x0_rowSize x0_moved x0_shown x0_tape x0_tapeSize x0_refused x0_lines x0_changes x0_coins x0_goods x0_works x0_years x0_gone x0_spent x0_at x0_token x0_from x0_figures x0_fault x0_numbers x0_statements x0_left x0_far x0_tons x0_way x0_steps x0_met x0_queue x0_totals, [cI d b1 m1 p1]] (fun _ : Unit => (some (.int out.1), [gMd d h0 a0_kept a0_tried a0_chosen r0_rows r0_line r0_good r0_work x0_shelf x0_rowSort x0_rowSize x0_moved x0_shown x0_tape x0_tapeSize x0_refused x0_lines x0_changes x0_coins x0_goods x0_works x0_years x0_gone x0_spent (out.2.1.1) (out.2.1.2.1) (out.2.1.2.2.1) (out.2.1.2.2.2.1) (out.2.1.2.2.2.2) x0_numbers x0_statements x0_left x0_far x0_tons x0_way x0_steps x0_met x0_queue x0_totals, [cI d b1 m1 (out.2.2)]])) := by
  refine Ct.of (by decide) (Nat.le_of_ble_eq_true rfl) ?_
  intro Φ hl hK hR
  subst hl
  have hK : Ok d Φ RX7 "number" cX7_number 5 (some .boolean) { frames := 2, cells := 0, slots := 0, locals := 40 } := hK
  unfold fX7_number at hf
  have hf := un35 hf
  show J d Φ 5 [gMd d h0 a0_kept a0_tried a0_chosen r0_rows r0_line r0_good r0_work x0_shelf x0_rowSort x0_rowSize x0_moved x0_shown x0_tape x0_tapeSize x0_refused x0_lines x0_changes x0_coins x0_goods x0_works x0_years x0_gone x0_spent x0_at x0_token x0_from x0_figures x0_fault x0_numbers x0_statements x0_left x0_far x0_tons x0_way x0_steps x0_met x0_queue x0_totals, [cI d b1 m1 p1]] 0 0 0 [(0, .ref (h0 0)), (1, .ref b1), (2, .int p2), (3, .int p3), (4, .int p4)] []
  refine J_aload_n hK qd3_46.1 rfl 0 rfl rfl ?_
  refine J_get hK fo_RX7_159 qd3_46.2.1 rfl 0 0 rfl rfl rfl ?_
  refine J_iconst (v := 2) hK qd3_46.2.2.1 rfl (by decide) ?_
  refine J_icmp_ne (tg := 23) hK qd3_46.2.2.2.1 rfl rfl (fun hc5 => ?_) (fun hc5 => ?_)
  · have hf := iq hc5 hf
    refine J_aload_n hK qd3_46.2.2.2.2.2.2.2.2.2.2.2.2.1 rfl 0 rfl rfl ?_
    obtain ⟨⟨v1, g2⟩, e3, hf⟩ := bs hf
    have hf := un2 hf
    refine J_callV (m := 2) (m' := 2) (ce' := 0) (sl' := 0) (gr := [[cI d b1 m1 p1]]) (gs' := fun _ => [gMd d h0 a0_kept a0_tried a0_chosen r0_rows r0_line r0_good r0_work x0_shelf x0_rowSort x0_rowSize x0_moved x0_shown x0_tape x0_tapeSize x0_refused x0_lines x0_changes x0_coins x0_goods x0_works x0_years x0_gone x0_spent x0_at x0_token x0_from x0_figures g2 x0_numbers x0_statements x0_left x0_far x0_tons x0_way x0_steps x0_met x0_queue x0_totals, [cI d b1 m1 p1]]) (st' := fun _ => [.int v1]) (st := []) hK qd3_46.2.2.2.2.2.2.2.2.2.2.2.2.2.1 cv_RX7_187 iv_yX7_wrong (As := []) (kX7_wrong _ d h0 r0_rows r0_line r0_good r0_work a0_kept a0_tried a0_chosen x0_shelf x0_rowSort x0_rowSize x0_rows x0_moved x0_shown x0_tape x0_tapeSize x0_refused x0_lines x0_line x0_changes x0_coins x0_goods x0_good x0_works x0_work x0_years x0_gone x0_spent x0_at x0_token x0_from x0_figures x0_fault x0_numbers x0_statements x0_left x0_far x0_tons x0_way x0_steps x0_met x0_queue x0_totals e3) rfl rfl (Nat.le_of_ble_eq_true rfl) (by decide) 0 0 rfl rfl rfl [0] [1] rfl (by decide +kernel) rfl rfl [1, 0] (by decide +kernel) (fun _ => rfl) (fun _ => rfl) rfl rfl rfl (fun _ => rfl) (fun _ => ?_)
    obtain ⟨v4, ev4, hf⟩ := bs hf
    obtain rfl := Option.some.inj hf
    exact J_zret hK hR qd3_46.2.2.2.2.2.2.2.2.2.2.2.2.2.2.1 () (zb_ok ev4).2 (by rw [(zb_ok ev4).1]) (by decide) (by decide)
  · have hf := ip hc5 hf
    refine J_aload_n hK qd3_46.2.2.2.2.1 rfl 0 rfl rfl ?_
    refine J_get hK fo_RX7_155 qd3_46.2.2.2.2.2.1 rfl 0 0 rfl rfl rfl ?_
    refine J_iload_n hK qd3_46.2.2.2.2.2.2.1 rfl 3 rfl rfl ?_
    refine J_i2l hK qd3_46.2.2.2.2.2.2.2.1 rfl ?_
    refine J_iload hK qd3_46.2.2.2.2.2.2.2.2.1 rfl 4 rfl ?_
    refine J_i2l hK qd3_46.2.2.2.2.2.2.2.2.2.1 rfl ?_
    obtain ⟨v5, e6, hf⟩ := bs hf
    refine J_callS (m := 2) (m' := 2) (ce' := 0) (sl' := 0) (gr := [gMd d h0 a0_kept a0_tried a0_chosen r0_rows r0_line r0_good r0_work x0_shelf x0_rowSort x0_rowSize x0_moved x0_shown x0_tape x0_tapeSize x0_refused x0_lines x0_changes x0_coins x0_goods x0_works x0_years x0_gone x0_spent x0_at x0_token x0_from x0_figures x0_fault x0_numbers x0_statements x0_left x0_far x0_tons x0_way x0_steps x0_met x0_queue x0_totals, [cI d b1 m1 p1]]) (gs' := fun _ => [gMd d h0 a0_kept a0_tried a0_chosen r0_rows r0_line r0_good r0_work x0_shelf x0_rowSort x0_rowSize x0_moved x0_shown x0_tape x0_tapeSize x0_refused x0_lines x0_changes x0_coins x0_goods x0_works x0_years x0_gone x0_spent x0_at x0_token x0_from x0_figures x0_fault x0_numbers x0_statements x0_left x0_far x0_tons x0_way x0_steps x0_met x0_queue x0_totals, [cI d b1 m1 p1]]) (st' := fun _ => [.int v5]) (st := []) hK qd3_46.2.2.2.2.2.2.2.2.2.2.1 cv_RX7_78 ws_yX7_in (As := [.long x0_figures, .long ((p3).toInt64), .long ((p4).toInt64)]) (kX7_in _ d x0_figures ((p3).toInt64) ((p4).toInt64) e6) rfl rfl (Nat.le_of_ble_eq_true rfl) (by decide) [] [0, 1] rfl (by decide +kernel) rfl rfl [0, 1] (by decide +kernel) (fun _ => rfl) (fun _ => rfl) rfl rfl rfl (fun _ => rfl) (fun _ => ?_)
    refine J_if_ne (tg := 28) hK qd3_46.2.2.2.2.2.2.2.2.2.2.2.1 rfl rfl (fun hc20 => ?_) (fun hc20 => ?_)
    · have hf := iq hc20 hf
      refine J_aload_n hK qd3_46.2.2.2.2.2.2.2.2.2.2.2.2.2.2.2.1 rfl 1 rfl rfl ?_
      refine J_iload_n hK qd3_47.1 rfl 2 rfl rfl ?_
      refine J_aload_n hK qd3_47.2.1 rfl 0 rfl rfl ?_
      refine J_get hK fo_RX7_155 qd3_47.2.2.1 rfl 0 0 rfl rfl rfl ?_
      refine J_l2i hK qd3_47.2.2.2.1 rfl ?_
      obtain ⟨f7, ef7, hf⟩ := bs hf
      refine J_iast (g' := [cI d b1 m1 f7]) (gs' := [gMd d h0 a0_kept a0_tried a0_chosen r0_rows r0_line r0_good r0_work x0_shelf x0_rowSort x0_rowSize x0_moved x0_shown x0_tape x0_tapeSize x0_refused x0_lines x0_changes x0_coins x0_goods x0_works x0_years x0_gone x0_spent x0_at x0_token x0_from x0_figures x0_fault x0_numbers x0_statements x0_left x0_far x0_tons x0_way x0_steps x0_met x0_queue x0_totals, [cI d b1 m1 f7]]) hK qd3_47.2.2.2.2.1 rfl 1 0 rfl rfl ef7 rfl rfl ?_
      refine J_aload_n hK qd3_47.2.2.2.2.2.1 rfl 0 rfl rfl ?_
      obtain ⟨⟨g8, g9, g10, g11⟩, e12, hf⟩ := bs hf
      have hf := un4 hf
      refine J_callV (m := 2) (m' := 2) (ce' := 0) (sl' := 0) (gr := [[cI d b1 m1 f7]]) (gs' := fun _ => [gMd d h0 a0_kept a0_tried a0_chosen r0_rows r0_line r0_good r0_work x0_shelf x0_rowSort x0_rowSize x0_moved x0_shown x0_tape x0_tapeSize x0_refused x0_lines x0_changes x0_coins x0_goods x0_works x0_years x0_gone x0_spent g8 g9 g10 g11 x0_fault x0_numbers x0_statements x0_left x0_far x0_tons x0_way x0_steps x0_met x0_queue x0_totals, [cI d b1 m1 f7]]) (st' := fun _ => []) (st := []) hK qd3_47.2.2.2.2.2.2.1 cv_RX7_191 iv_yX7_look (As := []) (kX7_look _ d h0 r0_rows r0_line r0_good r0_work a0_kept a0_tried a0_chosen n x0_shelf x0_rowSort x0_rowSize x0_rows x0_moved x0_shown x0_tape x0_tapeSize x0_refused x0_lines x0_line x0_changes x0_coins x0_goods x0_good x0_works x0_work x0_years x0_gone x0_spent x0_at x0_token x0_from x0_figures x0_fault x0_numbers x0_statements x0_left x0_far x0_tons x0_way x0_steps x0_met x0_queue x0_totals e12) rfl rfl (Nat.le_of_ble_eq_true rfl) (by decide) 0 0 rfl rfl rfl [0] [1] rfl (by decide +kernel) rfl rfl [1, 0] (by decide +kernel) (fun _ => rfl) (fun _ => rfl) rfl rfl rfl (fun _ => rfl) (fun _ => ?_)
      refine J_iconst (v := 1) hK qd3_47.2.2.2.2.2.2.2.1 rfl (by decide) ?_
      obtain rfl := Option.some.inj hf
      exact J_zret hK hR qd3_47.2.2.2.2.2.2.2.2.1 () rfl rfl (by decide) (by decide)
    · have hf := ip hc20 hf
      refine J_aload_n hK qd3_46.2.2.2.2.2.2.2.2.2.2.2.2.1 rfl 0 rfl rfl ?_
      obtain ⟨⟨v13, g14⟩, e15, hf⟩ := bs hf
      have hf := un2 hf
      refine J_callV (m := 2) (m' := 2) (ce' := 0) (sl' := 0) (gr := [[cI d b1 m1 p1]]) (gs' := fun _ => [gMd d h0 a0_kept a0_tried a0_chosen r0_rows r0_line r0_good r0_work x0_shelf x0_rowSort x0_rowSize x0_moved x0_shown x0_tape x0_tapeSize x0_refused x0_lines x0_changes x0_coins x0_goods x0_works x0_years x0_gone x0_spent x0_at x0_token x0_from x0_figures g14 x0_numbers x0_statements x0_left x0_far x0_tons x0_way x0_steps x0_met x0_queue x0_totals, [cI d b1 m1 p1]]) (st' := fun _ => [.int v13]) (st := []) hK qd3_46.2.2.2.2.2.2.2.2.2.2.2.2.2.1 cv_RX7_187 iv_yX7_wrong (As := []) (kX7_wrong _ d h0 r0_rows r0_line r0_good r0_work a0_kept a0_tried a0_chosen x0_shelf x0_rowSort x0_rowSize x0_rows x0_moved x0_shown x0_tape x0_tapeSize x0_refused x0_lines x0_line x0_changes x0_coins x0_goods x0_good x0_works x0_work x0_years x0_gone x0_spent x0_at x0_token x0_from x0_figures x0_fault x0_numbers x0_statements x0_left x0_far x0_tons x0_way x0_steps x0_met x0_queue x0_totals e15) rfl rfl (Nat.le_of_ble_eq_true rfl) (by decide) 0 0 rfl rfl rfl [0] [1] rfl (by decide +kernel) rfl rfl [1, 0] (by decide +kernel) (fun _ => rfl) (fun _ => rfl) rfl rfl rfl (fun _ => rfl) (fun _ => ?_)
      obtain ⟨v16, ev16, hf⟩ := bs hf
      obtain rfl := Option.some.inj hf
      exact J_zret hK hR qd3_46.2.2.2.2.2.2.2.2.2.2.2.2.2.2.1 () (zb_ok ev16).2 (by rw [(zb_ok ev16).1]) (by decide) (by decide)

def fX7_told (n : Nat) (X0 : MdT) (p1 : Nat) (m2 : Nat) (p2 : (Nat → Int32)) (p3 : Int32) (p4 : Int32) (p5 : Int32) : Option (Int32 × (Int32 × Int32 × Int32 × Int64 × Int32) × (Nat → Int32)) :=
  u35 (fun (x0_shelf : (Nat → Int32)) (x0_rowSort : (Nat → Int32)) (x0_rowSize : (Nat → Int32)) (x0_rows : (Nat → Nat → Int64)) (x0_moved : (Nat → Int64)) (x0_shown : (Nat → Int32)) (x0_tape : (Nat → Int32)) (x0_tapeSize : Int32) (x0_refused : (Nat → Int32)) (x0_lines : Int32) (x0_line : (Nat → Nat → Int32)) (x0_changes : (Nat → Int32)) (x0_coins : (Nat → Int32)) (x0_goods : Int32) (x0_good : (Nat → Nat → Int32)) (x0_works : Int32) (x0_work : (Nat → Nat → Int32)) (x0_years : Int32) (x0_gone : Int32) (x0_spent : Int32) (x0_at : Int32) (x0_token : Int32) (x0_from : Int32) (x0_figures : Int64) (x0_fault : Int32) (x0_numbers : (Nat → Int32)) (x0_statements : Int32) (x0_left : (Nat → Int32)) (x0_far : (Nat → Int32)) (x0_tons : Int32) (x0_way : (Nat → Int32)) (x0_steps : Int32) (x0_met : Int64) (x0_queue : (Nat → Int32)) (x0_totals : (Nat → Int32)) => (fX7_isWord n (x0_shelf, x0_rowSort, x0_rowSize, x0_rows, x0_moved, x0_shown, x0_tape, x0_tapeSize, x0_refused, x0_lines, x0_line, x0_changes, x0_coins, x0_goods, x0_good, x0_works, x0_work, x0_years, x0_gone, x0_spent, x0_at, x0_token, x0_from, x0_figures, x0_fault, x0_numbers, x0_statements, x0_left, x0_far, x0_tons, x0_way, x0_steps, x0_met, x0_queue, x0_totals) p1).bind (fun v1 => if v1 = 0 then ((fX7_wrong (x0_shelf, x0_rowSort, x0_rowSize, x0_rows, x0_moved, x0_shown, x0_tape, x0_tapeSize, x0_refused, x0_lines, x0_line, x0_changes, x0_coins, x0_goods, x0_good, x0_works, x0_work, x0_years, x0_gone, x0_spent, x0_at, x0_token, x0_from, x0_figures, x0_fault, x0_numbers, x0_statements, x0_left, x0_far, x0_tons, x0_way, x0_steps, x0_met, x0_queue, x0_totals)).bind (u2 fun v18 g19 => (zb v18).bind fun v21 => some (v21, (x0_at, x0_token, x0_from, x0_figures, g19), p2))) else ((fX7_look n (x0_shelf, x0_rowSort, x0_rowSize, x0_rows, x0_moved, x0_shown, x0_tape, x0_tapeSize, x0_refused, x0_lines, x0_line, x0_changes, x0_coins, x0_goods, x0_good, x0_works, x0_work, x0_years, x0_gone, x0_spent, x0_at, x0_token, x0_from, x0_figures, x0_fault, x0_numbers, x0_statements, x0_left, x0_far, x0_tons, x0_way, x0_steps, x0_met, x0_queue, x0_totals)).bind (u4 fun g3 g4 g5 g6 => (fX7_number n (x0_shelf, x0_rowSort, x0_rowSize, x0_rows, x0_moved, x0_shown, x0_tape, x0_tapeSize, x0_refused, x0_lines, x0_line, x0_changes, x0_coins, x0_goods, x0_good, x0_works, x0_work, x0_years, x0_gone, x0_spent, g3, g4, g5, g6, x0_fault, x0_numbers, x0_statements, x0_left, x0_far, x0_tons, x0_way, x0_steps, x0_met, x0_queue, x0_totals) m2 p2 p3 p4 p5).bind (u3 fun v8 G9 g15 => u5 (fun g10 g11 g12 g13 g14 => (zb v8).bind fun v17 => some (v17, (g10, g11, g12, g13, g14), g15)) G9))))) X0
set_option maxHeartbeats 4000000 in
set_option maxRecDepth 100000 in
theorem kX7_told (l : Launch) (d : DT) (h0 : Nat → Nat) (r0_rows : Nat → Nat) (r0_line : Nat → Nat) (r0_good : Nat → Nat) (r0_work : Nat → Nat) (a0_kept : Option Nat) (a0_tried : Option Nat) (a0_chosen : Option Nat) (b2 : Nat) (n : Nat) (x0_shelf : (Nat → Int32)) (x0_rowSort : (Nat → Int32)) (x0_rowSize : (Nat → Int32)) (x0_rows : (Nat → Nat → Int64)) (x0_moved : (Nat → Int64)) (x0_shown : (Nat → Int32)) (x0_tape : (Nat → Int32)) (x0_tapeSize : Int32) (x0_refused : (Nat → Int32)) (x0_lines : Int32) (x0_line : (Nat → Nat → Int32)) (x0_changes : (Nat → Int32)) (x0_coins : (Nat → Int32)) (x0_goods : Int32) (x0_good : (Nat → Nat → Int32)) (x0_works : Int32) (x0_work : (Nat → Nat → Int32)) (x0_years : Int32) (x0_gone : Int32) (x0_spent : Int32) (x0_at : Int32) (x0_token : Int32) (x0_from : Int32) (x0_figures : Int64) (x0_fault : Int32) (x0_numbers : (Nat → Int32)) (x0_statements : Int32) (x0_left : (Nat → Int32)) (x0_far : (Nat → Int32)) (x0_tons : Int32) (x0_way : (Nat → Int32)) (x0_steps : Int32) (x0_met : Int64) (x0_queue : (Nat → Int32)) (x0_totals : (Nat → Int32)) (p1 : Nat) (m2 : Nat) (p2 : (Nat → Int32)) (p3 : Int32) (p4 : Int32) (p5 : Int32)  {out : Int32 × (Int32 × Int32 × Int32 × Int64 × Int32) × (Nat → Int32)} (hf : fX7_told n (x0_shelf, x0_rowSort, x0_rowSize, x0_rows, x0_moved, x0_shown, x0_tape, x0_tapeSize, x0_refused, x0_lines, x0_line, x0_changes, x0_coins, x0_goods, x0_good, x0_works, x0_work, x0_years, x0_gone, x0_spent, x0_at, x0_token, x0_from, x0_figures, x0_fault, x0_numbers, x0_statements, x0_left, x0_far, x0_tons, x0_way, x0_steps, x0_met, x0_queue, x0_totals) p1 m2 p2 p3 p4 p5 = some out) : Ct l d yX7_told cX7_told 6 (some .boolean) { frames := 5, cells := 0, slots := 0, locals := 107 } [.ref (h0 0), .ref (d.2.2.2.1 p1), .ref b2, .int p3, .int p4, .int p5] [gMd d h0 a0_kept a0_tried a0_chosen r0_rows r0_line r0_good r0_work x0_shelf x0_rowSort x0_rowSize x0_moved x0_shown x0_tape x0_tapeSize x0_refused x0_lines x0_changes x0_coins x0_goods x0_works x0_years x0_gone x0_spent x0_at x0_token x0_from x0_figures x0_fault x0_numbers x0_statements x0_left x0_far x0_tons x0_way x0_steps x0_met x0_queue x0_totals, [cI d b2 m2 p2]] (fun _ : Unit => (some (.int out.1), [gMd d h0 a0_kept a0_tried a0_chosen r0_rows r0_line r0_good r0_work x0_shelf x0_rowSort x0_rowSize x0_moved x0_shown x0_tape x0_tapeSize x0_refused x0_lines x0_changes x0_coins x0_goods x0_works x0_years x0_gone x0_spent (out.2.1.1) (out.2.1.2.1) (out.2.1.2.2.1) (out.2.1.2.2.2.1) (out.2.1.2.2.2.2) x0_numbers x0_statements x0_left x0_far x0_tons x0_way x0_steps x0_met x0_queue x0_totals, [cI d b2 m2 (out.2.2)]])) := by
  refine Ct.of (by decide) (Nat.le_of_ble_eq_true rfl) ?_
  intro Φ hl hK hR
  subst hl
  have hK : Ok d Φ RX7 "told" cX7_told 6 (some .boolean) { frames := 5, cells := 0, slots := 0, locals := 107 } := hK
  unfold fX7_told at hf
  have hf := un35 hf
  show J d Φ 6 [gMd d h0 a0_kept a0_tried a0_chosen r0_rows r0_line r0_good r0_work x0_shelf x0_rowSort x0_rowSize x0_moved x0_shown x0_tape x0_tapeSize x0_refused x0_lines x0_changes x0_coins x0_goods x0_works x0_years x0_gone x0_spent x0_at x0_token x0_from x0_figures x0_fault x0_numbers x0_statements x0_left x0_far x0_tons x0_way x0_steps x0_met x0_queue x0_totals, [cI d b2 m2 p2]] 0 0 0 [(0, .ref (h0 0)), (1, .ref (d.2.2.2.1 p1)), (2, .ref b2), (3, .int p3), (4, .int p4), (5, .int p5)] []
  refine J_aload_n hK qd3_48.1 rfl 0 rfl rfl ?_
  refine J_aload_n hK qd3_48.2.1 rfl 1 rfl rfl ?_
  obtain ⟨v1, e2, hf⟩ := bs hf
  refine J_callV (m := 2) (m' := 2) (ce' := 0) (sl' := 0) (gr := [[cI d b2 m2 p2]]) (gs' := fun _ => [gMd d h0 a0_kept a0_tried a0_chosen r0_rows r0_line r0_good r0_work x0_shelf x0_rowSort x0_rowSize x0_moved x0_shown x0_tape x0_tapeSize x0_refused x0_lines x0_changes x0_coins x0_goods x0_works x0_years x0_gone x0_spent x0_at x0_token x0_from x0_figures x0_fault x0_numbers x0_statements x0_left x0_far x0_tons x0_way x0_steps x0_met x0_queue x0_totals, [cI d b2 m2 p2]]) (st' := fun _ => [.int v1]) (st := []) hK qd3_48.2.2.1 cv_RX7_194 iv_yX7_isWord (As := [.ref (d.2.2.2.1 p1)]) (kX7_isWord _ d h0 r0_rows r0_line r0_good r0_work a0_kept a0_tried a0_chosen n x0_shelf x0_rowSort x0_rowSize x0_rows x0_moved x0_shown x0_tape x0_tapeSize x0_refused x0_lines x0_line x0_changes x0_coins x0_goods x0_good x0_works x0_work x0_years x0_gone x0_spent x0_at x0_token x0_from x0_figures x0_fault x0_numbers x0_statements x0_left x0_far x0_tons x0_way x0_steps x0_met x0_queue x0_totals p1 e2) rfl rfl (Nat.le_of_ble_eq_true rfl) (by decide) 0 0 rfl rfl rfl [0] [1] rfl (by decide +kernel) rfl rfl [1, 0] (by decide +kernel) (fun _ => rfl) (fun _ => rfl) rfl rfl rfl (fun _ => rfl) (fun _ => ?_)
  refine J_if_ne (tg := 13) hK qd3_48.2.2.2.1 rfl rfl (fun hc5 => ?_) (fun hc5 => ?_)
  · have hf := iq hc5 hf
    refine J_aload_n hK qd3_48.2.2.2.2.2.2.2.1 rfl 0 rfl rfl ?_
    obtain ⟨⟨g3, g4, g5, g6⟩, e7, hf⟩ := bs hf
    have hf := un4 hf
    refine J_callV (m := 2) (m' := 2) (ce' := 0) (sl' := 0) (gr := [[cI d b2 m2 p2]]) (gs' := fun _ => [gMd d h0 a0_kept a0_tried a0_chosen r0_rows r0_line r0_good r0_work x0_shelf x0_rowSort x0_rowSize x0_moved x0_shown x0_tape x0_tapeSize x0_refused x0_lines x0_changes x0_coins x0_goods x0_works x0_years x0_gone x0_spent g3 g4 g5 g6 x0_fault x0_numbers x0_statements x0_left x0_far x0_tons x0_way x0_steps x0_met x0_queue x0_totals, [cI d b2 m2 p2]]) (st' := fun _ => []) (st := []) hK qd3_48.2.2.2.2.2.2.2.2.1 cv_RX7_191 iv_yX7_look (As := []) (kX7_look _ d h0 r0_rows r0_line r0_good r0_work a0_kept a0_tried a0_chosen n x0_shelf x0_rowSort x0_rowSize x0_rows x0_moved x0_shown x0_tape x0_tapeSize x0_refused x0_lines x0_line x0_changes x0_coins x0_goods x0_good x0_works x0_work x0_years x0_gone x0_spent x0_at x0_token x0_from x0_figures x0_fault x0_numbers x0_statements x0_left x0_far x0_tons x0_way x0_steps x0_met x0_queue x0_totals e7) rfl rfl (Nat.le_of_ble_eq_true rfl) (by decide) 0 0 rfl rfl rfl [0] [1] rfl (by decide +kernel) rfl rfl [1, 0] (by decide +kernel) (fun _ => rfl) (fun _ => rfl) rfl rfl rfl (fun _ => rfl) (fun _ => ?_)
    refine J_aload_n hK qd3_48.2.2.2.2.2.2.2.2.2.1 rfl 0 rfl rfl ?_
    refine J_aload_n hK qd3_48.2.2.2.2.2.2.2.2.2.2.1 rfl 2 rfl rfl ?_
    refine J_iload_n hK qd3_48.2.2.2.2.2.2.2.2.2.2.2.1 rfl 3 rfl rfl ?_
    refine J_iload hK qd3_48.2.2.2.2.2.2.2.2.2.2.2.2.1 rfl 4 rfl ?_
    refine J_iload hK qd3_48.2.2.2.2.2.2.2.2.2.2.2.2.2.1 rfl 5 rfl ?_
    obtain ⟨⟨v8, ⟨g10, g11, g12, g13, g14⟩, g15⟩, e16, hf⟩ := bs hf
    have hf := un3 hf
    have hf := un5 hf
    refine J_callV (m := 2) (m' := 2) (ce' := 0) (sl' := 0) (gr := []) (gs' := fun _ => [gMd d h0 a0_kept a0_tried a0_chosen r0_rows r0_line r0_good r0_work x0_shelf x0_rowSort x0_rowSize x0_moved x0_shown x0_tape x0_tapeSize x0_refused x0_lines x0_changes x0_coins x0_goods x0_works x0_years x0_gone x0_spent g10 g11 g12 g13 g14 x0_numbers x0_statements x0_left x0_far x0_tons x0_way x0_steps x0_met x0_queue x0_totals, [cI d b2 m2 g15]]) (st' := fun _ => [.int v8]) (st := []) hK qd3_48.2.2.2.2.2.2.2.2.2.2.2.2.2.2.1 cv_RX7_198 iv_yX7_number (As := [.ref b2, .int p3, .int p4, .int p5]) (kX7_number _ d h0 r0_rows r0_line r0_good r0_work a0_kept a0_tried a0_chosen b2 n x0_shelf x0_rowSort x0_rowSize x0_rows x0_moved x0_shown x0_tape x0_tapeSize x0_refused x0_lines x0_line x0_changes x0_coins x0_goods x0_good x0_works x0_work x0_years x0_gone x0_spent g3 g4 g5 g6 x0_fault x0_numbers x0_statements x0_left x0_far x0_tons x0_way x0_steps x0_met x0_queue x0_totals m2 p2 p3 p4 p5 e16) rfl rfl (Nat.le_of_ble_eq_true rfl) (by decide) 0 0 rfl rfl rfl [0, 1] [] rfl (by decide +kernel) rfl rfl [0, 1] (by decide +kernel) (fun _ => rfl) (fun _ => rfl) rfl rfl rfl (fun _ => rfl) (fun _ => ?_)
    obtain ⟨v17, ev17, hf⟩ := bs hf
    obtain rfl := Option.some.inj hf
    exact J_zret hK hR qd3_48.2.2.2.2.2.2.2.2.2.2.2.2.2.2.2.1 () (zb_ok ev17).2 (by rw [(zb_ok ev17).1]) (by decide) (by decide)
  · have hf := ip hc5 hf
    refine J_aload_n hK qd3_48.2.2.2.2.1 rfl 0 rfl rfl ?_
    obtain ⟨⟨v18, g19⟩, e20, hf⟩ := bs hf
    have hf := un2 hf
    refine J_callV (m := 2) (m' := 2) (ce' := 0) (sl' := 0) (gr := [[cI d b2 m2 p2]]) (gs' := fun _ => [gMd d h0 a0_kept a0_tried a0_chosen r0_rows r0_line r0_good r0_work x0_shelf x0_rowSort x0_rowSize x0_moved x0_shown x0_tape x0_tapeSize x0_refused x0_lines x0_changes x0_coins x0_goods x0_works x0_years x0_gone x0_spent x0_at x0_token x0_from x0_figures g19 x0_numbers x0_statements x0_left x0_far x0_tons x0_way x0_steps x0_met x0_queue x0_totals, [cI d b2 m2 p2]]) (st' := fun _ => [.int v18]) (st := []) hK qd3_48.2.2.2.2.2.1 cv_RX7_187 iv_yX7_wrong (As := []) (kX7_wrong _ d h0 r0_rows r0_line r0_good r0_work a0_kept a0_tried a0_chosen x0_shelf x0_rowSort x0_rowSize x0_rows x0_moved x0_shown x0_tape x0_tapeSize x0_refused x0_lines x0_line x0_changes x0_coins x0_goods x0_good x0_works x0_work x0_years x0_gone x0_spent x0_at x0_token x0_from x0_figures x0_fault x0_numbers x0_statements x0_left x0_far x0_tons x0_way x0_steps x0_met x0_queue x0_totals e20) rfl rfl (Nat.le_of_ble_eq_true rfl) (by decide) 0 0 rfl rfl rfl [0] [1] rfl (by decide +kernel) rfl rfl [1, 0] (by decide +kernel) (fun _ => rfl) (fun _ => rfl) rfl rfl rfl (fun _ => rfl) (fun _ => ?_)
    obtain ⟨v21, ev21, hf⟩ := bs hf
    obtain rfl := Option.some.inj hf
    exact J_zret hK hR qd3_48.2.2.2.2.2.2.1 () (zb_ok ev21).2 (by rw [(zb_ok ev21).1]) (by decide) (by decide)

def fX7_perhaps (n : Nat) (X0 : MdT) (p1 : Nat) (m2 : Nat) (p2 : (Nat → Int32)) (p3 : Int32) (p4 : Int32) (p5 : Int32) : Option (Int32 × (Int32 × Int32 × Int32 × Int64 × Int32) × (Nat → Int32)) :=
  u35 (fun (x0_shelf : (Nat → Int32)) (x0_rowSort : (Nat → Int32)) (x0_rowSize : (Nat → Int32)) (x0_rows : (Nat → Nat → Int64)) (x0_moved : (Nat → Int64)) (x0_shown : (Nat → Int32)) (x0_tape : (Nat → Int32)) (x0_tapeSize : Int32) (x0_refused : (Nat → Int32)) (x0_lines : Int32) (x0_line : (Nat → Nat → Int32)) (x0_changes : (Nat → Int32)) (x0_coins : (Nat → Int32)) (x0_goods : Int32) (x0_good : (Nat → Nat → Int32)) (x0_works : Int32) (x0_work : (Nat → Nat → Int32)) (x0_years : Int32) (x0_gone : Int32) (x0_spent : Int32) (x0_at : Int32) (x0_token : Int32) (x0_from : Int32) (x0_figures : Int64) (x0_fault : Int32) (x0_numbers : (Nat → Int32)) (x0_statements : Int32) (x0_left : (Nat → Int32)) (x0_far : (Nat → Int32)) (x0_tons : Int32) (x0_way : (Nat → Int32)) (x0_steps : Int32) (x0_met : Int64) (x0_queue : (Nat → Int32)) (x0_totals : (Nat → Int32)) => (fX7_isWord n (x0_shelf, x0_rowSort, x0_rowSize, x0_rows, x0_moved, x0_shown, x0_tape, x0_tapeSize, x0_refused, x0_lines, x0_line, x0_changes, x0_coins, x0_goods, x0_good, x0_works, x0_work, x0_years, x0_gone, x0_spent, x0_at, x0_token, x0_from, x0_figures, x0_fault, x0_numbers, x0_statements, x0_left, x0_far, x0_tons, x0_way, x0_steps, x0_met, x0_queue, x0_totals) p1).bind (fun v1 => if v1 = 0 then (some (1, (x0_at, x0_token, x0_from, x0_figures, x0_fault), p2)) else ((fX7_told n (x0_shelf, x0_rowSort, x0_rowSize, x0_rows, x0_moved, x0_shown, x0_tape, x0_tapeSize, x0_refused, x0_lines, x0_line, x0_changes, x0_coins, x0_goods, x0_good, x0_works, x0_work, x0_years, x0_gone, x0_spent, x0_at, x0_token, x0_from, x0_figures, x0_fault, x0_numbers, x0_statements, x0_left, x0_far, x0_tons, x0_way, x0_steps, x0_met, x0_queue, x0_totals) p1 m2 p2 p3 p4 p5).bind (u3 fun v3 G4 g10 => u5 (fun g5 g6 g7 g8 g9 => if v3 = 0 then (some (0, (g5, g6, g7, g8, g9), g10)) else (some (1, (g5, g6, g7, g8, g9), g10))) G4)))) X0
set_option maxHeartbeats 4000000 in
set_option maxRecDepth 100000 in
theorem kX7_perhaps (l : Launch) (d : DT) (h0 : Nat → Nat) (r0_rows : Nat → Nat) (r0_line : Nat → Nat) (r0_good : Nat → Nat) (r0_work : Nat → Nat) (a0_kept : Option Nat) (a0_tried : Option Nat) (a0_chosen : Option Nat) (b2 : Nat) (n : Nat) (x0_shelf : (Nat → Int32)) (x0_rowSort : (Nat → Int32)) (x0_rowSize : (Nat → Int32)) (x0_rows : (Nat → Nat → Int64)) (x0_moved : (Nat → Int64)) (x0_shown : (Nat → Int32)) (x0_tape : (Nat → Int32)) (x0_tapeSize : Int32) (x0_refused : (Nat → Int32)) (x0_lines : Int32) (x0_line : (Nat → Nat → Int32)) (x0_changes : (Nat → Int32)) (x0_coins : (Nat → Int32)) (x0_goods : Int32) (x0_good : (Nat → Nat → Int32)) (x0_works : Int32) (x0_work : (Nat → Nat → Int32)) (x0_years : Int32) (x0_gone : Int32) (x0_spent : Int32) (x0_at : Int32) (x0_token : Int32) (x0_from : Int32) (x0_figures : Int64) (x0_fault : Int32) (x0_numbers : (Nat → Int32)) (x0_statements : Int32) (x0_left : (Nat → Int32)) (x0_far : (Nat → Int32)) (x0_tons : Int32) (x0_way : (Nat → Int32)) (x0_steps : Int32) (x0_met : Int64) (x0_queue : (Nat → Int32)) (x0_totals : (Nat → Int32)) (p1 : Nat) (m2 : Nat) (p2 : (Nat → Int32)) (p3 : Int32) (p4 : Int32) (p5 : Int32)  {out : Int32 × (Int32 × Int32 × Int32 × Int64 × Int32) × (Nat → Int32)} (hf : fX7_perhaps n (x0_shelf, x0_rowSort, x0_rowSize, x0_rows, x0_moved, x0_shown, x0_tape, x0_tapeSize, x0_refused, x0_lines, x0_line, x0_changes, x0_coins, x0_goods, x0_good, x0_works, x0_work, x0_years, x0_gone, x0_spent, x0_at, x0_token, x0_from, x0_figures, x0_fault, x0_numbers, x0_statements, x0_left, x0_far, x0_tons, x0_way, x0_steps, x0_met, x0_queue, x0_totals) p1 m2 p2 p3 p4 p5 = some out) : Ct l d yX7_perhaps cX7_perhaps 6 (some .boolean) { frames := 6, cells := 0, slots := 0, locals := 132 } [.ref (h0 0), .ref (d.2.2.2.1 p1), .ref b2, .int p3, .int p4, .int p5] [gMd d h0 a0_kept a0_tried a0_chosen r0_rows r0_line r0_good r0_work x0_shelf x0_rowSort x0_rowSize x0_moved x0_shown x0_tape x0_tapeSize x0_refused x0_lines x0_changes x0_coins x0_goods x0_works x0_years x0_gone x0_spent x0_at x0_token x0_from x0_figures x0_fault x0_numbers x0_statements x0_left x0_far x0_tons x0_way x0_steps x0_met x0_queue x0_totals, [cI d b2 m2 p2]] (fun _ : Unit => (some (.int out.1), [gMd d h0 a0_kept a0_tried a0_chosen r0_rows r0_line r0_good r0_work x0_shelf x0_rowSort x0_rowSize x0_moved x0_shown x0_tape x0_tapeSize x0_refused x0_lines x0_changes x0_coins x0_goods x0_works x0_years x0_gone x0_spent (out.2.1.1) (out.2.1.2.1) (out.2.1.2.2.1) (out.2.1.2.2.2.1) (out.2.1.2.2.2.2) x0_numbers x0_statements x0_left x0_far x0_tons x0_way x0_steps x0_met x0_queue x0_totals, [cI d b2 m2 (out.2.2)]])) := by
  refine Ct.of (by decide) (Nat.le_of_ble_eq_true rfl) ?_
  intro Φ hl hK hR
  subst hl
  have hK : Ok d Φ RX7 "perhaps" cX7_perhaps 6 (some .boolean) { frames := 6, cells := 0, slots := 0, locals := 132 } := hK
  unfold fX7_perhaps at hf
  have hf := un35 hf
  show J d Φ 6 [gMd d h0 a0_kept a0_tried a0_chosen r0_rows r0_line r0_good r0_work x0_shelf x0_rowSort x0_rowSize x0_moved x0_shown x0_tape x0_tapeSize x0_refused x0_lines x0_changes x0_coins x0_goods x0_works x0_years x0_gone x0_spent x0_at x0_token x0_from x0_figures x0_fault x0_numbers x0_statements x0_left x0_far x0_tons x0_way x0_steps x0_met x0_queue x0_totals, [cI d b2 m2 p2]] 0 0 0 [(0, .ref (h0 0)), (1, .ref (d.2.2.2.1 p1)), (2, .ref b2), (3, .int p3), (4, .int p4), (5, .int p5)] []
  refine J_aload_n hK qd3_49.1 rfl 0 rfl rfl ?_
  refine J_aload_n hK qd3_49.2.1 rfl 1 rfl rfl ?_
  obtain ⟨v1, e2, hf⟩ := bs hf
  refine J_callV (m := 2) (m' := 2) (ce' := 0) (sl' := 0) (gr := [[cI d b2 m2 p2]]) (gs' := fun _ => [gMd d h0 a0_kept a0_tried a0_chosen r0_rows r0_line r0_good r0_work x0_shelf x0_rowSort x0_rowSize x0_moved x0_shown x0_tape x0_tapeSize x0_refused x0_lines x0_changes x0_coins x0_goods x0_works x0_years x0_gone x0_spent x0_at x0_token x0_from x0_figures x0_fault x0_numbers x0_statements x0_left x0_far x0_tons x0_way x0_steps x0_met x0_queue x0_totals, [cI d b2 m2 p2]]) (st' := fun _ => [.int v1]) (st := []) hK qd3_49.2.2.1 cv_RX7_194 iv_yX7_isWord (As := [.ref (d.2.2.2.1 p1)]) (kX7_isWord _ d h0 r0_rows r0_line r0_good r0_work a0_kept a0_tried a0_chosen n x0_shelf x0_rowSort x0_rowSize x0_rows x0_moved x0_shown x0_tape x0_tapeSize x0_refused x0_lines x0_line x0_changes x0_coins x0_goods x0_good x0_works x0_work x0_years x0_gone x0_spent x0_at x0_token x0_from x0_figures x0_fault x0_numbers x0_statements x0_left x0_far x0_tons x0_way x0_steps x0_met x0_queue x0_totals p1 e2) rfl rfl (Nat.le_of_ble_eq_true rfl) (by decide) 0 0 rfl rfl rfl [0] [1] rfl (by decide +kernel) rfl rfl [1, 0] (by decide +kernel) (fun _ => rfl) (fun _ => rfl) rfl rfl rfl (fun _ => rfl) (fun _ => ?_)
  refine J_if_eq (tg := 22) hK qd3_49.2.2.2.1 rfl rfl (fun hc5 => ?_) (fun hc5 => ?_)
  · have hf := ip hc5 hf
    refine J_iconst (v := 1) hK qd3_49.2.2.2.2.2.2.2.2.2.2.2.2.1 rfl (by decide) ?_
    refine J_goto hK qd3_49.2.2.2.2.2.2.2.2.2.2.2.2.2.1 (n := 27) rfl ?_
    obtain rfl := Option.some.inj hf
    exact J_zret hK hR qd3_49.2.2.2.2.2.2.2.2.2.2.2.2.2.2.2.1 () rfl rfl (by decide) (by decide)
  · have hf := iq hc5 hf
    refine J_aload_n hK qd3_49.2.2.2.2.1 rfl 0 rfl rfl ?_
    refine J_aload_n hK qd3_49.2.2.2.2.2.1 rfl 1 rfl rfl ?_
    refine J_aload_n hK qd3_49.2.2.2.2.2.2.1 rfl 2 rfl rfl ?_
    refine J_iload_n hK qd3_49.2.2.2.2.2.2.2.1 rfl 3 rfl rfl ?_
    refine J_iload hK qd3_49.2.2.2.2.2.2.2.2.1 rfl 4 rfl ?_
    refine J_iload hK qd3_49.2.2.2.2.2.2.2.2.2.1 rfl 5 rfl ?_
    obtain ⟨⟨v3, ⟨g5, g6, g7, g8, g9⟩, g10⟩, e11, hf⟩ := bs hf
    have hf := un3 hf
    have hf := un5 hf
    refine J_callV (m := 2) (m' := 2) (ce' := 0) (sl' := 0) (gr := []) (gs' := fun _ => [gMd d h0 a0_kept a0_tried a0_chosen r0_rows r0_line r0_good r0_work x0_shelf x0_rowSort x0_rowSize x0_moved x0_shown x0_tape x0_tapeSize x0_refused x0_lines x0_changes x0_coins x0_goods x0_works x0_years x0_gone x0_spent g5 g6 g7 g8 g9 x0_numbers x0_statements x0_left x0_far x0_tons x0_way x0_steps x0_met x0_queue x0_totals, [cI d b2 m2 g10]]) (st' := fun _ => [.int v3]) (st := []) hK qd3_49.2.2.2.2.2.2.2.2.2.2.1 cv_RX7_202 iv_yX7_told (As := [.ref (d.2.2.2.1 p1), .ref b2, .int p3, .int p4, .int p5]) (kX7_told _ d h0 r0_rows r0_line r0_good r0_work a0_kept a0_tried a0_chosen b2 n x0_shelf x0_rowSort x0_rowSize x0_rows x0_moved x0_shown x0_tape x0_tapeSize x0_refused x0_lines x0_line x0_changes x0_coins x0_goods x0_good x0_works x0_work x0_years x0_gone x0_spent x0_at x0_token x0_from x0_figures x0_fault x0_numbers x0_statements x0_left x0_far x0_tons x0_way x0_steps x0_met x0_queue x0_totals p1 m2 p2 p3 p4 p5 e11) rfl rfl (Nat.le_of_ble_eq_true rfl) (by decide) 0 0 rfl rfl rfl [0, 1] [] rfl (by decide +kernel) rfl rfl [0, 1] (by decide +kernel) (fun _ => rfl) (fun _ => rfl) rfl rfl rfl (fun _ => rfl) (fun _ => ?_)
    refine J_if_eq (tg := 26) hK qd3_49.2.2.2.2.2.2.2.2.2.2.2.1 rfl rfl (fun hc19 => ?_) (fun hc19 => ?_)
    · have hf := ip hc19 hf
      refine J_iconst (v := 0) hK qd3_49.2.2.2.2.2.2.2.2.2.2.2.2.2.2.1 rfl (by decide) ?_
      obtain rfl := Option.some.inj hf
      exact J_zret hK hR qd3_49.2.2.2.2.2.2.2.2.2.2.2.2.2.2.2.1 () rfl rfl (by decide) (by decide)
    · have hf := iq hc19 hf
      refine J_iconst (v := 1) hK qd3_49.2.2.2.2.2.2.2.2.2.2.2.2.1 rfl (by decide) ?_
      refine J_goto hK qd3_49.2.2.2.2.2.2.2.2.2.2.2.2.2.1 (n := 27) rfl ?_
      obtain rfl := Option.some.inj hf
      exact J_zret hK hR qd3_49.2.2.2.2.2.2.2.2.2.2.2.2.2.2.2.1 () rfl rfl (by decide) (by decide)

def fX7_two_j43 (n : Nat) (m1 : Nat) (x0_shelf : (Nat → Int32)) (x0_rowSort : (Nat → Int32)) (x0_rowSize : (Nat → Int32)) (x0_rows : (Nat → Nat → Int64)) (x0_moved : (Nat → Int64)) (x0_shown : (Nat → Int32)) (x0_tape : (Nat → Int32)) (x0_tapeSize : Int32) (x0_refused : (Nat → Int32)) (x0_lines : Int32) (x0_line : (Nat → Nat → Int32)) (x0_changes : (Nat → Int32)) (x0_coins : (Nat → Int32)) (x0_goods : Int32) (x0_good : (Nat → Nat → Int32)) (x0_works : Int32) (x0_work : (Nat → Nat → Int32)) (x0_years : Int32) (x0_gone : Int32) (x0_spent : Int32) (x0_numbers : (Nat → Int32)) (x0_statements : Int32) (x0_left : (Nat → Int32)) (x0_far : (Nat → Int32)) (x0_tons : Int32) (x0_way : (Nat → Int32)) (x0_steps : Int32) (x0_met : Int64) (x0_queue : (Nat → Int32)) (x0_totals : (Nat → Int32)) (g8 : Int32) (g9 : Int32) (g10 : Int32) (g11 : Int64) (g12 : Int32) (g13 : (Nat → Int32)) : Option (Int32 × (Int32 × Int32 × Int32 × Int64 × Int32) × (Nat → Int32)) :=
  (fX7_number n (x0_shelf, x0_rowSort, x0_rowSize, x0_rows, x0_moved, x0_shown, x0_tape, x0_tapeSize, x0_refused, x0_lines, x0_line, x0_changes, x0_coins, x0_goods, x0_good, x0_works, x0_work, x0_years, x0_gone, x0_spent, g8, g9, g10, g11, g12, x0_numbers, x0_statements, x0_left, x0_far, x0_tons, x0_way, x0_steps, x0_met, x0_queue, x0_totals) m1 g13 (1) (0) (11)).bind (u3 fun v15 G16 g22 => u5 (fun g17 g18 g19 g20 g21 => (zb v15).bind fun v24 => some (v24, (g17, g18, g19, g20, g21), g22)) G16)
def fX7_two (n : Nat) (X0 : MdT) (m1 : Nat) (p1 : (Nat → Int32)) : Option (Int32 × (Int32 × Int32 × Int32 × Int64 × Int32) × (Nat → Int32)) :=
  u35 (fun (x0_shelf : (Nat → Int32)) (x0_rowSort : (Nat → Int32)) (x0_rowSize : (Nat → Int32)) (x0_rows : (Nat → Nat → Int64)) (x0_moved : (Nat → Int64)) (x0_shown : (Nat → Int32)) (x0_tape : (Nat → Int32)) (x0_tapeSize : Int32) (x0_refused : (Nat → Int32)) (x0_lines : Int32) (x0_line : (Nat → Nat → Int32)) (x0_changes : (Nat → Int32)) (x0_coins : (Nat → Int32)) (x0_goods : Int32) (x0_good : (Nat → Nat → Int32)) (x0_works : Int32) (x0_work : (Nat → Nat → Int32)) (x0_years : Int32) (x0_gone : Int32) (x0_spent : Int32) (x0_at : Int32) (x0_token : Int32) (x0_from : Int32) (x0_figures : Int64) (x0_fault : Int32) (x0_numbers : (Nat → Int32)) (x0_statements : Int32) (x0_left : (Nat → Int32)) (x0_far : (Nat → Int32)) (x0_tons : Int32) (x0_way : (Nat → Int32)) (x0_steps : Int32) (x0_met : Int64) (x0_queue : (Nat → Int32)) (x0_totals : (Nat → Int32)) => (fX7_look n (x0_shelf, x0_rowSort, x0_rowSize, x0_rows, x0_moved, x0_shown, x0_tape, x0_tapeSize, x0_refused, x0_lines, x0_line, x0_changes, x0_coins, x0_goods, x0_good, x0_works, x0_work, x0_years, x0_gone, x0_spent, x0_at, x0_token, x0_from, x0_figures, x0_fault, x0_numbers, x0_statements, x0_left, x0_far, x0_tons, x0_way, x0_steps, x0_met, x0_queue, x0_totals)).bind (u4 fun g1 g2 g3 g4 => (fX7_number n (x0_shelf, x0_rowSort, x0_rowSize, x0_rows, x0_moved, x0_shown, x0_tape, x0_tapeSize, x0_refused, x0_lines, x0_line, x0_changes, x0_coins, x0_goods, x0_good, x0_works, x0_work, x0_years, x0_gone, x0_spent, g1, g2, g3, g4, x0_fault, x0_numbers, x0_statements, x0_left, x0_far, x0_tons, x0_way, x0_steps, x0_met, x0_queue, x0_totals) m1 p1 (0) (0) (11)).bind (u3 fun v6 G7 g13 => u5 (fun g8 g9 g10 g11 g12 => if v6 = 0 then (some (0, (g8, g9, g10, g11, g12), g13)) else (if g9 = 2 then ((rd m1 g13 (0)).bind fun v25 => if (lg_cmp g11 ((v25).toInt64)) = 0 then ((fX7_wrong (x0_shelf, x0_rowSort, x0_rowSize, x0_rows, x0_moved, x0_shown, x0_tape, x0_tapeSize, x0_refused, x0_lines, x0_line, x0_changes, x0_coins, x0_goods, x0_good, x0_works, x0_work, x0_years, x0_gone, x0_spent, g8, g9, g10, g11, g12, x0_numbers, x0_statements, x0_left, x0_far, x0_tons, x0_way, x0_steps, x0_met, x0_queue, x0_totals)).bind (u2 fun v26 g27 => (zb v26).bind fun v29 => some (v29, (g8, g9, g10, g11, g27), g13))) else (fX7_two_j43 n m1 x0_shelf x0_rowSort x0_rowSize x0_rows x0_moved x0_shown x0_tape x0_tapeSize x0_refused x0_lines x0_line x0_changes x0_coins x0_goods x0_good x0_works x0_work x0_years x0_gone x0_spent x0_numbers x0_statements x0_left x0_far x0_tons x0_way x0_steps x0_met x0_queue x0_totals g8 g9 g10 g11 g12 g13)) else (fX7_two_j43 n m1 x0_shelf x0_rowSort x0_rowSize x0_rows x0_moved x0_shown x0_tape x0_tapeSize x0_refused x0_lines x0_line x0_changes x0_coins x0_goods x0_good x0_works x0_work x0_years x0_gone x0_spent x0_numbers x0_statements x0_left x0_far x0_tons x0_way x0_steps x0_met x0_queue x0_totals g8 g9 g10 g11 g12 g13))) G7))) X0
set_option maxHeartbeats 4000000 in
set_option maxRecDepth 100000 in
theorem kX7_two (l : Launch) (d : DT) (h0 : Nat → Nat) (r0_rows : Nat → Nat) (r0_line : Nat → Nat) (r0_good : Nat → Nat) (r0_work : Nat → Nat) (a0_kept : Option Nat) (a0_tried : Option Nat) (a0_chosen : Option Nat) (b1 : Nat) (n : Nat) (x0_shelf : (Nat → Int32)) (x0_rowSort : (Nat → Int32)) (x0_rowSize : (Nat → Int32)) (x0_rows : (Nat → Nat → Int64)) (x0_moved : (Nat → Int64)) (x0_shown : (Nat → Int32)) (x0_tape : (Nat → Int32)) (x0_tapeSize : Int32) (x0_refused : (Nat → Int32)) (x0_lines : Int32) (x0_line : (Nat → Nat → Int32)) (x0_changes : (Nat → Int32)) (x0_coins : (Nat → Int32)) (x0_goods : Int32) (x0_good : (Nat → Nat → Int32)) (x0_works : Int32) (x0_work : (Nat → Nat → Int32)) (x0_years : Int32) (x0_gone : Int32) (x0_spent : Int32) (x0_at : Int32) (x0_token : Int32) (x0_from : Int32) (x0_figures : Int64) (x0_fault : Int32) (x0_numbers : (Nat → Int32)) (x0_statements : Int32) (x0_left : (Nat → Int32)) (x0_far : (Nat → Int32)) (x0_tons : Int32) (x0_way : (Nat → Int32)) (x0_steps : Int32) (x0_met : Int64) (x0_queue : (Nat → Int32)) (x0_totals : (Nat → Int32)) (m1 : Nat) (p1 : (Nat → Int32))  {out : Int32 × (Int32 × Int32 × Int32 × Int64 × Int32) × (Nat → Int32)} (hf : fX7_two n (x0_shelf, x0_rowSort, x0_rowSize, x0_rows, x0_moved, x0_shown, x0_tape, x0_tapeSize, x0_refused, x0_lines, x0_line, x0_changes, x0_coins, x0_goods, x0_good, x0_works, x0_work, x0_years, x0_gone, x0_spent, x0_at, x0_token, x0_from, x0_figures, x0_fault, x0_numbers, x0_statements, x0_left, x0_far, x0_tons, x0_way, x0_steps, x0_met, x0_queue, x0_totals) m1 p1 = some out) : Ct l d yX7_two cX7_two 2 (some .boolean) { frames := 3, cells := 0, slots := 0, locals := 64 } [.ref (h0 0), .ref b1] [gMd d h0 a0_kept a0_tried a0_chosen r0_rows r0_line r0_good r0_work x0_shelf x0_rowSort x0_rowSize x0_moved x0_shown x0_tape x0_tapeSize x0_refused x0_lines x0_changes x0_coins x0_goods x0_works x0_years x0_gone x0_spent x0_at x0_token x0_from x0_figures x0_fault x0_numbers x0_statements x0_left x0_far x0_tons x0_way x0_steps x0_met x0_queue x0_totals, [cI d b1 m1 p1]] (fun _ : Unit => (some (.int out.1), [gMd d h0 a0_kept a0_tried a0_chosen r0_rows r0_line r0_good r0_work x0_shelf x0_rowSort x0_rowSize x0_moved x0_shown x0_tape x0_tapeSize x0_refused x0_lines x0_changes x0_coins x0_goods x0_works x0_years x0_gone x0_spent (out.2.1.1) (out.2.1.2.1) (out.2.1.2.2.1) (out.2.1.2.2.2.1) (out.2.1.2.2.2.2) x0_numbers x0_statements x0_left x0_far x0_tons x0_way x0_steps x0_met x0_queue x0_totals, [cI d b1 m1 (out.2.2)]])) := by
  refine Ct.of (by decide) (Nat.le_of_ble_eq_true rfl) ?_
  intro Φ hl hK hR
  subst hl
  have hK : Ok d Φ RX7 "two" cX7_two 2 (some .boolean) { frames := 3, cells := 0, slots := 0, locals := 64 } := hK
  unfold fX7_two at hf
  have hf := un35 hf
  show J d Φ 2 [gMd d h0 a0_kept a0_tried a0_chosen r0_rows r0_line r0_good r0_work x0_shelf x0_rowSort x0_rowSize x0_moved x0_shown x0_tape x0_tapeSize x0_refused x0_lines x0_changes x0_coins x0_goods x0_works x0_years x0_gone x0_spent x0_at x0_token x0_from x0_figures x0_fault x0_numbers x0_statements x0_left x0_far x0_tons x0_way x0_steps x0_met x0_queue x0_totals, [cI d b1 m1 p1]] 0 0 0 [(0, .ref (h0 0)), (1, .ref b1)] []
  refine J_aload_n hK qd3_50.1 rfl 0 rfl rfl ?_
  obtain ⟨⟨g1, g2, g3, g4⟩, e5, hf⟩ := bs hf
  have hf := un4 hf
  refine J_callV (m := 2) (m' := 2) (ce' := 0) (sl' := 0) (gr := [[cI d b1 m1 p1]]) (gs' := fun _ => [gMd d h0 a0_kept a0_tried a0_chosen r0_rows r0_line r0_good r0_work x0_shelf x0_rowSort x0_rowSize x0_moved x0_shown x0_tape x0_tapeSize x0_refused x0_lines x0_changes x0_coins x0_goods x0_works x0_years x0_gone x0_spent g1 g2 g3 g4 x0_fault x0_numbers x0_statements x0_left x0_far x0_tons x0_way x0_steps x0_met x0_queue x0_totals, [cI d b1 m1 p1]]) (st' := fun _ => []) (st := []) hK qd3_50.2.1 cv_RX7_191 iv_yX7_look (As := []) (kX7_look _ d h0 r0_rows r0_line r0_good r0_work a0_kept a0_tried a0_chosen n x0_shelf x0_rowSort x0_rowSize x0_rows x0_moved x0_shown x0_tape x0_tapeSize x0_refused x0_lines x0_line x0_changes x0_coins x0_goods x0_good x0_works x0_work x0_years x0_gone x0_spent x0_at x0_token x0_from x0_figures x0_fault x0_numbers x0_statements x0_left x0_far x0_tons x0_way x0_steps x0_met x0_queue x0_totals e5) rfl rfl (Nat.le_of_ble_eq_true rfl) (by decide) 0 0 rfl rfl rfl [0] [1] rfl (by decide +kernel) rfl rfl [1, 0] (by decide +kernel) (fun _ => rfl) (fun _ => rfl) rfl rfl rfl (fun _ => rfl) (fun _ => ?_)
  refine J_aload_n hK qd3_50.2.2.1 rfl 0 rfl rfl ?_
  refine J_aload_n hK qd3_50.2.2.2.1 rfl 1 rfl rfl ?_
  refine J_iconst (v := 0) hK qd3_50.2.2.2.2.1 rfl (by decide) ?_
  refine J_iconst (v := 0) hK qd3_50.2.2.2.2.2.1 rfl (by decide) ?_
  refine J_bipush (v := 11) hK qd3_50.2.2.2.2.2.2.1 rfl (by decide) ?_
  obtain ⟨⟨v6, ⟨g8, g9, g10, g11, g12⟩, g13⟩, e14, hf⟩ := bs hf
  have hf := un3 hf
  have hf := un5 hf
  refine J_callV (m := 2) (m' := 2) (ce' := 0) (sl' := 0) (gr := []) (gs' := fun _ => [gMd d h0 a0_kept a0_tried a0_chosen r0_rows r0_line r0_good r0_work x0_shelf x0_rowSort x0_rowSize x0_moved x0_shown x0_tape x0_tapeSize x0_refused x0_lines x0_changes x0_coins x0_goods x0_works x0_years x0_gone x0_spent g8 g9 g10 g11 g12 x0_numbers x0_statements x0_left x0_far x0_tons x0_way x0_steps x0_met x0_queue x0_totals, [cI d b1 m1 g13]]) (st' := fun _ => [.int v6]) (st := []) hK qd3_50.2.2.2.2.2.2.2.1 cv_RX7_198 iv_yX7_number (As := [.ref b1, .int (0), .int (0), .int (11)]) (kX7_number _ d h0 r0_rows r0_line r0_good r0_work a0_kept a0_tried a0_chosen b1 n x0_shelf x0_rowSort x0_rowSize x0_rows x0_moved x0_shown x0_tape x0_tapeSize x0_refused x0_lines x0_line x0_changes x0_coins x0_goods x0_good x0_works x0_work x0_years x0_gone x0_spent g1 g2 g3 g4 x0_fault x0_numbers x0_statements x0_left x0_far x0_tons x0_way x0_steps x0_met x0_queue x0_totals m1 p1 (0) (0) (11) e14) rfl rfl (Nat.le_of_ble_eq_true rfl) (by decide) 0 0 rfl rfl rfl [0, 1] [] rfl (by decide +kernel) rfl rfl [0, 1] (by decide +kernel) (fun _ => rfl) (fun _ => rfl) rfl rfl rfl (fun _ => rfl) (fun _ => ?_)
  refine J_if_ne (tg := 18) hK qd3_50.2.2.2.2.2.2.2.2.1 rfl rfl (fun hc13 => ?_) (fun hc13 => ?_)
  · have hf := iq hc13 hf
    refine J_aload_n hK qd3_50.2.2.2.2.2.2.2.2.2.2.2.1 rfl 0 rfl rfl ?_
    refine J_get hK fo_RX7_159 qd3_50.2.2.2.2.2.2.2.2.2.2.2.2.1 rfl 0 0 rfl rfl rfl ?_
    refine J_iconst (v := 2) hK qd3_50.2.2.2.2.2.2.2.2.2.2.2.2.2.1 rfl (by decide) ?_
    have j43 : fX7_two_j43 n m1 x0_shelf x0_rowSort x0_rowSize x0_rows x0_moved x0_shown x0_tape x0_tapeSize x0_refused x0_lines x0_line x0_changes x0_coins x0_goods x0_good x0_works x0_work x0_years x0_gone x0_spent x0_numbers x0_statements x0_left x0_far x0_tons x0_way x0_steps x0_met x0_queue x0_totals g8 g9 g10 g11 g12 g13 = some out → J d Φ 2 [gMd d h0 a0_kept a0_tried a0_chosen r0_rows r0_line r0_good r0_work x0_shelf x0_rowSort x0_rowSize x0_moved x0_shown x0_tape x0_tapeSize x0_refused x0_lines x0_changes x0_coins x0_goods x0_works x0_years x0_gone x0_spent g8 g9 g10 g11 g12 x0_numbers x0_statements x0_left x0_far x0_tons x0_way x0_steps x0_met x0_queue x0_totals, [cI d b1 m1 g13]] 0 0 43 [(0, .ref (h0 0)), (1, .ref b1)] [] := by
      intro  hf
      unfold fX7_two_j43 at hf
      refine J_aload_n hK qd3_51.2.2.2.2.2.2.2.2.2.2.1 rfl 0 rfl rfl ?_
      refine J_aload_n hK qd3_51.2.2.2.2.2.2.2.2.2.2.2.1 rfl 1 rfl rfl ?_
      refine J_iconst (v := 1) hK qd3_51.2.2.2.2.2.2.2.2.2.2.2.2.1 rfl (by decide) ?_
      refine J_iconst (v := 0) hK qd3_51.2.2.2.2.2.2.2.2.2.2.2.2.2.1 rfl (by decide) ?_
      refine J_bipush (v := 11) hK qd3_51.2.2.2.2.2.2.2.2.2.2.2.2.2.2.1 rfl (by decide) ?_
      obtain ⟨⟨v15, ⟨g17, g18, g19, g20, g21⟩, g22⟩, e23, hf⟩ := bs hf
      have hf := un3 hf
      have hf := un5 hf
      refine J_callV (m := 2) (m' := 2) (ce' := 0) (sl' := 0) (gr := []) (gs' := fun _ => [gMd d h0 a0_kept a0_tried a0_chosen r0_rows r0_line r0_good r0_work x0_shelf x0_rowSort x0_rowSize x0_moved x0_shown x0_tape x0_tapeSize x0_refused x0_lines x0_changes x0_coins x0_goods x0_works x0_years x0_gone x0_spent g17 g18 g19 g20 g21 x0_numbers x0_statements x0_left x0_far x0_tons x0_way x0_steps x0_met x0_queue x0_totals, [cI d b1 m1 g22]]) (st' := fun _ => [.int v15]) (st := []) hK qd3_51.2.2.2.2.2.2.2.2.2.2.2.2.2.2.2.1 cv_RX7_198 iv_yX7_number (As := [.ref b1, .int (1), .int (0), .int (11)]) (kX7_number _ d h0 r0_rows r0_line r0_good r0_work a0_kept a0_tried a0_chosen b1 n x0_shelf x0_rowSort x0_rowSize x0_rows x0_moved x0_shown x0_tape x0_tapeSize x0_refused x0_lines x0_line x0_changes x0_coins x0_goods x0_good x0_works x0_work x0_years x0_gone x0_spent g8 g9 g10 g11 g12 x0_numbers x0_statements x0_left x0_far x0_tons x0_way x0_steps x0_met x0_queue x0_totals m1 g13 (1) (0) (11) e23) rfl rfl (Nat.le_of_ble_eq_true rfl) (by decide) 0 0 rfl rfl rfl [0, 1] [] rfl (by decide +kernel) rfl rfl [0, 1] (by decide +kernel) (fun _ => rfl) (fun _ => rfl) rfl rfl rfl (fun _ => rfl) (fun _ => ?_)
      obtain ⟨v24, ev24, hf⟩ := bs hf
      obtain rfl := Option.some.inj hf
      exact J_zret hK hR qd3_52.1 () (zb_ok ev24).2 (by rw [(zb_ok ev24).1]) (by decide) (by decide)
    refine J_icmp_ne (tg := 43) hK qd3_50.2.2.2.2.2.2.2.2.2.2.2.2.2.2.1 rfl rfl (fun hc23 => ?_) (fun hc23 => ?_)
    · have hf := iq hc23 hf
      exact (j43  hf)
    · have hf := ip hc23 hf
      refine J_aload_n hK qd3_50.2.2.2.2.2.2.2.2.2.2.2.2.2.2.2.1 rfl 0 rfl rfl ?_
      refine J_get hK fo_RX7_155 qd3_51.1 rfl 0 0 rfl rfl rfl ?_
      refine J_aload_n hK qd3_51.2.1 rfl 1 rfl rfl ?_
      refine J_iconst (v := 0) hK qd3_51.2.2.1 rfl (by decide) ?_
      obtain ⟨v25, ev25, hf⟩ := bs hf
      refine J_iald hK qd3_51.2.2.2.1 rfl 1 0 rfl rfl ev25 ?_
      refine J_i2l hK qd3_51.2.2.2.2.1 rfl ?_
      refine J_lcmp hK qd3_51.2.2.2.2.2.1 rfl ?_
      refine J_if_ne (tg := 43) hK qd3_51.2.2.2.2.2.2.1 rfl rfl (fun hc35 => ?_) (fun hc35 => ?_)
      · have hf := iq hc35 hf
        exact (j43  hf)
      · have hf := ip hc35 hf
        refine J_aload_n hK qd3_51.2.2.2.2.2.2.2.1 rfl 0 rfl rfl ?_
        obtain ⟨⟨v26, g27⟩, e28, hf⟩ := bs hf
        have hf := un2 hf
        refine J_callV (m := 2) (m' := 2) (ce' := 0) (sl' := 0) (gr := [[cI d b1 m1 g13]]) (gs' := fun _ => [gMd d h0 a0_kept a0_tried a0_chosen r0_rows r0_line r0_good r0_work x0_shelf x0_rowSort x0_rowSize x0_moved x0_shown x0_tape x0_tapeSize x0_refused x0_lines x0_changes x0_coins x0_goods x0_works x0_years x0_gone x0_spent g8 g9 g10 g11 g27 x0_numbers x0_statements x0_left x0_far x0_tons x0_way x0_steps x0_met x0_queue x0_totals, [cI d b1 m1 g13]]) (st' := fun _ => [.int v26]) (st := []) hK qd3_51.2.2.2.2.2.2.2.2.1 cv_RX7_187 iv_yX7_wrong (As := []) (kX7_wrong _ d h0 r0_rows r0_line r0_good r0_work a0_kept a0_tried a0_chosen x0_shelf x0_rowSort x0_rowSize x0_rows x0_moved x0_shown x0_tape x0_tapeSize x0_refused x0_lines x0_line x0_changes x0_coins x0_goods x0_good x0_works x0_work x0_years x0_gone x0_spent g8 g9 g10 g11 g12 x0_numbers x0_statements x0_left x0_far x0_tons x0_way x0_steps x0_met x0_queue x0_totals e28) rfl rfl (Nat.le_of_ble_eq_true rfl) (by decide) 0 0 rfl rfl rfl [0] [1] rfl (by decide +kernel) rfl rfl [1, 0] (by decide +kernel) (fun _ => rfl) (fun _ => rfl) rfl rfl rfl (fun _ => rfl) (fun _ => ?_)
        obtain ⟨v29, ev29, hf⟩ := bs hf
        obtain rfl := Option.some.inj hf
        exact J_zret hK hR qd3_51.2.2.2.2.2.2.2.2.2.1 () (zb_ok ev29).2 (by rw [(zb_ok ev29).1]) (by decide) (by decide)
  · have hf := ip hc13 hf
    refine J_iconst (v := 0) hK qd3_50.2.2.2.2.2.2.2.2.2.1 rfl (by decide) ?_
    obtain rfl := Option.some.inj hf
    exact J_zret hK hR qd3_50.2.2.2.2.2.2.2.2.2.2.1 () rfl rfl (by decide) (by decide)

def fX7_workTold (n : Nat) (X0 : MdT) (m1 : Nat) (p1 : (Nat → Int32)) : Option (Int32 × (Int32 × Int32 × Int32 × Int32 × Int64 × Int32) × (Nat → Int32)) :=
  u35 (fun (x0_shelf : (Nat → Int32)) (x0_rowSort : (Nat → Int32)) (x0_rowSize : (Nat → Int32)) (x0_rows : (Nat → Nat → Int64)) (x0_moved : (Nat → Int64)) (x0_shown : (Nat → Int32)) (x0_tape : (Nat → Int32)) (x0_tapeSize : Int32) (x0_refused : (Nat → Int32)) (x0_lines : Int32) (x0_line : (Nat → Nat → Int32)) (x0_changes : (Nat → Int32)) (x0_coins : (Nat → Int32)) (x0_goods : Int32) (x0_good : (Nat → Nat → Int32)) (x0_works : Int32) (x0_work : (Nat → Nat → Int32)) (x0_years : Int32) (x0_gone : Int32) (x0_spent : Int32) (x0_at : Int32) (x0_token : Int32) (x0_from : Int32) (x0_figures : Int64) (x0_fault : Int32) (x0_numbers : (Nat → Int32)) (x0_statements : Int32) (x0_left : (Nat → Int32)) (x0_far : (Nat → Int32)) (x0_tons : Int32) (x0_way : (Nat → Int32)) (x0_steps : Int32) (x0_met : Int64) (x0_queue : (Nat → Int32)) (x0_totals : (Nat → Int32)) => (wr m1 p1 (4) (0)).bind fun f1 => (fX7_told n (x0_shelf, x0_rowSort, x0_rowSize, x0_rows, x0_moved, x0_shown, x0_tape, x0_tapeSize, x0_refused, x0_lines, x0_line, x0_changes, x0_coins, x0_goods, x0_good, x0_works, x0_work, x0_years, x0_gone, x0_spent, x0_at, x0_token, x0_from, x0_figures, x0_fault, x0_numbers, x0_statements, x0_left, x0_far, x0_tons, x0_way, x0_steps, x0_met, x0_queue, x0_totals) 16 m1 f1 (0) (1) (5)).bind (u3 fun v2 G3 g9 => u5 (fun g4 g5 g6 g7 g8 => if v2 = 0 then (some (0, (x0_works, g4, g5, g6, g7, g8), g9)) else (if g5 = 2 then ((fX7_in g7 (0 : Int64) (99 : Int64)).bind (fun v15 => if v15 = 0 then ((fX7_wrong (x0_shelf, x0_rowSort, x0_rowSize, x0_rows, x0_moved, x0_shown, x0_tape, x0_tapeSize, x0_refused, x0_lines, x0_line, x0_changes, x0_coins, x0_goods, x0_good, x0_works, x0_work, x0_years, x0_gone, x0_spent, g4, g5, g6, g7, g8, x0_numbers, x0_statements, x0_left, x0_far, x0_tons, x0_way, x0_steps, x0_met, x0_queue, x0_totals)).bind (u2 fun v17 g18 => (zb v17).bind fun v20 => some (v20, (x0_works, g4, g5, g6, g7, g18), g9))) else ((rd m1 g9 (0)).bind fun v21 => (fX7_mayBeFirst (x0_shelf, x0_rowSort, x0_rowSize, x0_rows, x0_moved, x0_shown, x0_tape, x0_tapeSize, x0_refused, x0_lines, x0_line, x0_changes, x0_coins, x0_goods, x0_good, x0_works, x0_work, x0_years, x0_gone, x0_spent, g4, g5, g6, g7, g8, x0_numbers, x0_statements, x0_left, x0_far, x0_tons, x0_way, x0_steps, x0_met, x0_queue, x0_totals) v21 ((g7).toInt32)).bind (fun v22 => if v22 = 0 then ((fX7_wrong (x0_shelf, x0_rowSort, x0_rowSize, x0_rows, x0_moved, x0_shown, x0_tape, x0_tapeSize, x0_refused, x0_lines, x0_line, x0_changes, x0_coins, x0_goods, x0_good, x0_works, x0_work, x0_years, x0_gone, x0_spent, g4, g5, g6, g7, g8, x0_numbers, x0_statements, x0_left, x0_far, x0_tons, x0_way, x0_steps, x0_met, x0_queue, x0_totals)).bind (u2 fun v69 g70 => (zb v69).bind fun v72 => some (v72, (x0_works, g4, g5, g6, g7, g70), g9))) else ((fX7_number n (x0_shelf, x0_rowSort, x0_rowSize, x0_rows, x0_moved, x0_shown, x0_tape, x0_tapeSize, x0_refused, x0_lines, x0_line, x0_changes, x0_coins, x0_goods, x0_good, x0_works, x0_work, x0_years, x0_gone, x0_spent, g4, g5, g6, g7, g8, x0_numbers, x0_statements, x0_left, x0_far, x0_tons, x0_way, x0_steps, x0_met, x0_queue, x0_totals) m1 g9 (1) (0) (99)).bind (u3 fun v24 G25 g31 => u5 (fun g26 g27 g28 g29 g30 => if g27 = 2 then ((fX7_in g29 (0 : Int64) (99 : Int64)).bind (fun v37 => if v37 = 0 then ((fX7_wrong (x0_shelf, x0_rowSort, x0_rowSize, x0_rows, x0_moved, x0_shown, x0_tape, x0_tapeSize, x0_refused, x0_lines, x0_line, x0_changes, x0_coins, x0_goods, x0_good, x0_works, x0_work, x0_years, x0_gone, x0_spent, g26, g27, g28, g29, g30, x0_numbers, x0_statements, x0_left, x0_far, x0_tons, x0_way, x0_steps, x0_met, x0_queue, x0_totals)).bind (u2 fun v39 g40 => (zb v39).bind fun v42 => some (v42, (x0_works, g26, g27, g28, g29, g40), g31))) else ((rd m1 g31 (0)).bind fun v43 => (rd m1 g31 (1)).bind fun v44 => (fX7_mayBeSecond v43 v44 ((g29).toInt32)).bind (fun v45 => if v45 = 0 then ((fX7_wrong (x0_shelf, x0_rowSort, x0_rowSize, x0_rows, x0_moved, x0_shown, x0_tape, x0_tapeSize, x0_refused, x0_lines, x0_line, x0_changes, x0_coins, x0_goods, x0_good, x0_works, x0_work, x0_years, x0_gone, x0_spent, g26, g27, g28, g29, g30, x0_numbers, x0_statements, x0_left, x0_far, x0_tons, x0_way, x0_steps, x0_met, x0_queue, x0_totals)).bind (u2 fun v65 g66 => (zb v65).bind fun v68 => some (v68, (x0_works, g26, g27, g28, g29, g66), g31))) else ((fX7_number n (x0_shelf, x0_rowSort, x0_rowSize, x0_rows, x0_moved, x0_shown, x0_tape, x0_tapeSize, x0_refused, x0_lines, x0_line, x0_changes, x0_coins, x0_goods, x0_good, x0_works, x0_work, x0_years, x0_gone, x0_spent, g26, g27, g28, g29, g30, x0_numbers, x0_statements, x0_left, x0_far, x0_tons, x0_way, x0_steps, x0_met, x0_queue, x0_totals) m1 g31 (2) (0) (99)).bind (u3 fun v47 G48 g54 => u5 (fun g49 g50 g51 g52 g53 => (fX7_number n (x0_shelf, x0_rowSort, x0_rowSize, x0_rows, x0_moved, x0_shown, x0_tape, x0_tapeSize, x0_refused, x0_lines, x0_line, x0_changes, x0_coins, x0_goods, x0_good, x0_works, x0_work, x0_years, x0_gone, x0_spent, g49, g50, g51, g52, g53, x0_numbers, x0_statements, x0_left, x0_far, x0_tons, x0_way, x0_steps, x0_met, x0_queue, x0_totals) m1 g54 (3) (0) (999)).bind (u3 fun v56 G57 g63 => u5 (fun g58 g59 g60 g61 g62 => if v56 = 0 then (some (0, (x0_works, g58, g59, g60, g61, g62), g63)) else (some (1, ((x0_works + 1), g58, g59, g60, g61, g62), g63))) G57)) G48)))))) else ((fX7_wrong (x0_shelf, x0_rowSort, x0_rowSize, x0_rows, x0_moved, x0_shown, x0_tape, x0_tapeSize, x0_refused, x0_lines, x0_line, x0_changes, x0_coins, x0_goods, x0_good, x0_works, x0_work, x0_years, x0_gone, x0_spent, g26, g27, g28, g29, g30, x0_numbers, x0_statements, x0_left, x0_far, x0_tons, x0_way, x0_steps, x0_met, x0_queue, x0_totals)).bind (u2 fun v33 g34 => (zb v33).bind fun v36 => some (v36, (x0_works, g26, g27, g28, g29, g34), g31)))) G25)))))) else ((fX7_wrong (x0_shelf, x0_rowSort, x0_rowSize, x0_rows, x0_moved, x0_shown, x0_tape, x0_tapeSize, x0_refused, x0_lines, x0_line, x0_changes, x0_coins, x0_goods, x0_good, x0_works, x0_work, x0_years, x0_gone, x0_spent, g4, g5, g6, g7, g8, x0_numbers, x0_statements, x0_left, x0_far, x0_tons, x0_way, x0_steps, x0_met, x0_queue, x0_totals)).bind (u2 fun v11 g12 => (zb v11).bind fun v14 => some (v14, (x0_works, g4, g5, g6, g7, g12), g9))))) G3)) X0
set_option maxHeartbeats 4000000 in
set_option maxRecDepth 100000 in
theorem kX7_workTold (l : Launch) (d : DT) (h0 : Nat → Nat) (r0_rows : Nat → Nat) (r0_line : Nat → Nat) (r0_good : Nat → Nat) (r0_work : Nat → Nat) (a0_kept : Option Nat) (a0_tried : Option Nat) (a0_chosen : Option Nat) (b1 : Nat) (n : Nat) (x0_shelf : (Nat → Int32)) (x0_rowSort : (Nat → Int32)) (x0_rowSize : (Nat → Int32)) (x0_rows : (Nat → Nat → Int64)) (x0_moved : (Nat → Int64)) (x0_shown : (Nat → Int32)) (x0_tape : (Nat → Int32)) (x0_tapeSize : Int32) (x0_refused : (Nat → Int32)) (x0_lines : Int32) (x0_line : (Nat → Nat → Int32)) (x0_changes : (Nat → Int32)) (x0_coins : (Nat → Int32)) (x0_goods : Int32) (x0_good : (Nat → Nat → Int32)) (x0_works : Int32) (x0_work : (Nat → Nat → Int32)) (x0_years : Int32) (x0_gone : Int32) (x0_spent : Int32) (x0_at : Int32) (x0_token : Int32) (x0_from : Int32) (x0_figures : Int64) (x0_fault : Int32) (x0_numbers : (Nat → Int32)) (x0_statements : Int32) (x0_left : (Nat → Int32)) (x0_far : (Nat → Int32)) (x0_tons : Int32) (x0_way : (Nat → Int32)) (x0_steps : Int32) (x0_met : Int64) (x0_queue : (Nat → Int32)) (x0_totals : (Nat → Int32)) (m1 : Nat) (p1 : (Nat → Int32))  {out : Int32 × (Int32 × Int32 × Int32 × Int32 × Int64 × Int32) × (Nat → Int32)} (hf : fX7_workTold n (x0_shelf, x0_rowSort, x0_rowSize, x0_rows, x0_moved, x0_shown, x0_tape, x0_tapeSize, x0_refused, x0_lines, x0_line, x0_changes, x0_coins, x0_goods, x0_good, x0_works, x0_work, x0_years, x0_gone, x0_spent, x0_at, x0_token, x0_from, x0_figures, x0_fault, x0_numbers, x0_statements, x0_left, x0_far, x0_tons, x0_way, x0_steps, x0_met, x0_queue, x0_totals) m1 p1 = some out) : Ct l d yX7_workTold cX7_workTold 2 (some .boolean) { frames := 6, cells := 0, slots := 0, locals := 132 } [.ref (h0 0), .ref b1] [gMd d h0 a0_kept a0_tried a0_chosen r0_rows r0_line r0_good r0_work x0_shelf x0_rowSort x0_rowSize x0_moved x0_shown x0_tape x0_tapeSize x0_refused x0_lines x0_changes x0_coins x0_goods x0_works x0_years x0_gone x0_spent x0_at x0_token x0_from x0_figures x0_fault x0_numbers x0_statements x0_left x0_far x0_tons x0_way x0_steps x0_met x0_queue x0_totals, [cI d b1 m1 p1]] (fun _ : Unit => (some (.int out.1), [gMd d h0 a0_kept a0_tried a0_chosen r0_rows r0_line r0_good r0_work x0_shelf x0_rowSort x0_rowSize x0_moved x0_shown x0_tape x0_tapeSize x0_refused x0_lines x0_changes x0_coins x0_goods (out.2.1.1) x0_years x0_gone x0_spent (out.2.1.2.1) (out.2.1.2.2.1) (out.2.1.2.2.2.1) (out.2.1.2.2.2.2.1) (out.2.1.2.2.2.2.2) x0_numbers x0_statements x0_left x0_far x0_tons x0_way x0_steps x0_met x0_queue x0_totals, [cI d b1 m1 (out.2.2)]])) := by
  refine Ct.of (by decide) (Nat.le_of_ble_eq_true rfl) ?_
  intro Φ hl hK hR
  subst hl
  have hK : Ok d Φ RX7 "workTold" cX7_workTold 2 (some .boolean) { frames := 6, cells := 0, slots := 0, locals := 132 } := hK
  unfold fX7_workTold at hf
  have hf := un35 hf
  show J d Φ 2 [gMd d h0 a0_kept a0_tried a0_chosen r0_rows r0_line r0_good r0_work x0_shelf x0_rowSort x0_rowSize x0_moved x0_shown x0_tape x0_tapeSize x0_refused x0_lines x0_changes x0_coins x0_goods x0_works x0_years x0_gone x0_spent x0_at x0_token x0_from x0_figures x0_fault x0_numbers x0_statements x0_left x0_far x0_tons x0_way x0_steps x0_met x0_queue x0_totals, [cI d b1 m1 p1]] 0 0 0 [(0, .ref (h0 0)), (1, .ref b1)] []
  refine J_aload_n hK qd3_66.1 rfl 1 rfl rfl ?_
  refine J_iconst (v := 4) hK qd3_66.2.1 rfl (by decide) ?_
  refine J_iconst (v := 0) hK qd3_66.2.2.1 rfl (by decide) ?_
  obtain ⟨f1, ef1, hf⟩ := bs hf
  refine J_iast (g' := [cI d b1 m1 f1]) (gs' := [gMd d h0 a0_kept a0_tried a0_chosen r0_rows r0_line r0_good r0_work x0_shelf x0_rowSort x0_rowSize x0_moved x0_shown x0_tape x0_tapeSize x0_refused x0_lines x0_changes x0_coins x0_goods x0_works x0_years x0_gone x0_spent x0_at x0_token x0_from x0_figures x0_fault x0_numbers x0_statements x0_left x0_far x0_tons x0_way x0_steps x0_met x0_queue x0_totals, [cI d b1 m1 f1]]) hK qd3_66.2.2.2.1 rfl 1 0 rfl rfl ef1 rfl rfl ?_
  refine J_aload_n hK qd3_66.2.2.2.2.1 rfl 0 rfl rfl ?_
  refine J_str hK qd3_66.2.2.2.2.2.1 rfl 16 rfl rfl rfl ?_
  refine J_aload_n hK qd3_66.2.2.2.2.2.2.1 rfl 1 rfl rfl ?_
  refine J_iconst (v := 0) hK qd3_66.2.2.2.2.2.2.2.1 rfl (by decide) ?_
  refine J_iconst (v := 1) hK qd3_66.2.2.2.2.2.2.2.2.1 rfl (by decide) ?_
  refine J_iconst (v := 5) hK qd3_66.2.2.2.2.2.2.2.2.2.1 rfl (by decide) ?_
  obtain ⟨⟨v2, ⟨g4, g5, g6, g7, g8⟩, g9⟩, e10, hf⟩ := bs hf
  have hf := un3 hf
  have hf := un5 hf
  refine J_callV (m := 2) (m' := 2) (ce' := 0) (sl' := 0) (gr := []) (gs' := fun _ => [gMd d h0 a0_kept a0_tried a0_chosen r0_rows r0_line r0_good r0_work x0_shelf x0_rowSort x0_rowSize x0_moved x0_shown x0_tape x0_tapeSize x0_refused x0_lines x0_changes x0_coins x0_goods x0_works x0_years x0_gone x0_spent g4 g5 g6 g7 g8 x0_numbers x0_statements x0_left x0_far x0_tons x0_way x0_steps x0_met x0_queue x0_totals, [cI d b1 m1 g9]]) (st' := fun _ => [.int v2]) (st := []) hK qd3_66.2.2.2.2.2.2.2.2.2.2.1 cv_RX7_202 iv_yX7_told (As := [.ref (d.2.2.2.1 16), .ref b1, .int (0), .int (1), .int (5)]) (kX7_told _ d h0 r0_rows r0_line r0_good r0_work a0_kept a0_tried a0_chosen b1 n x0_shelf x0_rowSort x0_rowSize x0_rows x0_moved x0_shown x0_tape x0_tapeSize x0_refused x0_lines x0_line x0_changes x0_coins x0_goods x0_good x0_works x0_work x0_years x0_gone x0_spent x0_at x0_token x0_from x0_figures x0_fault x0_numbers x0_statements x0_left x0_far x0_tons x0_way x0_steps x0_met x0_queue x0_totals 16 m1 f1 (0) (1) (5) e10) rfl rfl (Nat.le_of_ble_eq_true rfl) (by decide) 0 0 rfl rfl rfl [0, 1] [] rfl (by decide +kernel) rfl rfl [0, 1] (by decide +kernel) (fun _ => rfl) (fun _ => rfl) rfl rfl rfl (fun _ => rfl) (fun _ => ?_)
  refine J_if_ne (tg := 19) hK qd3_66.2.2.2.2.2.2.2.2.2.2.2.1 rfl rfl (fun hc14 => ?_) (fun hc14 => ?_)
  · have hf := iq hc14 hf
    refine J_aload_n hK qd3_66.2.2.2.2.2.2.2.2.2.2.2.2.2.2.1 rfl 0 rfl rfl ?_
    refine J_get hK fo_RX7_159 qd3_66.2.2.2.2.2.2.2.2.2.2.2.2.2.2.2.1 rfl 0 0 rfl rfl rfl ?_
    refine J_iconst (v := 2) hK qd3_67.1 rfl (by decide) ?_
    refine J_icmp_ne (tg := 56) hK qd3_67.2.1 rfl rfl (fun hc24 => ?_) (fun hc24 => ?_)
    · have hf := iq hc24 hf
      refine J_aload_n hK qd3_68.2.1 rfl 0 rfl rfl ?_
      obtain ⟨⟨v11, g12⟩, e13, hf⟩ := bs hf
      have hf := un2 hf
      refine J_callV (m := 2) (m' := 2) (ce' := 0) (sl' := 0) (gr := [[cI d b1 m1 g9]]) (gs' := fun _ => [gMd d h0 a0_kept a0_tried a0_chosen r0_rows r0_line r0_good r0_work x0_shelf x0_rowSort x0_rowSize x0_moved x0_shown x0_tape x0_tapeSize x0_refused x0_lines x0_changes x0_coins x0_goods x0_works x0_years x0_gone x0_spent g4 g5 g6 g7 g12 x0_numbers x0_statements x0_left x0_far x0_tons x0_way x0_steps x0_met x0_queue x0_totals, [cI d b1 m1 g9]]) (st' := fun _ => [.int v11]) (st := []) hK qd3_68.2.2.1 cv_RX7_187 iv_yX7_wrong (As := []) (kX7_wrong _ d h0 r0_rows r0_line r0_good r0_work a0_kept a0_tried a0_chosen x0_shelf x0_rowSort x0_rowSize x0_rows x0_moved x0_shown x0_tape x0_tapeSize x0_refused x0_lines x0_line x0_changes x0_coins x0_goods x0_good x0_works x0_work x0_years x0_gone x0_spent g4 g5 g6 g7 g8 x0_numbers x0_statements x0_left x0_far x0_tons x0_way x0_steps x0_met x0_queue x0_totals e13) rfl rfl (Nat.le_of_ble_eq_true rfl) (by decide) 0 0 rfl rfl rfl [0] [1] rfl (by decide +kernel) rfl rfl [1, 0] (by decide +kernel) (fun _ => rfl) (fun _ => rfl) rfl rfl rfl (fun _ => rfl) (fun _ => ?_)
      obtain ⟨v14, ev14, hf⟩ := bs hf
      obtain rfl := Option.some.inj hf
      exact J_zret hK hR qd3_68.2.2.2.1 () (zb_ok ev14).2 (by rw [(zb_ok ev14).1]) (by decide) (by decide)
    · have hf := ip hc24 hf
      refine J_aload_n hK qd3_67.2.2.1 rfl 0 rfl rfl ?_
      refine J_get hK fo_RX7_155 qd3_67.2.2.2.1 rfl 0 0 rfl rfl rfl ?_
      refine J_lconst (v := 0) hK qd3_67.2.2.2.2.1 rfl (by decide) ?_
      refine J_ldc2 (v := (99 : Int64)) hK qd3_67.2.2.2.2.2.1 rfl wk_RX7_123 ?_
      obtain ⟨v15, e16, hf⟩ := bs hf
      refine J_callS (m := 2) (m' := 2) (ce' := 0) (sl' := 0) (gr := [gMd d h0 a0_kept a0_tried a0_chosen r0_rows r0_line r0_good r0_work x0_shelf x0_rowSort x0_rowSize x0_moved x0_shown x0_tape x0_tapeSize x0_refused x0_lines x0_changes x0_coins x0_goods x0_works x0_years x0_gone x0_spent g4 g5 g6 g7 g8 x0_numbers x0_statements x0_left x0_far x0_tons x0_way x0_steps x0_met x0_queue x0_totals, [cI d b1 m1 g9]]) (gs' := fun _ => [gMd d h0 a0_kept a0_tried a0_chosen r0_rows r0_line r0_good r0_work x0_shelf x0_rowSort x0_rowSize x0_moved x0_shown x0_tape x0_tapeSize x0_refused x0_lines x0_changes x0_coins x0_goods x0_works x0_years x0_gone x0_spent g4 g5 g6 g7 g8 x0_numbers x0_statements x0_left x0_far x0_tons x0_way x0_steps x0_met x0_queue x0_totals, [cI d b1 m1 g9]]) (st' := fun _ => [.int v15]) (st := []) hK qd3_67.2.2.2.2.2.2.1 cv_RX7_78 ws_yX7_in (As := [.long g7, .long (0 : Int64), .long (99 : Int64)]) (kX7_in _ d g7 (0 : Int64) (99 : Int64) e16) rfl rfl (Nat.le_of_ble_eq_true rfl) (by decide) [] [0, 1] rfl (by decide +kernel) rfl rfl [0, 1] (by decide +kernel) (fun _ => rfl) (fun _ => rfl) rfl rfl rfl (fun _ => rfl) (fun _ => ?_)
      refine J_if_eq (tg := 56) hK qd3_67.2.2.2.2.2.2.2.1 rfl rfl (fun hc38 => ?_) (fun hc38 => ?_)
      · have hf := ip hc38 hf
        refine J_aload_n hK qd3_68.2.1 rfl 0 rfl rfl ?_
        obtain ⟨⟨v17, g18⟩, e19, hf⟩ := bs hf
        have hf := un2 hf
        refine J_callV (m := 2) (m' := 2) (ce' := 0) (sl' := 0) (gr := [[cI d b1 m1 g9]]) (gs' := fun _ => [gMd d h0 a0_kept a0_tried a0_chosen r0_rows r0_line r0_good r0_work x0_shelf x0_rowSort x0_rowSize x0_moved x0_shown x0_tape x0_tapeSize x0_refused x0_lines x0_changes x0_coins x0_goods x0_works x0_years x0_gone x0_spent g4 g5 g6 g7 g18 x0_numbers x0_statements x0_left x0_far x0_tons x0_way x0_steps x0_met x0_queue x0_totals, [cI d b1 m1 g9]]) (st' := fun _ => [.int v17]) (st := []) hK qd3_68.2.2.1 cv_RX7_187 iv_yX7_wrong (As := []) (kX7_wrong _ d h0 r0_rows r0_line r0_good r0_work a0_kept a0_tried a0_chosen x0_shelf x0_rowSort x0_rowSize x0_rows x0_moved x0_shown x0_tape x0_tapeSize x0_refused x0_lines x0_line x0_changes x0_coins x0_goods x0_good x0_works x0_work x0_years x0_gone x0_spent g4 g5 g6 g7 g8 x0_numbers x0_statements x0_left x0_far x0_tons x0_way x0_steps x0_met x0_queue x0_totals e19) rfl rfl (Nat.le_of_ble_eq_true rfl) (by decide) 0 0 rfl rfl rfl [0] [1] rfl (by decide +kernel) rfl rfl [1, 0] (by decide +kernel) (fun _ => rfl) (fun _ => rfl) rfl rfl rfl (fun _ => rfl) (fun _ => ?_)
        obtain ⟨v20, ev20, hf⟩ := bs hf
        obtain rfl := Option.some.inj hf
        exact J_zret hK hR qd3_68.2.2.2.1 () (zb_ok ev20).2 (by rw [(zb_ok ev20).1]) (by decide) (by decide)
      · have hf := iq hc38 hf
        refine J_aload_n hK qd3_67.2.2.2.2.2.2.2.2.1 rfl 0 rfl rfl ?_
        refine J_aload_n hK qd3_67.2.2.2.2.2.2.2.2.2.1 rfl 1 rfl rfl ?_
        refine J_iconst (v := 0) hK qd3_67.2.2.2.2.2.2.2.2.2.2.1 rfl (by decide) ?_
        obtain ⟨v21, ev21, hf⟩ := bs hf
        refine J_iald hK qd3_67.2.2.2.2.2.2.2.2.2.2.2.1 rfl 1 0 rfl rfl ev21 ?_
        refine J_aload_n hK qd3_67.2.2.2.2.2.2.2.2.2.2.2.2.1 rfl 0 rfl rfl ?_
        refine J_get hK fo_RX7_155 qd3_67.2.2.2.2.2.2.2.2.2.2.2.2.2.1 rfl 0 0 rfl rfl rfl ?_
        refine J_l2i hK qd3_67.2.2.2.2.2.2.2.2.2.2.2.2.2.2.1 rfl ?_
        obtain ⟨v22, e23, hf⟩ := bs hf
        refine J_callV (m := 2) (m' := 2) (ce' := 0) (sl' := 0) (gr := [[cI d b1 m1 g9]]) (gs' := fun _ => [gMd d h0 a0_kept a0_tried a0_chosen r0_rows r0_line r0_good r0_work x0_shelf x0_rowSort x0_rowSize x0_moved x0_shown x0_tape x0_tapeSize x0_refused x0_lines x0_changes x0_coins x0_goods x0_works x0_years x0_gone x0_spent g4 g5 g6 g7 g8 x0_numbers x0_statements x0_left x0_far x0_tons x0_way x0_steps x0_met x0_queue x0_totals, [cI d b1 m1 g9]]) (st' := fun _ => [.int v22]) (st := []) hK qd3_67.2.2.2.2.2.2.2.2.2.2.2.2.2.2.2.1 cv_RX7_133 iv_yX7_mayBeFirst (As := [.int v21, .int ((g7).toInt32)]) (kX7_mayBeFirst _ d h0 r0_rows r0_line r0_good r0_work a0_kept a0_tried a0_chosen x0_shelf x0_rowSort x0_rowSize x0_rows x0_moved x0_shown x0_tape x0_tapeSize x0_refused x0_lines x0_line x0_changes x0_coins x0_goods x0_good x0_works x0_work x0_years x0_gone x0_spent g4 g5 g6 g7 g8 x0_numbers x0_statements x0_left x0_far x0_tons x0_way x0_steps x0_met x0_queue x0_totals v21 ((g7).toInt32) e23) rfl rfl (Nat.le_of_ble_eq_true rfl) (by decide) 0 0 rfl rfl rfl [0] [1] rfl (by decide +kernel) rfl rfl [1, 0] (by decide +kernel) (fun _ => rfl) (fun _ => rfl) rfl rfl rfl (fun _ => rfl) (fun _ => ?_)
        refine J_if_ne (tg := 61) hK qd3_68.1 rfl rfl (fun hc53 => ?_) (fun hc53 => ?_)
        · have hf := iq hc53 hf
          refine J_aload_n hK qd3_68.2.2.2.2.1 rfl 0 rfl rfl ?_
          refine J_aload_n hK qd3_68.2.2.2.2.2.1 rfl 1 rfl rfl ?_
          refine J_iconst (v := 1) hK qd3_68.2.2.2.2.2.2.1 rfl (by decide) ?_
          refine J_iconst (v := 0) hK qd3_68.2.2.2.2.2.2.2.1 rfl (by decide) ?_
          refine J_bipush (v := 99) hK qd3_68.2.2.2.2.2.2.2.2.1 rfl (by decide) ?_
          obtain ⟨⟨v24, ⟨g26, g27, g28, g29, g30⟩, g31⟩, e32, hf⟩ := bs hf
          have hf := un3 hf
          have hf := un5 hf
          refine J_callV (m := 2) (m' := 2) (ce' := 0) (sl' := 0) (gr := []) (gs' := fun _ => [gMd d h0 a0_kept a0_tried a0_chosen r0_rows r0_line r0_good r0_work x0_shelf x0_rowSort x0_rowSize x0_moved x0_shown x0_tape x0_tapeSize x0_refused x0_lines x0_changes x0_coins x0_goods x0_works x0_years x0_gone x0_spent g26 g27 g28 g29 g30 x0_numbers x0_statements x0_left x0_far x0_tons x0_way x0_steps x0_met x0_queue x0_totals, [cI d b1 m1 g31]]) (st' := fun _ => [.int v24]) (st := []) hK qd3_68.2.2.2.2.2.2.2.2.2.1 cv_RX7_198 iv_yX7_number (As := [.ref b1, .int (1), .int (0), .int (99)]) (kX7_number _ d h0 r0_rows r0_line r0_good r0_work a0_kept a0_tried a0_chosen b1 n x0_shelf x0_rowSort x0_rowSize x0_rows x0_moved x0_shown x0_tape x0_tapeSize x0_refused x0_lines x0_line x0_changes x0_coins x0_goods x0_good x0_works x0_work x0_years x0_gone x0_spent g4 g5 g6 g7 g8 x0_numbers x0_statements x0_left x0_far x0_tons x0_way x0_steps x0_met x0_queue x0_totals m1 g9 (1) (0) (99) e32) rfl rfl (Nat.le_of_ble_eq_true rfl) (by decide) 0 0 rfl rfl rfl [0, 1] [] rfl (by decide +kernel) rfl rfl [0, 1] (by decide +kernel) (fun _ => rfl) (fun _ => rfl) rfl rfl rfl (fun _ => rfl) (fun _ => ?_)
          refine J_pop hK qd3_68.2.2.2.2.2.2.2.2.2.2.1 rfl rfl ?_
          refine J_aload_n hK qd3_68.2.2.2.2.2.2.2.2.2.2.2.1 rfl 0 rfl rfl ?_
          refine J_get hK fo_RX7_159 qd3_68.2.2.2.2.2.2.2.2.2.2.2.2.1 rfl 0 0 rfl rfl rfl ?_
          refine J_iconst (v := 2) hK qd3_68.2.2.2.2.2.2.2.2.2.2.2.2.2.1 rfl (by decide) ?_
          refine J_icmp_ne (tg := 111) hK qd3_68.2.2.2.2.2.2.2.2.2.2.2.2.2.2.1 rfl rfl (fun hc76 => ?_) (fun hc76 => ?_)
          · have hf := iq hc76 hf
            refine J_aload_n hK qd3_70.2.1 rfl 0 rfl rfl ?_
            obtain ⟨⟨v33, g34⟩, e35, hf⟩ := bs hf
            have hf := un2 hf
            refine J_callV (m := 2) (m' := 2) (ce' := 0) (sl' := 0) (gr := [[cI d b1 m1 g31]]) (gs' := fun _ => [gMd d h0 a0_kept a0_tried a0_chosen r0_rows r0_line r0_good r0_work x0_shelf x0_rowSort x0_rowSize x0_moved x0_shown x0_tape x0_tapeSize x0_refused x0_lines x0_changes x0_coins x0_goods x0_works x0_years x0_gone x0_spent g26 g27 g28 g29 g34 x0_numbers x0_statements x0_left x0_far x0_tons x0_way x0_steps x0_met x0_queue x0_totals, [cI d b1 m1 g31]]) (st' := fun _ => [.int v33]) (st := []) hK qd3_70.2.2.1 cv_RX7_187 iv_yX7_wrong (As := []) (kX7_wrong _ d h0 r0_rows r0_line r0_good r0_work a0_kept a0_tried a0_chosen x0_shelf x0_rowSort x0_rowSize x0_rows x0_moved x0_shown x0_tape x0_tapeSize x0_refused x0_lines x0_line x0_changes x0_coins x0_goods x0_good x0_works x0_work x0_years x0_gone x0_spent g26 g27 g28 g29 g30 x0_numbers x0_statements x0_left x0_far x0_tons x0_way x0_steps x0_met x0_queue x0_totals e35) rfl rfl (Nat.le_of_ble_eq_true rfl) (by decide) 0 0 rfl rfl rfl [0] [1] rfl (by decide +kernel) rfl rfl [1, 0] (by decide +kernel) (fun _ => rfl) (fun _ => rfl) rfl rfl rfl (fun _ => rfl) (fun _ => ?_)
            obtain ⟨v36, ev36, hf⟩ := bs hf
            obtain rfl := Option.some.inj hf
            exact J_zret hK hR qd3_70.2.2.2.1 () (zb_ok ev36).2 (by rw [(zb_ok ev36).1]) (by decide) (by decide)
          · have hf := ip hc76 hf
            refine J_aload_n hK qd3_68.2.2.2.2.2.2.2.2.2.2.2.2.2.2.2.1 rfl 0 rfl rfl ?_
            refine J_get hK fo_RX7_155 qd3_69.1 rfl 0 0 rfl rfl rfl ?_
            refine J_lconst (v := 0) hK qd3_69.2.1 rfl (by decide) ?_
            refine J_ldc2 (v := (99 : Int64)) hK qd3_69.2.2.1 rfl wk_RX7_123 ?_
            obtain ⟨v37, e38, hf⟩ := bs hf
            refine J_callS (m := 2) (m' := 2) (ce' := 0) (sl' := 0) (gr := [gMd d h0 a0_kept a0_tried a0_chosen r0_rows r0_line r0_good r0_work x0_shelf x0_rowSort x0_rowSize x0_moved x0_shown x0_tape x0_tapeSize x0_refused x0_lines x0_changes x0_coins x0_goods x0_works x0_years x0_gone x0_spent g26 g27 g28 g29 g30 x0_numbers x0_statements x0_left x0_far x0_tons x0_way x0_steps x0_met x0_queue x0_totals, [cI d b1 m1 g31]]) (gs' := fun _ => [gMd d h0 a0_kept a0_tried a0_chosen r0_rows r0_line r0_good r0_work x0_shelf x0_rowSort x0_rowSize x0_moved x0_shown x0_tape x0_tapeSize x0_refused x0_lines x0_changes x0_coins x0_goods x0_works x0_years x0_gone x0_spent g26 g27 g28 g29 g30 x0_numbers x0_statements x0_left x0_far x0_tons x0_way x0_steps x0_met x0_queue x0_totals, [cI d b1 m1 g31]]) (st' := fun _ => [.int v37]) (st := []) hK qd3_69.2.2.2.1 cv_RX7_78 ws_yX7_in (As := [.long g29, .long (0 : Int64), .long (99 : Int64)]) (kX7_in _ d g29 (0 : Int64) (99 : Int64) e38) rfl rfl (Nat.le_of_ble_eq_true rfl) (by decide) [] [0, 1] rfl (by decide +kernel) rfl rfl [0, 1] (by decide +kernel) (fun _ => rfl) (fun _ => rfl) rfl rfl rfl (fun _ => rfl) (fun _ => ?_)
            refine J_if_eq (tg := 111) hK qd3_69.2.2.2.2.1 rfl rfl (fun hc90 => ?_) (fun hc90 => ?_)
            · have hf := ip hc90 hf
              refine J_aload_n hK qd3_70.2.1 rfl 0 rfl rfl ?_
              obtain ⟨⟨v39, g40⟩, e41, hf⟩ := bs hf
              have hf := un2 hf
              refine J_callV (m := 2) (m' := 2) (ce' := 0) (sl' := 0) (gr := [[cI d b1 m1 g31]]) (gs' := fun _ => [gMd d h0 a0_kept a0_tried a0_chosen r0_rows r0_line r0_good r0_work x0_shelf x0_rowSort x0_rowSize x0_moved x0_shown x0_tape x0_tapeSize x0_refused x0_lines x0_changes x0_coins x0_goods x0_works x0_years x0_gone x0_spent g26 g27 g28 g29 g40 x0_numbers x0_statements x0_left x0_far x0_tons x0_way x0_steps x0_met x0_queue x0_totals, [cI d b1 m1 g31]]) (st' := fun _ => [.int v39]) (st := []) hK qd3_70.2.2.1 cv_RX7_187 iv_yX7_wrong (As := []) (kX7_wrong _ d h0 r0_rows r0_line r0_good r0_work a0_kept a0_tried a0_chosen x0_shelf x0_rowSort x0_rowSize x0_rows x0_moved x0_shown x0_tape x0_tapeSize x0_refused x0_lines x0_line x0_changes x0_coins x0_goods x0_good x0_works x0_work x0_years x0_gone x0_spent g26 g27 g28 g29 g30 x0_numbers x0_statements x0_left x0_far x0_tons x0_way x0_steps x0_met x0_queue x0_totals e41) rfl rfl (Nat.le_of_ble_eq_true rfl) (by decide) 0 0 rfl rfl rfl [0] [1] rfl (by decide +kernel) rfl rfl [1, 0] (by decide +kernel) (fun _ => rfl) (fun _ => rfl) rfl rfl rfl (fun _ => rfl) (fun _ => ?_)
              obtain ⟨v42, ev42, hf⟩ := bs hf
              obtain rfl := Option.some.inj hf
              exact J_zret hK hR qd3_70.2.2.2.1 () (zb_ok ev42).2 (by rw [(zb_ok ev42).1]) (by decide) (by decide)
            · have hf := iq hc90 hf
              refine J_aload_n hK qd3_69.2.2.2.2.2.1 rfl 0 rfl rfl ?_
              refine J_aload_n hK qd3_69.2.2.2.2.2.2.1 rfl 1 rfl rfl ?_
              refine J_iconst (v := 0) hK qd3_69.2.2.2.2.2.2.2.1 rfl (by decide) ?_
              obtain ⟨v43, ev43, hf⟩ := bs hf
              refine J_iald hK qd3_69.2.2.2.2.2.2.2.2.1 rfl 1 0 rfl rfl ev43 ?_
              refine J_aload_n hK qd3_69.2.2.2.2.2.2.2.2.2.1 rfl 1 rfl rfl ?_
              refine J_iconst (v := 1) hK qd3_69.2.2.2.2.2.2.2.2.2.2.1 rfl (by decide) ?_
              obtain ⟨v44, ev44, hf⟩ := bs hf
              refine J_iald hK qd3_69.2.2.2.2.2.2.2.2.2.2.2.1 rfl 1 0 rfl rfl ev44 ?_
              refine J_aload_n hK qd3_69.2.2.2.2.2.2.2.2.2.2.2.2.1 rfl 0 rfl rfl ?_
              refine J_get hK fo_RX7_155 qd3_69.2.2.2.2.2.2.2.2.2.2.2.2.2.1 rfl 0 0 rfl rfl rfl ?_
              refine J_l2i hK qd3_69.2.2.2.2.2.2.2.2.2.2.2.2.2.2.1 rfl ?_
              obtain ⟨v45, e46, hf⟩ := bs hf
              refine J_callV (m := 2) (m' := 2) (ce' := 0) (sl' := 0) (gr := [gMd d h0 a0_kept a0_tried a0_chosen r0_rows r0_line r0_good r0_work x0_shelf x0_rowSort x0_rowSize x0_moved x0_shown x0_tape x0_tapeSize x0_refused x0_lines x0_changes x0_coins x0_goods x0_works x0_years x0_gone x0_spent g26 g27 g28 g29 g30 x0_numbers x0_statements x0_left x0_far x0_tons x0_way x0_steps x0_met x0_queue x0_totals, [cI d b1 m1 g31]]) (gs' := fun _ => [gMd d h0 a0_kept a0_tried a0_chosen r0_rows r0_line r0_good r0_work x0_shelf x0_rowSort x0_rowSize x0_moved x0_shown x0_tape x0_tapeSize x0_refused x0_lines x0_changes x0_coins x0_goods x0_works x0_years x0_gone x0_spent g26 g27 g28 g29 g30 x0_numbers x0_statements x0_left x0_far x0_tons x0_way x0_steps x0_met x0_queue x0_totals, [cI d b1 m1 g31]]) (st' := fun _ => [.int v45]) (st := []) hK qd3_69.2.2.2.2.2.2.2.2.2.2.2.2.2.2.2.1 cv_RX7_136 iv_yX7_mayBeSecond (As := [.int v43, .int v44, .int ((g29).toInt32)]) (kX7_mayBeSecond _ d (h0 0) v43 v44 ((g29).toInt32) e46) rfl rfl (Nat.le_of_ble_eq_true rfl) (by decide) 0 0 rfl rfl rfl [] [0, 1] rfl (by decide +kernel) rfl rfl [0, 1] (by decide +kernel) (fun _ => rfl) (fun _ => rfl) rfl rfl rfl (fun _ => rfl) (fun _ => ?_)
              refine J_if_ne (tg := 116) hK qd3_70.1 rfl rfl (fun hc108 => ?_) (fun hc108 => ?_)
              · have hf := iq hc108 hf
                refine J_aload_n hK qd3_70.2.2.2.2.1 rfl 0 rfl rfl ?_
                refine J_aload_n hK qd3_70.2.2.2.2.2.1 rfl 1 rfl rfl ?_
                refine J_iconst (v := 2) hK qd3_70.2.2.2.2.2.2.1 rfl (by decide) ?_
                refine J_iconst (v := 0) hK qd3_70.2.2.2.2.2.2.2.1 rfl (by decide) ?_
                refine J_bipush (v := 99) hK qd3_70.2.2.2.2.2.2.2.2.1 rfl (by decide) ?_
                obtain ⟨⟨v47, ⟨g49, g50, g51, g52, g53⟩, g54⟩, e55, hf⟩ := bs hf
                have hf := un3 hf
                have hf := un5 hf
                refine J_callV (m := 2) (m' := 2) (ce' := 0) (sl' := 0) (gr := []) (gs' := fun _ => [gMd d h0 a0_kept a0_tried a0_chosen r0_rows r0_line r0_good r0_work x0_shelf x0_rowSort x0_rowSize x0_moved x0_shown x0_tape x0_tapeSize x0_refused x0_lines x0_changes x0_coins x0_goods x0_works x0_years x0_gone x0_spent g49 g50 g51 g52 g53 x0_numbers x0_statements x0_left x0_far x0_tons x0_way x0_steps x0_met x0_queue x0_totals, [cI d b1 m1 g54]]) (st' := fun _ => [.int v47]) (st := []) hK qd3_70.2.2.2.2.2.2.2.2.2.1 cv_RX7_198 iv_yX7_number (As := [.ref b1, .int (2), .int (0), .int (99)]) (kX7_number _ d h0 r0_rows r0_line r0_good r0_work a0_kept a0_tried a0_chosen b1 n x0_shelf x0_rowSort x0_rowSize x0_rows x0_moved x0_shown x0_tape x0_tapeSize x0_refused x0_lines x0_line x0_changes x0_coins x0_goods x0_good x0_works x0_work x0_years x0_gone x0_spent g26 g27 g28 g29 g30 x0_numbers x0_statements x0_left x0_far x0_tons x0_way x0_steps x0_met x0_queue x0_totals m1 g31 (2) (0) (99) e55) rfl rfl (Nat.le_of_ble_eq_true rfl) (by decide) 0 0 rfl rfl rfl [0, 1] [] rfl (by decide +kernel) rfl rfl [0, 1] (by decide +kernel) (fun _ => rfl) (fun _ => rfl) rfl rfl rfl (fun _ => rfl) (fun _ => ?_)
                refine J_pop hK qd3_70.2.2.2.2.2.2.2.2.2.2.1 rfl rfl ?_
                refine J_aload_n hK qd3_70.2.2.2.2.2.2.2.2.2.2.2.1 rfl 0 rfl rfl ?_
                refine J_aload_n hK qd3_70.2.2.2.2.2.2.2.2.2.2.2.2.1 rfl 1 rfl rfl ?_
                refine J_iconst (v := 3) hK qd3_70.2.2.2.2.2.2.2.2.2.2.2.2.2.1 rfl (by decide) ?_
                refine J_iconst (v := 0) hK qd3_70.2.2.2.2.2.2.2.2.2.2.2.2.2.2.1 rfl (by decide) ?_
                refine J_sipush (v := 999) hK qd3_70.2.2.2.2.2.2.2.2.2.2.2.2.2.2.2.1 rfl (by decide) ?_
                obtain ⟨⟨v56, ⟨g58, g59, g60, g61, g62⟩, g63⟩, e64, hf⟩ := bs hf
                have hf := un3 hf
                have hf := un5 hf
                refine J_callV (m := 2) (m' := 2) (ce' := 0) (sl' := 0) (gr := []) (gs' := fun _ => [gMd d h0 a0_kept a0_tried a0_chosen r0_rows r0_line r0_good r0_work x0_shelf x0_rowSort x0_rowSize x0_moved x0_shown x0_tape x0_tapeSize x0_refused x0_lines x0_changes x0_coins x0_goods x0_works x0_years x0_gone x0_spent g58 g59 g60 g61 g62 x0_numbers x0_statements x0_left x0_far x0_tons x0_way x0_steps x0_met x0_queue x0_totals, [cI d b1 m1 g63]]) (st' := fun _ => [.int v56]) (st := []) hK qd3_71.1 cv_RX7_198 iv_yX7_number (As := [.ref b1, .int (3), .int (0), .int (999)]) (kX7_number _ d h0 r0_rows r0_line r0_good r0_work a0_kept a0_tried a0_chosen b1 n x0_shelf x0_rowSort x0_rowSize x0_rows x0_moved x0_shown x0_tape x0_tapeSize x0_refused x0_lines x0_line x0_changes x0_coins x0_goods x0_good x0_works x0_work x0_years x0_gone x0_spent g49 g50 g51 g52 g53 x0_numbers x0_statements x0_left x0_far x0_tons x0_way x0_steps x0_met x0_queue x0_totals m1 g54 (3) (0) (999) e64) rfl rfl (Nat.le_of_ble_eq_true rfl) (by decide) 0 0 rfl rfl rfl [0, 1] [] rfl (by decide +kernel) rfl rfl [0, 1] (by decide +kernel) (fun _ => rfl) (fun _ => rfl) rfl rfl rfl (fun _ => rfl) (fun _ => ?_)
                refine J_if_ne (tg := 141) hK qd3_71.2.1 rfl rfl (fun hc136 => ?_) (fun hc136 => ?_)
                · have hf := iq hc136 hf
                  refine J_aload_n hK qd3_71.2.2.2.2.1 rfl 0 rfl rfl ?_
                  refine J_dup hK qd3_71.2.2.2.2.2.1 rfl rfl ?_
                  refine J_get hK fo_RX7_85 qd3_71.2.2.2.2.2.2.1 rfl 0 0 rfl rfl rfl ?_
                  refine J_iconst (v := 1) hK qd3_71.2.2.2.2.2.2.2.1 rfl (by decide) ?_
                  refine J_iadd hK qd3_71.2.2.2.2.2.2.2.2.1 rfl ?_
                  refine J_put (g' := gMd d h0 a0_kept a0_tried a0_chosen r0_rows r0_line r0_good r0_work x0_shelf x0_rowSort x0_rowSize x0_moved x0_shown x0_tape x0_tapeSize x0_refused x0_lines x0_changes x0_coins x0_goods (x0_works + 1) x0_years x0_gone x0_spent g58 g59 g60 g61 g62 x0_numbers x0_statements x0_left x0_far x0_tons x0_way x0_steps x0_met x0_queue x0_totals) (gs' := [gMd d h0 a0_kept a0_tried a0_chosen r0_rows r0_line r0_good r0_work x0_shelf x0_rowSort x0_rowSize x0_moved x0_shown x0_tape x0_tapeSize x0_refused x0_lines x0_changes x0_coins x0_goods (x0_works + 1) x0_years x0_gone x0_spent g58 g59 g60 g61 g62 x0_numbers x0_statements x0_left x0_far x0_tons x0_way x0_steps x0_met x0_queue x0_totals, [cI d b1 m1 g63]]) hK fp_RX7_85 qd3_71.2.2.2.2.2.2.2.2.2.1 rfl 0 0 rfl rfl rfl rfl (Nat.le_of_ble_eq_true rfl) rfl rfl ?_
                  refine J_iconst (v := 1) hK qd3_71.2.2.2.2.2.2.2.2.2.2.1 rfl (by decide) ?_
                  obtain rfl := Option.some.inj hf
                  exact J_zret hK hR qd3_71.2.2.2.2.2.2.2.2.2.2.2.1 () rfl rfl (by decide) (by decide)
                · have hf := ip hc136 hf
                  refine J_iconst (v := 0) hK qd3_71.2.2.1 rfl (by decide) ?_
                  obtain rfl := Option.some.inj hf
                  exact J_zret hK hR qd3_71.2.2.2.1 () rfl rfl (by decide) (by decide)
              · have hf := ip hc108 hf
                refine J_aload_n hK qd3_70.2.1 rfl 0 rfl rfl ?_
                obtain ⟨⟨v65, g66⟩, e67, hf⟩ := bs hf
                have hf := un2 hf
                refine J_callV (m := 2) (m' := 2) (ce' := 0) (sl' := 0) (gr := [[cI d b1 m1 g31]]) (gs' := fun _ => [gMd d h0 a0_kept a0_tried a0_chosen r0_rows r0_line r0_good r0_work x0_shelf x0_rowSort x0_rowSize x0_moved x0_shown x0_tape x0_tapeSize x0_refused x0_lines x0_changes x0_coins x0_goods x0_works x0_years x0_gone x0_spent g26 g27 g28 g29 g66 x0_numbers x0_statements x0_left x0_far x0_tons x0_way x0_steps x0_met x0_queue x0_totals, [cI d b1 m1 g31]]) (st' := fun _ => [.int v65]) (st := []) hK qd3_70.2.2.1 cv_RX7_187 iv_yX7_wrong (As := []) (kX7_wrong _ d h0 r0_rows r0_line r0_good r0_work a0_kept a0_tried a0_chosen x0_shelf x0_rowSort x0_rowSize x0_rows x0_moved x0_shown x0_tape x0_tapeSize x0_refused x0_lines x0_line x0_changes x0_coins x0_goods x0_good x0_works x0_work x0_years x0_gone x0_spent g26 g27 g28 g29 g30 x0_numbers x0_statements x0_left x0_far x0_tons x0_way x0_steps x0_met x0_queue x0_totals e67) rfl rfl (Nat.le_of_ble_eq_true rfl) (by decide) 0 0 rfl rfl rfl [0] [1] rfl (by decide +kernel) rfl rfl [1, 0] (by decide +kernel) (fun _ => rfl) (fun _ => rfl) rfl rfl rfl (fun _ => rfl) (fun _ => ?_)
                obtain ⟨v68, ev68, hf⟩ := bs hf
                obtain rfl := Option.some.inj hf
                exact J_zret hK hR qd3_70.2.2.2.1 () (zb_ok ev68).2 (by rw [(zb_ok ev68).1]) (by decide) (by decide)
        · have hf := ip hc53 hf
          refine J_aload_n hK qd3_68.2.1 rfl 0 rfl rfl ?_
          obtain ⟨⟨v69, g70⟩, e71, hf⟩ := bs hf
          have hf := un2 hf
          refine J_callV (m := 2) (m' := 2) (ce' := 0) (sl' := 0) (gr := [[cI d b1 m1 g9]]) (gs' := fun _ => [gMd d h0 a0_kept a0_tried a0_chosen r0_rows r0_line r0_good r0_work x0_shelf x0_rowSort x0_rowSize x0_moved x0_shown x0_tape x0_tapeSize x0_refused x0_lines x0_changes x0_coins x0_goods x0_works x0_years x0_gone x0_spent g4 g5 g6 g7 g70 x0_numbers x0_statements x0_left x0_far x0_tons x0_way x0_steps x0_met x0_queue x0_totals, [cI d b1 m1 g9]]) (st' := fun _ => [.int v69]) (st := []) hK qd3_68.2.2.1 cv_RX7_187 iv_yX7_wrong (As := []) (kX7_wrong _ d h0 r0_rows r0_line r0_good r0_work a0_kept a0_tried a0_chosen x0_shelf x0_rowSort x0_rowSize x0_rows x0_moved x0_shown x0_tape x0_tapeSize x0_refused x0_lines x0_line x0_changes x0_coins x0_goods x0_good x0_works x0_work x0_years x0_gone x0_spent g4 g5 g6 g7 g8 x0_numbers x0_statements x0_left x0_far x0_tons x0_way x0_steps x0_met x0_queue x0_totals e71) rfl rfl (Nat.le_of_ble_eq_true rfl) (by decide) 0 0 rfl rfl rfl [0] [1] rfl (by decide +kernel) rfl rfl [1, 0] (by decide +kernel) (fun _ => rfl) (fun _ => rfl) rfl rfl rfl (fun _ => rfl) (fun _ => ?_)
          obtain ⟨v72, ev72, hf⟩ := bs hf
          obtain rfl := Option.some.inj hf
          exact J_zret hK hR qd3_68.2.2.2.1 () (zb_ok ev72).2 (by rw [(zb_ok ev72).1]) (by decide) (by decide)
  · have hf := ip hc14 hf
    refine J_iconst (v := 0) hK qd3_66.2.2.2.2.2.2.2.2.2.2.2.2.1 rfl (by decide) ?_
    obtain rfl := Option.some.inj hf
    exact J_zret hK hR qd3_66.2.2.2.2.2.2.2.2.2.2.2.2.2.1 () rfl rfl (by decide) (by decide)
end

section
def fX7_numberN (n : Nat) (X0 : MdT) (p2 : Int32) (p3 : Int32) (p4 : Int32) : Option (Int32 × (Int32 × Int32 × Int32 × Int64 × Int32 × (Nat → Int32))) :=
  u35 (fun (x0_shelf : (Nat → Int32)) (x0_rowSort : (Nat → Int32)) (x0_rowSize : (Nat → Int32)) (x0_rows : (Nat → Nat → Int64)) (x0_moved : (Nat → Int64)) (x0_shown : (Nat → Int32)) (x0_tape : (Nat → Int32)) (x0_tapeSize : Int32) (x0_refused : (Nat → Int32)) (x0_lines : Int32) (x0_line : (Nat → Nat → Int32)) (x0_changes : (Nat → Int32)) (x0_coins : (Nat → Int32)) (x0_goods : Int32) (x0_good : (Nat → Nat → Int32)) (x0_works : Int32) (x0_work : (Nat → Nat → Int32)) (x0_years : Int32) (x0_gone : Int32) (x0_spent : Int32) (x0_at : Int32) (x0_token : Int32) (x0_from : Int32) (x0_figures : Int64) (x0_fault : Int32) (x0_numbers : (Nat → Int32)) (x0_statements : Int32) (x0_left : (Nat → Int32)) (x0_far : (Nat → Int32)) (x0_tons : Int32) (x0_way : (Nat → Int32)) (x0_steps : Int32) (x0_met : Int64) (x0_queue : (Nat → Int32)) (x0_totals : (Nat → Int32)) => if x0_token = 2 then ((fX7_in x0_figures ((p3).toInt64) ((p4).toInt64)).bind (fun v5 => if v5 = 0 then ((fX7_wrong (x0_shelf, x0_rowSort, x0_rowSize, x0_rows, x0_moved, x0_shown, x0_tape, x0_tapeSize, x0_refused, x0_lines, x0_line, x0_changes, x0_coins, x0_goods, x0_good, x0_works, x0_work, x0_years, x0_gone, x0_spent, x0_at, x0_token, x0_from, x0_figures, x0_fault, x0_numbers, x0_statements, x0_left, x0_far, x0_tons, x0_way, x0_steps, x0_met, x0_queue, x0_totals)).bind (u2 fun v13 g14 => (zb v13).bind fun v16 => some (v16, (x0_at, x0_token, x0_from, x0_figures, g14, x0_numbers)))) else ((wr 2 x0_numbers p2 ((x0_figures).toInt32)).bind fun f7 => (fX7_look n (x0_shelf, x0_rowSort, x0_rowSize, x0_rows, x0_moved, x0_shown, x0_tape, x0_tapeSize, x0_refused, x0_lines, x0_line, x0_changes, x0_coins, x0_goods, x0_good, x0_works, x0_work, x0_years, x0_gone, x0_spent, x0_at, x0_token, x0_from, x0_figures, x0_fault, f7, x0_statements, x0_left, x0_far, x0_tons, x0_way, x0_steps, x0_met, x0_queue, x0_totals)).bind (u4 fun g8 g9 g10 g11 => some (1, (g8, g9, g10, g11, x0_fault, f7)))))) else ((fX7_wrong (x0_shelf, x0_rowSort, x0_rowSize, x0_rows, x0_moved, x0_shown, x0_tape, x0_tapeSize, x0_refused, x0_lines, x0_line, x0_changes, x0_coins, x0_goods, x0_good, x0_works, x0_work, x0_years, x0_gone, x0_spent, x0_at, x0_token, x0_from, x0_figures, x0_fault, x0_numbers, x0_statements, x0_left, x0_far, x0_tons, x0_way, x0_steps, x0_met, x0_queue, x0_totals)).bind (u2 fun v1 g2 => (zb v1).bind fun v4 => some (v4, (x0_at, x0_token, x0_from, x0_figures, g2, x0_numbers))))) X0
set_option maxHeartbeats 4000000 in
set_option maxRecDepth 100000 in
theorem kX7_numberN (l : Launch) (d : DT) (h0 : Nat → Nat) (r0_rows : Nat → Nat) (r0_line : Nat → Nat) (r0_good : Nat → Nat) (r0_work : Nat → Nat) (a0_kept : Option Nat) (a0_tried : Option Nat) (a0_chosen : Option Nat) (n : Nat) (x0_shelf : (Nat → Int32)) (x0_rowSort : (Nat → Int32)) (x0_rowSize : (Nat → Int32)) (x0_rows : (Nat → Nat → Int64)) (x0_moved : (Nat → Int64)) (x0_shown : (Nat → Int32)) (x0_tape : (Nat → Int32)) (x0_tapeSize : Int32) (x0_refused : (Nat → Int32)) (x0_lines : Int32) (x0_line : (Nat → Nat → Int32)) (x0_changes : (Nat → Int32)) (x0_coins : (Nat → Int32)) (x0_goods : Int32) (x0_good : (Nat → Nat → Int32)) (x0_works : Int32) (x0_work : (Nat → Nat → Int32)) (x0_years : Int32) (x0_gone : Int32) (x0_spent : Int32) (x0_at : Int32) (x0_token : Int32) (x0_from : Int32) (x0_figures : Int64) (x0_fault : Int32) (x0_numbers : (Nat → Int32)) (x0_statements : Int32) (x0_left : (Nat → Int32)) (x0_far : (Nat → Int32)) (x0_tons : Int32) (x0_way : (Nat → Int32)) (x0_steps : Int32) (x0_met : Int64) (x0_queue : (Nat → Int32)) (x0_totals : (Nat → Int32)) (p2 : Int32) (p3 : Int32) (p4 : Int32)  {out : Int32 × (Int32 × Int32 × Int32 × Int64 × Int32 × (Nat → Int32))} (hf : fX7_numberN n (x0_shelf, x0_rowSort, x0_rowSize, x0_rows, x0_moved, x0_shown, x0_tape, x0_tapeSize, x0_refused, x0_lines, x0_line, x0_changes, x0_coins, x0_goods, x0_good, x0_works, x0_work, x0_years, x0_gone, x0_spent, x0_at, x0_token, x0_from, x0_figures, x0_fault, x0_numbers, x0_statements, x0_left, x0_far, x0_tons, x0_way, x0_steps, x0_met, x0_queue, x0_totals) p2 p3 p4 = some out) : Ct l d yX7_number cX7_number 5 (some .boolean) { frames := 2, cells := 0, slots := 0, locals := 40 } [.ref (h0 0), .ref (h0 14), .int p2, .int p3, .int p4] [gMd d h0 a0_kept a0_tried a0_chosen r0_rows r0_line r0_good r0_work x0_shelf x0_rowSort x0_rowSize x0_moved x0_shown x0_tape x0_tapeSize x0_refused x0_lines x0_changes x0_coins x0_goods x0_works x0_years x0_gone x0_spent x0_at x0_token x0_from x0_figures x0_fault x0_numbers x0_statements x0_left x0_far x0_tons x0_way x0_steps x0_met x0_queue x0_totals] (fun _ : Unit => (some (.int out.1), [gMd d h0 a0_kept a0_tried a0_chosen r0_rows r0_line r0_good r0_work x0_shelf x0_rowSort x0_rowSize x0_moved x0_shown x0_tape x0_tapeSize x0_refused x0_lines x0_changes x0_coins x0_goods x0_works x0_years x0_gone x0_spent (out.2.1) (out.2.2.1) (out.2.2.2.1) (out.2.2.2.2.1) (out.2.2.2.2.2.1) (out.2.2.2.2.2.2) x0_statements x0_left x0_far x0_tons x0_way x0_steps x0_met x0_queue x0_totals])) := by
  refine Ct.of (by decide) (Nat.le_of_ble_eq_true rfl) ?_
  intro Φ hl hK hR
  subst hl
  have hK : Ok d Φ RX7 "number" cX7_number 5 (some .boolean) { frames := 2, cells := 0, slots := 0, locals := 40 } := hK
  unfold fX7_numberN at hf
  have hf := un35 hf
  show J d Φ 5 [gMd d h0 a0_kept a0_tried a0_chosen r0_rows r0_line r0_good r0_work x0_shelf x0_rowSort x0_rowSize x0_moved x0_shown x0_tape x0_tapeSize x0_refused x0_lines x0_changes x0_coins x0_goods x0_works x0_years x0_gone x0_spent x0_at x0_token x0_from x0_figures x0_fault x0_numbers x0_statements x0_left x0_far x0_tons x0_way x0_steps x0_met x0_queue x0_totals] 0 0 0 [(0, .ref (h0 0)), (1, .ref (h0 14)), (2, .int p2), (3, .int p3), (4, .int p4)] []
  refine J_aload_n hK qd3_46.1 rfl 0 rfl rfl ?_
  refine J_get hK fo_RX7_159 qd3_46.2.1 rfl 0 0 rfl rfl rfl ?_
  refine J_iconst (v := 2) hK qd3_46.2.2.1 rfl (by decide) ?_
  refine J_icmp_ne (tg := 23) hK qd3_46.2.2.2.1 rfl rfl (fun hc5 => ?_) (fun hc5 => ?_)
  · have hf := iq hc5 hf
    refine J_aload_n hK qd3_46.2.2.2.2.2.2.2.2.2.2.2.2.1 rfl 0 rfl rfl ?_
    obtain ⟨⟨v1, g2⟩, e3, hf⟩ := bs hf
    have hf := un2 hf
    refine J_callV (m := 1) (m' := 1) (ce' := 0) (sl' := 0) (gr := []) (gs' := fun _ => [gMd d h0 a0_kept a0_tried a0_chosen r0_rows r0_line r0_good r0_work x0_shelf x0_rowSort x0_rowSize x0_moved x0_shown x0_tape x0_tapeSize x0_refused x0_lines x0_changes x0_coins x0_goods x0_works x0_years x0_gone x0_spent x0_at x0_token x0_from x0_figures g2 x0_numbers x0_statements x0_left x0_far x0_tons x0_way x0_steps x0_met x0_queue x0_totals]) (st' := fun _ => [.int v1]) (st := []) hK qd3_46.2.2.2.2.2.2.2.2.2.2.2.2.2.1 cv_RX7_187 iv_yX7_wrong (As := []) (kX7_wrong _ d h0 r0_rows r0_line r0_good r0_work a0_kept a0_tried a0_chosen x0_shelf x0_rowSort x0_rowSize x0_rows x0_moved x0_shown x0_tape x0_tapeSize x0_refused x0_lines x0_line x0_changes x0_coins x0_goods x0_good x0_works x0_work x0_years x0_gone x0_spent x0_at x0_token x0_from x0_figures x0_fault x0_numbers x0_statements x0_left x0_far x0_tons x0_way x0_steps x0_met x0_queue x0_totals e3) rfl rfl (Nat.le_of_ble_eq_true rfl) (by decide) 0 0 rfl rfl rfl [0] [] rfl (by decide +kernel) rfl rfl [0] (by decide +kernel) (fun _ => rfl) (fun _ => rfl) rfl rfl rfl (fun _ => rfl) (fun _ => ?_)
    obtain ⟨v4, ev4, hf⟩ := bs hf
    obtain rfl := Option.some.inj hf
    exact J_zret hK hR qd3_46.2.2.2.2.2.2.2.2.2.2.2.2.2.2.1 () (zb_ok ev4).2 (by rw [(zb_ok ev4).1]) (by decide) (by decide)
  · have hf := ip hc5 hf
    refine J_aload_n hK qd3_46.2.2.2.2.1 rfl 0 rfl rfl ?_
    refine J_get hK fo_RX7_155 qd3_46.2.2.2.2.2.1 rfl 0 0 rfl rfl rfl ?_
    refine J_iload_n hK qd3_46.2.2.2.2.2.2.1 rfl 3 rfl rfl ?_
    refine J_i2l hK qd3_46.2.2.2.2.2.2.2.1 rfl ?_
    refine J_iload hK qd3_46.2.2.2.2.2.2.2.2.1 rfl 4 rfl ?_
    refine J_i2l hK qd3_46.2.2.2.2.2.2.2.2.2.1 rfl ?_
    obtain ⟨v5, e6, hf⟩ := bs hf
    refine J_callS (m := 1) (m' := 1) (ce' := 0) (sl' := 0) (gr := [gMd d h0 a0_kept a0_tried a0_chosen r0_rows r0_line r0_good r0_work x0_shelf x0_rowSort x0_rowSize x0_moved x0_shown x0_tape x0_tapeSize x0_refused x0_lines x0_changes x0_coins x0_goods x0_works x0_years x0_gone x0_spent x0_at x0_token x0_from x0_figures x0_fault x0_numbers x0_statements x0_left x0_far x0_tons x0_way x0_steps x0_met x0_queue x0_totals]) (gs' := fun _ => [gMd d h0 a0_kept a0_tried a0_chosen r0_rows r0_line r0_good r0_work x0_shelf x0_rowSort x0_rowSize x0_moved x0_shown x0_tape x0_tapeSize x0_refused x0_lines x0_changes x0_coins x0_goods x0_works x0_years x0_gone x0_spent x0_at x0_token x0_from x0_figures x0_fault x0_numbers x0_statements x0_left x0_far x0_tons x0_way x0_steps x0_met x0_queue x0_totals]) (st' := fun _ => [.int v5]) (st := []) hK qd3_46.2.2.2.2.2.2.2.2.2.2.1 cv_RX7_78 ws_yX7_in (As := [.long x0_figures, .long ((p3).toInt64), .long ((p4).toInt64)]) (kX7_in _ d x0_figures ((p3).toInt64) ((p4).toInt64) e6) rfl rfl (Nat.le_of_ble_eq_true rfl) (by decide) [] [0] rfl (by decide +kernel) rfl rfl [0] (by decide +kernel) (fun _ => rfl) (fun _ => rfl) rfl rfl rfl (fun _ => rfl) (fun _ => ?_)
    refine J_if_ne (tg := 28) hK qd3_46.2.2.2.2.2.2.2.2.2.2.2.1 rfl rfl (fun hc20 => ?_) (fun hc20 => ?_)
    · have hf := iq hc20 hf
      refine J_aload_n hK qd3_46.2.2.2.2.2.2.2.2.2.2.2.2.2.2.2.1 rfl 1 rfl rfl ?_
      refine J_iload_n hK qd3_47.1 rfl 2 rfl rfl ?_
      refine J_aload_n hK qd3_47.2.1 rfl 0 rfl rfl ?_
      refine J_get hK fo_RX7_155 qd3_47.2.2.1 rfl 0 0 rfl rfl rfl ?_
      refine J_l2i hK qd3_47.2.2.2.1 rfl ?_
      obtain ⟨f7, ef7, hf⟩ := bs hf
      refine J_iast (g' := gMd d h0 a0_kept a0_tried a0_chosen r0_rows r0_line r0_good r0_work x0_shelf x0_rowSort x0_rowSize x0_moved x0_shown x0_tape x0_tapeSize x0_refused x0_lines x0_changes x0_coins x0_goods x0_works x0_years x0_gone x0_spent x0_at x0_token x0_from x0_figures x0_fault f7 x0_statements x0_left x0_far x0_tons x0_way x0_steps x0_met x0_queue x0_totals) (gs' := [gMd d h0 a0_kept a0_tried a0_chosen r0_rows r0_line r0_good r0_work x0_shelf x0_rowSort x0_rowSize x0_moved x0_shown x0_tape x0_tapeSize x0_refused x0_lines x0_changes x0_coins x0_goods x0_works x0_years x0_gone x0_spent x0_at x0_token x0_from x0_figures x0_fault f7 x0_statements x0_left x0_far x0_tons x0_way x0_steps x0_met x0_queue x0_totals]) hK qd3_47.2.2.2.2.1 rfl 0 14 rfl rfl ef7 rfl rfl ?_
      refine J_aload_n hK qd3_47.2.2.2.2.2.1 rfl 0 rfl rfl ?_
      obtain ⟨⟨g8, g9, g10, g11⟩, e12, hf⟩ := bs hf
      have hf := un4 hf
      refine J_callV (m := 1) (m' := 1) (ce' := 0) (sl' := 0) (gr := []) (gs' := fun _ => [gMd d h0 a0_kept a0_tried a0_chosen r0_rows r0_line r0_good r0_work x0_shelf x0_rowSort x0_rowSize x0_moved x0_shown x0_tape x0_tapeSize x0_refused x0_lines x0_changes x0_coins x0_goods x0_works x0_years x0_gone x0_spent g8 g9 g10 g11 x0_fault f7 x0_statements x0_left x0_far x0_tons x0_way x0_steps x0_met x0_queue x0_totals]) (st' := fun _ => []) (st := []) hK qd3_47.2.2.2.2.2.2.1 cv_RX7_191 iv_yX7_look (As := []) (kX7_look _ d h0 r0_rows r0_line r0_good r0_work a0_kept a0_tried a0_chosen n x0_shelf x0_rowSort x0_rowSize x0_rows x0_moved x0_shown x0_tape x0_tapeSize x0_refused x0_lines x0_line x0_changes x0_coins x0_goods x0_good x0_works x0_work x0_years x0_gone x0_spent x0_at x0_token x0_from x0_figures x0_fault f7 x0_statements x0_left x0_far x0_tons x0_way x0_steps x0_met x0_queue x0_totals e12) rfl rfl (Nat.le_of_ble_eq_true rfl) (by decide) 0 0 rfl rfl rfl [0] [] rfl (by decide +kernel) rfl rfl [0] (by decide +kernel) (fun _ => rfl) (fun _ => rfl) rfl rfl rfl (fun _ => rfl) (fun _ => ?_)
      refine J_iconst (v := 1) hK qd3_47.2.2.2.2.2.2.2.1 rfl (by decide) ?_
      obtain rfl := Option.some.inj hf
      exact J_zret hK hR qd3_47.2.2.2.2.2.2.2.2.1 () rfl rfl (by decide) (by decide)
    · have hf := ip hc20 hf
      refine J_aload_n hK qd3_46.2.2.2.2.2.2.2.2.2.2.2.2.1 rfl 0 rfl rfl ?_
      obtain ⟨⟨v13, g14⟩, e15, hf⟩ := bs hf
      have hf := un2 hf
      refine J_callV (m := 1) (m' := 1) (ce' := 0) (sl' := 0) (gr := []) (gs' := fun _ => [gMd d h0 a0_kept a0_tried a0_chosen r0_rows r0_line r0_good r0_work x0_shelf x0_rowSort x0_rowSize x0_moved x0_shown x0_tape x0_tapeSize x0_refused x0_lines x0_changes x0_coins x0_goods x0_works x0_years x0_gone x0_spent x0_at x0_token x0_from x0_figures g14 x0_numbers x0_statements x0_left x0_far x0_tons x0_way x0_steps x0_met x0_queue x0_totals]) (st' := fun _ => [.int v13]) (st := []) hK qd3_46.2.2.2.2.2.2.2.2.2.2.2.2.2.1 cv_RX7_187 iv_yX7_wrong (As := []) (kX7_wrong _ d h0 r0_rows r0_line r0_good r0_work a0_kept a0_tried a0_chosen x0_shelf x0_rowSort x0_rowSize x0_rows x0_moved x0_shown x0_tape x0_tapeSize x0_refused x0_lines x0_line x0_changes x0_coins x0_goods x0_good x0_works x0_work x0_years x0_gone x0_spent x0_at x0_token x0_from x0_figures x0_fault x0_numbers x0_statements x0_left x0_far x0_tons x0_way x0_steps x0_met x0_queue x0_totals e15) rfl rfl (Nat.le_of_ble_eq_true rfl) (by decide) 0 0 rfl rfl rfl [0] [] rfl (by decide +kernel) rfl rfl [0] (by decide +kernel) (fun _ => rfl) (fun _ => rfl) rfl rfl rfl (fun _ => rfl) (fun _ => ?_)
      obtain ⟨v16, ev16, hf⟩ := bs hf
      obtain rfl := Option.some.inj hf
      exact J_zret hK hR qd3_46.2.2.2.2.2.2.2.2.2.2.2.2.2.2.1 () (zb_ok ev16).2 (by rw [(zb_ok ev16).1]) (by decide) (by decide)

def fX7_toldN (n : Nat) (X0 : MdT) (p1 : Nat) (p3 : Int32) (p4 : Int32) (p5 : Int32) : Option (Int32 × (Int32 × Int32 × Int32 × Int64 × Int32 × (Nat → Int32))) :=
  u35 (fun (x0_shelf : (Nat → Int32)) (x0_rowSort : (Nat → Int32)) (x0_rowSize : (Nat → Int32)) (x0_rows : (Nat → Nat → Int64)) (x0_moved : (Nat → Int64)) (x0_shown : (Nat → Int32)) (x0_tape : (Nat → Int32)) (x0_tapeSize : Int32) (x0_refused : (Nat → Int32)) (x0_lines : Int32) (x0_line : (Nat → Nat → Int32)) (x0_changes : (Nat → Int32)) (x0_coins : (Nat → Int32)) (x0_goods : Int32) (x0_good : (Nat → Nat → Int32)) (x0_works : Int32) (x0_work : (Nat → Nat → Int32)) (x0_years : Int32) (x0_gone : Int32) (x0_spent : Int32) (x0_at : Int32) (x0_token : Int32) (x0_from : Int32) (x0_figures : Int64) (x0_fault : Int32) (x0_numbers : (Nat → Int32)) (x0_statements : Int32) (x0_left : (Nat → Int32)) (x0_far : (Nat → Int32)) (x0_tons : Int32) (x0_way : (Nat → Int32)) (x0_steps : Int32) (x0_met : Int64) (x0_queue : (Nat → Int32)) (x0_totals : (Nat → Int32)) => (fX7_isWord n (x0_shelf, x0_rowSort, x0_rowSize, x0_rows, x0_moved, x0_shown, x0_tape, x0_tapeSize, x0_refused, x0_lines, x0_line, x0_changes, x0_coins, x0_goods, x0_good, x0_works, x0_work, x0_years, x0_gone, x0_spent, x0_at, x0_token, x0_from, x0_figures, x0_fault, x0_numbers, x0_statements, x0_left, x0_far, x0_tons, x0_way, x0_steps, x0_met, x0_queue, x0_totals) p1).bind (fun v1 => if v1 = 0 then ((fX7_wrong (x0_shelf, x0_rowSort, x0_rowSize, x0_rows, x0_moved, x0_shown, x0_tape, x0_tapeSize, x0_refused, x0_lines, x0_line, x0_changes, x0_coins, x0_goods, x0_good, x0_works, x0_work, x0_years, x0_gone, x0_spent, x0_at, x0_token, x0_from, x0_figures, x0_fault, x0_numbers, x0_statements, x0_left, x0_far, x0_tons, x0_way, x0_steps, x0_met, x0_queue, x0_totals)).bind (u2 fun v18 g19 => (zb v18).bind fun v21 => some (v21, (x0_at, x0_token, x0_from, x0_figures, g19, x0_numbers)))) else ((fX7_look n (x0_shelf, x0_rowSort, x0_rowSize, x0_rows, x0_moved, x0_shown, x0_tape, x0_tapeSize, x0_refused, x0_lines, x0_line, x0_changes, x0_coins, x0_goods, x0_good, x0_works, x0_work, x0_years, x0_gone, x0_spent, x0_at, x0_token, x0_from, x0_figures, x0_fault, x0_numbers, x0_statements, x0_left, x0_far, x0_tons, x0_way, x0_steps, x0_met, x0_queue, x0_totals)).bind (u4 fun g3 g4 g5 g6 => (fX7_numberN n (x0_shelf, x0_rowSort, x0_rowSize, x0_rows, x0_moved, x0_shown, x0_tape, x0_tapeSize, x0_refused, x0_lines, x0_line, x0_changes, x0_coins, x0_goods, x0_good, x0_works, x0_work, x0_years, x0_gone, x0_spent, g3, g4, g5, g6, x0_fault, x0_numbers, x0_statements, x0_left, x0_far, x0_tons, x0_way, x0_steps, x0_met, x0_queue, x0_totals) p3 p4 p5).bind (u2 fun v8 G9 => u6 (fun g10 g11 g12 g13 g14 g15 => (zb v8).bind fun v17 => some (v17, (g10, g11, g12, g13, g14, g15))) G9))))) X0
set_option maxHeartbeats 4000000 in
set_option maxRecDepth 100000 in
theorem kX7_toldN (l : Launch) (d : DT) (h0 : Nat → Nat) (r0_rows : Nat → Nat) (r0_line : Nat → Nat) (r0_good : Nat → Nat) (r0_work : Nat → Nat) (a0_kept : Option Nat) (a0_tried : Option Nat) (a0_chosen : Option Nat) (n : Nat) (x0_shelf : (Nat → Int32)) (x0_rowSort : (Nat → Int32)) (x0_rowSize : (Nat → Int32)) (x0_rows : (Nat → Nat → Int64)) (x0_moved : (Nat → Int64)) (x0_shown : (Nat → Int32)) (x0_tape : (Nat → Int32)) (x0_tapeSize : Int32) (x0_refused : (Nat → Int32)) (x0_lines : Int32) (x0_line : (Nat → Nat → Int32)) (x0_changes : (Nat → Int32)) (x0_coins : (Nat → Int32)) (x0_goods : Int32) (x0_good : (Nat → Nat → Int32)) (x0_works : Int32) (x0_work : (Nat → Nat → Int32)) (x0_years : Int32) (x0_gone : Int32) (x0_spent : Int32) (x0_at : Int32) (x0_token : Int32) (x0_from : Int32) (x0_figures : Int64) (x0_fault : Int32) (x0_numbers : (Nat → Int32)) (x0_statements : Int32) (x0_left : (Nat → Int32)) (x0_far : (Nat → Int32)) (x0_tons : Int32) (x0_way : (Nat → Int32)) (x0_steps : Int32) (x0_met : Int64) (x0_queue : (Nat → Int32)) (x0_totals : (Nat → Int32)) (p1 : Nat) (p3 : Int32) (p4 : Int32) (p5 : Int32)  {out : Int32 × (Int32 × Int32 × Int32 × Int64 × Int32 × (Nat → Int32))} (hf : fX7_toldN n (x0_shelf, x0_rowSort, x0_rowSize, x0_rows, x0_moved, x0_shown, x0_tape, x0_tapeSize, x0_refused, x0_lines, x0_line, x0_changes, x0_coins, x0_goods, x0_good, x0_works, x0_work, x0_years, x0_gone, x0_spent, x0_at, x0_token, x0_from, x0_figures, x0_fault, x0_numbers, x0_statements, x0_left, x0_far, x0_tons, x0_way, x0_steps, x0_met, x0_queue, x0_totals) p1 p3 p4 p5 = some out) : Ct l d yX7_told cX7_told 6 (some .boolean) { frames := 5, cells := 0, slots := 0, locals := 107 } [.ref (h0 0), .ref (d.2.2.2.1 p1), .ref (h0 14), .int p3, .int p4, .int p5] [gMd d h0 a0_kept a0_tried a0_chosen r0_rows r0_line r0_good r0_work x0_shelf x0_rowSort x0_rowSize x0_moved x0_shown x0_tape x0_tapeSize x0_refused x0_lines x0_changes x0_coins x0_goods x0_works x0_years x0_gone x0_spent x0_at x0_token x0_from x0_figures x0_fault x0_numbers x0_statements x0_left x0_far x0_tons x0_way x0_steps x0_met x0_queue x0_totals] (fun _ : Unit => (some (.int out.1), [gMd d h0 a0_kept a0_tried a0_chosen r0_rows r0_line r0_good r0_work x0_shelf x0_rowSort x0_rowSize x0_moved x0_shown x0_tape x0_tapeSize x0_refused x0_lines x0_changes x0_coins x0_goods x0_works x0_years x0_gone x0_spent (out.2.1) (out.2.2.1) (out.2.2.2.1) (out.2.2.2.2.1) (out.2.2.2.2.2.1) (out.2.2.2.2.2.2) x0_statements x0_left x0_far x0_tons x0_way x0_steps x0_met x0_queue x0_totals])) := by
  refine Ct.of (by decide) (Nat.le_of_ble_eq_true rfl) ?_
  intro Φ hl hK hR
  subst hl
  have hK : Ok d Φ RX7 "told" cX7_told 6 (some .boolean) { frames := 5, cells := 0, slots := 0, locals := 107 } := hK
  unfold fX7_toldN at hf
  have hf := un35 hf
  show J d Φ 6 [gMd d h0 a0_kept a0_tried a0_chosen r0_rows r0_line r0_good r0_work x0_shelf x0_rowSort x0_rowSize x0_moved x0_shown x0_tape x0_tapeSize x0_refused x0_lines x0_changes x0_coins x0_goods x0_works x0_years x0_gone x0_spent x0_at x0_token x0_from x0_figures x0_fault x0_numbers x0_statements x0_left x0_far x0_tons x0_way x0_steps x0_met x0_queue x0_totals] 0 0 0 [(0, .ref (h0 0)), (1, .ref (d.2.2.2.1 p1)), (2, .ref (h0 14)), (3, .int p3), (4, .int p4), (5, .int p5)] []
  refine J_aload_n hK qd3_48.1 rfl 0 rfl rfl ?_
  refine J_aload_n hK qd3_48.2.1 rfl 1 rfl rfl ?_
  obtain ⟨v1, e2, hf⟩ := bs hf
  refine J_callV (m := 1) (m' := 1) (ce' := 0) (sl' := 0) (gr := []) (gs' := fun _ => [gMd d h0 a0_kept a0_tried a0_chosen r0_rows r0_line r0_good r0_work x0_shelf x0_rowSort x0_rowSize x0_moved x0_shown x0_tape x0_tapeSize x0_refused x0_lines x0_changes x0_coins x0_goods x0_works x0_years x0_gone x0_spent x0_at x0_token x0_from x0_figures x0_fault x0_numbers x0_statements x0_left x0_far x0_tons x0_way x0_steps x0_met x0_queue x0_totals]) (st' := fun _ => [.int v1]) (st := []) hK qd3_48.2.2.1 cv_RX7_194 iv_yX7_isWord (As := [.ref (d.2.2.2.1 p1)]) (kX7_isWord _ d h0 r0_rows r0_line r0_good r0_work a0_kept a0_tried a0_chosen n x0_shelf x0_rowSort x0_rowSize x0_rows x0_moved x0_shown x0_tape x0_tapeSize x0_refused x0_lines x0_line x0_changes x0_coins x0_goods x0_good x0_works x0_work x0_years x0_gone x0_spent x0_at x0_token x0_from x0_figures x0_fault x0_numbers x0_statements x0_left x0_far x0_tons x0_way x0_steps x0_met x0_queue x0_totals p1 e2) rfl rfl (Nat.le_of_ble_eq_true rfl) (by decide) 0 0 rfl rfl rfl [0] [] rfl (by decide +kernel) rfl rfl [0] (by decide +kernel) (fun _ => rfl) (fun _ => rfl) rfl rfl rfl (fun _ => rfl) (fun _ => ?_)
  refine J_if_ne (tg := 13) hK qd3_48.2.2.2.1 rfl rfl (fun hc5 => ?_) (fun hc5 => ?_)
  · have hf := iq hc5 hf
    refine J_aload_n hK qd3_48.2.2.2.2.2.2.2.1 rfl 0 rfl rfl ?_
    obtain ⟨⟨g3, g4, g5, g6⟩, e7, hf⟩ := bs hf
    have hf := un4 hf
    refine J_callV (m := 1) (m' := 1) (ce' := 0) (sl' := 0) (gr := []) (gs' := fun _ => [gMd d h0 a0_kept a0_tried a0_chosen r0_rows r0_line r0_good r0_work x0_shelf x0_rowSort x0_rowSize x0_moved x0_shown x0_tape x0_tapeSize x0_refused x0_lines x0_changes x0_coins x0_goods x0_works x0_years x0_gone x0_spent g3 g4 g5 g6 x0_fault x0_numbers x0_statements x0_left x0_far x0_tons x0_way x0_steps x0_met x0_queue x0_totals]) (st' := fun _ => []) (st := []) hK qd3_48.2.2.2.2.2.2.2.2.1 cv_RX7_191 iv_yX7_look (As := []) (kX7_look _ d h0 r0_rows r0_line r0_good r0_work a0_kept a0_tried a0_chosen n x0_shelf x0_rowSort x0_rowSize x0_rows x0_moved x0_shown x0_tape x0_tapeSize x0_refused x0_lines x0_line x0_changes x0_coins x0_goods x0_good x0_works x0_work x0_years x0_gone x0_spent x0_at x0_token x0_from x0_figures x0_fault x0_numbers x0_statements x0_left x0_far x0_tons x0_way x0_steps x0_met x0_queue x0_totals e7) rfl rfl (Nat.le_of_ble_eq_true rfl) (by decide) 0 0 rfl rfl rfl [0] [] rfl (by decide +kernel) rfl rfl [0] (by decide +kernel) (fun _ => rfl) (fun _ => rfl) rfl rfl rfl (fun _ => rfl) (fun _ => ?_)
    refine J_aload_n hK qd3_48.2.2.2.2.2.2.2.2.2.1 rfl 0 rfl rfl ?_
    refine J_aload_n hK qd3_48.2.2.2.2.2.2.2.2.2.2.1 rfl 2 rfl rfl ?_
    refine J_iload_n hK qd3_48.2.2.2.2.2.2.2.2.2.2.2.1 rfl 3 rfl rfl ?_
    refine J_iload hK qd3_48.2.2.2.2.2.2.2.2.2.2.2.2.1 rfl 4 rfl ?_
    refine J_iload hK qd3_48.2.2.2.2.2.2.2.2.2.2.2.2.2.1 rfl 5 rfl ?_
    obtain ⟨⟨v8, ⟨g10, g11, g12, g13, g14, g15⟩⟩, e16, hf⟩ := bs hf
    have hf := un2 hf
    have hf := un6 hf
    refine J_callV (m := 1) (m' := 1) (ce' := 0) (sl' := 0) (gr := []) (gs' := fun _ => [gMd d h0 a0_kept a0_tried a0_chosen r0_rows r0_line r0_good r0_work x0_shelf x0_rowSort x0_rowSize x0_moved x0_shown x0_tape x0_tapeSize x0_refused x0_lines x0_changes x0_coins x0_goods x0_works x0_years x0_gone x0_spent g10 g11 g12 g13 g14 g15 x0_statements x0_left x0_far x0_tons x0_way x0_steps x0_met x0_queue x0_totals]) (st' := fun _ => [.int v8]) (st := []) hK qd3_48.2.2.2.2.2.2.2.2.2.2.2.2.2.2.1 cv_RX7_198 iv_yX7_number (As := [.ref (h0 14), .int p3, .int p4, .int p5]) (kX7_numberN _ d h0 r0_rows r0_line r0_good r0_work a0_kept a0_tried a0_chosen n x0_shelf x0_rowSort x0_rowSize x0_rows x0_moved x0_shown x0_tape x0_tapeSize x0_refused x0_lines x0_line x0_changes x0_coins x0_goods x0_good x0_works x0_work x0_years x0_gone x0_spent g3 g4 g5 g6 x0_fault x0_numbers x0_statements x0_left x0_far x0_tons x0_way x0_steps x0_met x0_queue x0_totals p3 p4 p5 e16) rfl rfl (Nat.le_of_ble_eq_true rfl) (by decide) 0 0 rfl rfl rfl [0] [] rfl (by decide +kernel) rfl rfl [0] (by decide +kernel) (fun _ => rfl) (fun _ => rfl) rfl rfl rfl (fun _ => rfl) (fun _ => ?_)
    obtain ⟨v17, ev17, hf⟩ := bs hf
    obtain rfl := Option.some.inj hf
    exact J_zret hK hR qd3_48.2.2.2.2.2.2.2.2.2.2.2.2.2.2.2.1 () (zb_ok ev17).2 (by rw [(zb_ok ev17).1]) (by decide) (by decide)
  · have hf := ip hc5 hf
    refine J_aload_n hK qd3_48.2.2.2.2.1 rfl 0 rfl rfl ?_
    obtain ⟨⟨v18, g19⟩, e20, hf⟩ := bs hf
    have hf := un2 hf
    refine J_callV (m := 1) (m' := 1) (ce' := 0) (sl' := 0) (gr := []) (gs' := fun _ => [gMd d h0 a0_kept a0_tried a0_chosen r0_rows r0_line r0_good r0_work x0_shelf x0_rowSort x0_rowSize x0_moved x0_shown x0_tape x0_tapeSize x0_refused x0_lines x0_changes x0_coins x0_goods x0_works x0_years x0_gone x0_spent x0_at x0_token x0_from x0_figures g19 x0_numbers x0_statements x0_left x0_far x0_tons x0_way x0_steps x0_met x0_queue x0_totals]) (st' := fun _ => [.int v18]) (st := []) hK qd3_48.2.2.2.2.2.1 cv_RX7_187 iv_yX7_wrong (As := []) (kX7_wrong _ d h0 r0_rows r0_line r0_good r0_work a0_kept a0_tried a0_chosen x0_shelf x0_rowSort x0_rowSize x0_rows x0_moved x0_shown x0_tape x0_tapeSize x0_refused x0_lines x0_line x0_changes x0_coins x0_goods x0_good x0_works x0_work x0_years x0_gone x0_spent x0_at x0_token x0_from x0_figures x0_fault x0_numbers x0_statements x0_left x0_far x0_tons x0_way x0_steps x0_met x0_queue x0_totals e20) rfl rfl (Nat.le_of_ble_eq_true rfl) (by decide) 0 0 rfl rfl rfl [0] [] rfl (by decide +kernel) rfl rfl [0] (by decide +kernel) (fun _ => rfl) (fun _ => rfl) rfl rfl rfl (fun _ => rfl) (fun _ => ?_)
    obtain ⟨v21, ev21, hf⟩ := bs hf
    obtain rfl := Option.some.inj hf
    exact J_zret hK hR qd3_48.2.2.2.2.2.2.1 () (zb_ok ev21).2 (by rw [(zb_ok ev21).1]) (by decide) (by decide)

def fX7_numberC (n : Nat) (X0 : MdT) (p2 : Int32) (p3 : Int32) (p4 : Int32) : Option (Int32 × ((Nat → Int32) × Int32 × Int32 × Int32 × Int64 × Int32)) :=
  u35 (fun (x0_shelf : (Nat → Int32)) (x0_rowSort : (Nat → Int32)) (x0_rowSize : (Nat → Int32)) (x0_rows : (Nat → Nat → Int64)) (x0_moved : (Nat → Int64)) (x0_shown : (Nat → Int32)) (x0_tape : (Nat → Int32)) (x0_tapeSize : Int32) (x0_refused : (Nat → Int32)) (x0_lines : Int32) (x0_line : (Nat → Nat → Int32)) (x0_changes : (Nat → Int32)) (x0_coins : (Nat → Int32)) (x0_goods : Int32) (x0_good : (Nat → Nat → Int32)) (x0_works : Int32) (x0_work : (Nat → Nat → Int32)) (x0_years : Int32) (x0_gone : Int32) (x0_spent : Int32) (x0_at : Int32) (x0_token : Int32) (x0_from : Int32) (x0_figures : Int64) (x0_fault : Int32) (x0_numbers : (Nat → Int32)) (x0_statements : Int32) (x0_left : (Nat → Int32)) (x0_far : (Nat → Int32)) (x0_tons : Int32) (x0_way : (Nat → Int32)) (x0_steps : Int32) (x0_met : Int64) (x0_queue : (Nat → Int32)) (x0_totals : (Nat → Int32)) => if x0_token = 2 then ((fX7_in x0_figures ((p3).toInt64) ((p4).toInt64)).bind (fun v5 => if v5 = 0 then ((fX7_wrong (x0_shelf, x0_rowSort, x0_rowSize, x0_rows, x0_moved, x0_shown, x0_tape, x0_tapeSize, x0_refused, x0_lines, x0_line, x0_changes, x0_coins, x0_goods, x0_good, x0_works, x0_work, x0_years, x0_gone, x0_spent, x0_at, x0_token, x0_from, x0_figures, x0_fault, x0_numbers, x0_statements, x0_left, x0_far, x0_tons, x0_way, x0_steps, x0_met, x0_queue, x0_totals)).bind (u2 fun v13 g14 => (zb v13).bind fun v16 => some (v16, (x0_changes, x0_at, x0_token, x0_from, x0_figures, g14)))) else ((wr 12 x0_changes p2 ((x0_figures).toInt32)).bind fun f7 => (fX7_look n (x0_shelf, x0_rowSort, x0_rowSize, x0_rows, x0_moved, x0_shown, x0_tape, x0_tapeSize, x0_refused, x0_lines, x0_line, f7, x0_coins, x0_goods, x0_good, x0_works, x0_work, x0_years, x0_gone, x0_spent, x0_at, x0_token, x0_from, x0_figures, x0_fault, x0_numbers, x0_statements, x0_left, x0_far, x0_tons, x0_way, x0_steps, x0_met, x0_queue, x0_totals)).bind (u4 fun g8 g9 g10 g11 => some (1, (f7, g8, g9, g10, g11, x0_fault)))))) else ((fX7_wrong (x0_shelf, x0_rowSort, x0_rowSize, x0_rows, x0_moved, x0_shown, x0_tape, x0_tapeSize, x0_refused, x0_lines, x0_line, x0_changes, x0_coins, x0_goods, x0_good, x0_works, x0_work, x0_years, x0_gone, x0_spent, x0_at, x0_token, x0_from, x0_figures, x0_fault, x0_numbers, x0_statements, x0_left, x0_far, x0_tons, x0_way, x0_steps, x0_met, x0_queue, x0_totals)).bind (u2 fun v1 g2 => (zb v1).bind fun v4 => some (v4, (x0_changes, x0_at, x0_token, x0_from, x0_figures, g2))))) X0
set_option maxHeartbeats 4000000 in
set_option maxRecDepth 100000 in
theorem kX7_numberC (l : Launch) (d : DT) (h0 : Nat → Nat) (r0_rows : Nat → Nat) (r0_line : Nat → Nat) (r0_good : Nat → Nat) (r0_work : Nat → Nat) (a0_kept : Option Nat) (a0_tried : Option Nat) (a0_chosen : Option Nat) (n : Nat) (x0_shelf : (Nat → Int32)) (x0_rowSort : (Nat → Int32)) (x0_rowSize : (Nat → Int32)) (x0_rows : (Nat → Nat → Int64)) (x0_moved : (Nat → Int64)) (x0_shown : (Nat → Int32)) (x0_tape : (Nat → Int32)) (x0_tapeSize : Int32) (x0_refused : (Nat → Int32)) (x0_lines : Int32) (x0_line : (Nat → Nat → Int32)) (x0_changes : (Nat → Int32)) (x0_coins : (Nat → Int32)) (x0_goods : Int32) (x0_good : (Nat → Nat → Int32)) (x0_works : Int32) (x0_work : (Nat → Nat → Int32)) (x0_years : Int32) (x0_gone : Int32) (x0_spent : Int32) (x0_at : Int32) (x0_token : Int32) (x0_from : Int32) (x0_figures : Int64) (x0_fault : Int32) (x0_numbers : (Nat → Int32)) (x0_statements : Int32) (x0_left : (Nat → Int32)) (x0_far : (Nat → Int32)) (x0_tons : Int32) (x0_way : (Nat → Int32)) (x0_steps : Int32) (x0_met : Int64) (x0_queue : (Nat → Int32)) (x0_totals : (Nat → Int32)) (p2 : Int32) (p3 : Int32) (p4 : Int32)  {out : Int32 × ((Nat → Int32) × Int32 × Int32 × Int32 × Int64 × Int32)} (hf : fX7_numberC n (x0_shelf, x0_rowSort, x0_rowSize, x0_rows, x0_moved, x0_shown, x0_tape, x0_tapeSize, x0_refused, x0_lines, x0_line, x0_changes, x0_coins, x0_goods, x0_good, x0_works, x0_work, x0_years, x0_gone, x0_spent, x0_at, x0_token, x0_from, x0_figures, x0_fault, x0_numbers, x0_statements, x0_left, x0_far, x0_tons, x0_way, x0_steps, x0_met, x0_queue, x0_totals) p2 p3 p4 = some out) : Ct l d yX7_number cX7_number 5 (some .boolean) { frames := 2, cells := 0, slots := 0, locals := 40 } [.ref (h0 0), .ref (h0 10), .int p2, .int p3, .int p4] [gMd d h0 a0_kept a0_tried a0_chosen r0_rows r0_line r0_good r0_work x0_shelf x0_rowSort x0_rowSize x0_moved x0_shown x0_tape x0_tapeSize x0_refused x0_lines x0_changes x0_coins x0_goods x0_works x0_years x0_gone x0_spent x0_at x0_token x0_from x0_figures x0_fault x0_numbers x0_statements x0_left x0_far x0_tons x0_way x0_steps x0_met x0_queue x0_totals] (fun _ : Unit => (some (.int out.1), [gMd d h0 a0_kept a0_tried a0_chosen r0_rows r0_line r0_good r0_work x0_shelf x0_rowSort x0_rowSize x0_moved x0_shown x0_tape x0_tapeSize x0_refused x0_lines (out.2.1) x0_coins x0_goods x0_works x0_years x0_gone x0_spent (out.2.2.1) (out.2.2.2.1) (out.2.2.2.2.1) (out.2.2.2.2.2.1) (out.2.2.2.2.2.2) x0_numbers x0_statements x0_left x0_far x0_tons x0_way x0_steps x0_met x0_queue x0_totals])) := by
  refine Ct.of (by decide) (Nat.le_of_ble_eq_true rfl) ?_
  intro Φ hl hK hR
  subst hl
  have hK : Ok d Φ RX7 "number" cX7_number 5 (some .boolean) { frames := 2, cells := 0, slots := 0, locals := 40 } := hK
  unfold fX7_numberC at hf
  have hf := un35 hf
  show J d Φ 5 [gMd d h0 a0_kept a0_tried a0_chosen r0_rows r0_line r0_good r0_work x0_shelf x0_rowSort x0_rowSize x0_moved x0_shown x0_tape x0_tapeSize x0_refused x0_lines x0_changes x0_coins x0_goods x0_works x0_years x0_gone x0_spent x0_at x0_token x0_from x0_figures x0_fault x0_numbers x0_statements x0_left x0_far x0_tons x0_way x0_steps x0_met x0_queue x0_totals] 0 0 0 [(0, .ref (h0 0)), (1, .ref (h0 10)), (2, .int p2), (3, .int p3), (4, .int p4)] []
  refine J_aload_n hK qd3_46.1 rfl 0 rfl rfl ?_
  refine J_get hK fo_RX7_159 qd3_46.2.1 rfl 0 0 rfl rfl rfl ?_
  refine J_iconst (v := 2) hK qd3_46.2.2.1 rfl (by decide) ?_
  refine J_icmp_ne (tg := 23) hK qd3_46.2.2.2.1 rfl rfl (fun hc5 => ?_) (fun hc5 => ?_)
  · have hf := iq hc5 hf
    refine J_aload_n hK qd3_46.2.2.2.2.2.2.2.2.2.2.2.2.1 rfl 0 rfl rfl ?_
    obtain ⟨⟨v1, g2⟩, e3, hf⟩ := bs hf
    have hf := un2 hf
    refine J_callV (m := 1) (m' := 1) (ce' := 0) (sl' := 0) (gr := []) (gs' := fun _ => [gMd d h0 a0_kept a0_tried a0_chosen r0_rows r0_line r0_good r0_work x0_shelf x0_rowSort x0_rowSize x0_moved x0_shown x0_tape x0_tapeSize x0_refused x0_lines x0_changes x0_coins x0_goods x0_works x0_years x0_gone x0_spent x0_at x0_token x0_from x0_figures g2 x0_numbers x0_statements x0_left x0_far x0_tons x0_way x0_steps x0_met x0_queue x0_totals]) (st' := fun _ => [.int v1]) (st := []) hK qd3_46.2.2.2.2.2.2.2.2.2.2.2.2.2.1 cv_RX7_187 iv_yX7_wrong (As := []) (kX7_wrong _ d h0 r0_rows r0_line r0_good r0_work a0_kept a0_tried a0_chosen x0_shelf x0_rowSort x0_rowSize x0_rows x0_moved x0_shown x0_tape x0_tapeSize x0_refused x0_lines x0_line x0_changes x0_coins x0_goods x0_good x0_works x0_work x0_years x0_gone x0_spent x0_at x0_token x0_from x0_figures x0_fault x0_numbers x0_statements x0_left x0_far x0_tons x0_way x0_steps x0_met x0_queue x0_totals e3) rfl rfl (Nat.le_of_ble_eq_true rfl) (by decide) 0 0 rfl rfl rfl [0] [] rfl (by decide +kernel) rfl rfl [0] (by decide +kernel) (fun _ => rfl) (fun _ => rfl) rfl rfl rfl (fun _ => rfl) (fun _ => ?_)
    obtain ⟨v4, ev4, hf⟩ := bs hf
    obtain rfl := Option.some.inj hf
    exact J_zret hK hR qd3_46.2.2.2.2.2.2.2.2.2.2.2.2.2.2.1 () (zb_ok ev4).2 (by rw [(zb_ok ev4).1]) (by decide) (by decide)
  · have hf := ip hc5 hf
    refine J_aload_n hK qd3_46.2.2.2.2.1 rfl 0 rfl rfl ?_
    refine J_get hK fo_RX7_155 qd3_46.2.2.2.2.2.1 rfl 0 0 rfl rfl rfl ?_
    refine J_iload_n hK qd3_46.2.2.2.2.2.2.1 rfl 3 rfl rfl ?_
    refine J_i2l hK qd3_46.2.2.2.2.2.2.2.1 rfl ?_
    refine J_iload hK qd3_46.2.2.2.2.2.2.2.2.1 rfl 4 rfl ?_
    refine J_i2l hK qd3_46.2.2.2.2.2.2.2.2.2.1 rfl ?_
    obtain ⟨v5, e6, hf⟩ := bs hf
    refine J_callS (m := 1) (m' := 1) (ce' := 0) (sl' := 0) (gr := [gMd d h0 a0_kept a0_tried a0_chosen r0_rows r0_line r0_good r0_work x0_shelf x0_rowSort x0_rowSize x0_moved x0_shown x0_tape x0_tapeSize x0_refused x0_lines x0_changes x0_coins x0_goods x0_works x0_years x0_gone x0_spent x0_at x0_token x0_from x0_figures x0_fault x0_numbers x0_statements x0_left x0_far x0_tons x0_way x0_steps x0_met x0_queue x0_totals]) (gs' := fun _ => [gMd d h0 a0_kept a0_tried a0_chosen r0_rows r0_line r0_good r0_work x0_shelf x0_rowSort x0_rowSize x0_moved x0_shown x0_tape x0_tapeSize x0_refused x0_lines x0_changes x0_coins x0_goods x0_works x0_years x0_gone x0_spent x0_at x0_token x0_from x0_figures x0_fault x0_numbers x0_statements x0_left x0_far x0_tons x0_way x0_steps x0_met x0_queue x0_totals]) (st' := fun _ => [.int v5]) (st := []) hK qd3_46.2.2.2.2.2.2.2.2.2.2.1 cv_RX7_78 ws_yX7_in (As := [.long x0_figures, .long ((p3).toInt64), .long ((p4).toInt64)]) (kX7_in _ d x0_figures ((p3).toInt64) ((p4).toInt64) e6) rfl rfl (Nat.le_of_ble_eq_true rfl) (by decide) [] [0] rfl (by decide +kernel) rfl rfl [0] (by decide +kernel) (fun _ => rfl) (fun _ => rfl) rfl rfl rfl (fun _ => rfl) (fun _ => ?_)
    refine J_if_ne (tg := 28) hK qd3_46.2.2.2.2.2.2.2.2.2.2.2.1 rfl rfl (fun hc20 => ?_) (fun hc20 => ?_)
    · have hf := iq hc20 hf
      refine J_aload_n hK qd3_46.2.2.2.2.2.2.2.2.2.2.2.2.2.2.2.1 rfl 1 rfl rfl ?_
      refine J_iload_n hK qd3_47.1 rfl 2 rfl rfl ?_
      refine J_aload_n hK qd3_47.2.1 rfl 0 rfl rfl ?_
      refine J_get hK fo_RX7_155 qd3_47.2.2.1 rfl 0 0 rfl rfl rfl ?_
      refine J_l2i hK qd3_47.2.2.2.1 rfl ?_
      obtain ⟨f7, ef7, hf⟩ := bs hf
      refine J_iast (g' := gMd d h0 a0_kept a0_tried a0_chosen r0_rows r0_line r0_good r0_work x0_shelf x0_rowSort x0_rowSize x0_moved x0_shown x0_tape x0_tapeSize x0_refused x0_lines f7 x0_coins x0_goods x0_works x0_years x0_gone x0_spent x0_at x0_token x0_from x0_figures x0_fault x0_numbers x0_statements x0_left x0_far x0_tons x0_way x0_steps x0_met x0_queue x0_totals) (gs' := [gMd d h0 a0_kept a0_tried a0_chosen r0_rows r0_line r0_good r0_work x0_shelf x0_rowSort x0_rowSize x0_moved x0_shown x0_tape x0_tapeSize x0_refused x0_lines f7 x0_coins x0_goods x0_works x0_years x0_gone x0_spent x0_at x0_token x0_from x0_figures x0_fault x0_numbers x0_statements x0_left x0_far x0_tons x0_way x0_steps x0_met x0_queue x0_totals]) hK qd3_47.2.2.2.2.1 rfl 0 10 rfl rfl ef7 rfl rfl ?_
      refine J_aload_n hK qd3_47.2.2.2.2.2.1 rfl 0 rfl rfl ?_
      obtain ⟨⟨g8, g9, g10, g11⟩, e12, hf⟩ := bs hf
      have hf := un4 hf
      refine J_callV (m := 1) (m' := 1) (ce' := 0) (sl' := 0) (gr := []) (gs' := fun _ => [gMd d h0 a0_kept a0_tried a0_chosen r0_rows r0_line r0_good r0_work x0_shelf x0_rowSort x0_rowSize x0_moved x0_shown x0_tape x0_tapeSize x0_refused x0_lines f7 x0_coins x0_goods x0_works x0_years x0_gone x0_spent g8 g9 g10 g11 x0_fault x0_numbers x0_statements x0_left x0_far x0_tons x0_way x0_steps x0_met x0_queue x0_totals]) (st' := fun _ => []) (st := []) hK qd3_47.2.2.2.2.2.2.1 cv_RX7_191 iv_yX7_look (As := []) (kX7_look _ d h0 r0_rows r0_line r0_good r0_work a0_kept a0_tried a0_chosen n x0_shelf x0_rowSort x0_rowSize x0_rows x0_moved x0_shown x0_tape x0_tapeSize x0_refused x0_lines x0_line f7 x0_coins x0_goods x0_good x0_works x0_work x0_years x0_gone x0_spent x0_at x0_token x0_from x0_figures x0_fault x0_numbers x0_statements x0_left x0_far x0_tons x0_way x0_steps x0_met x0_queue x0_totals e12) rfl rfl (Nat.le_of_ble_eq_true rfl) (by decide) 0 0 rfl rfl rfl [0] [] rfl (by decide +kernel) rfl rfl [0] (by decide +kernel) (fun _ => rfl) (fun _ => rfl) rfl rfl rfl (fun _ => rfl) (fun _ => ?_)
      refine J_iconst (v := 1) hK qd3_47.2.2.2.2.2.2.2.1 rfl (by decide) ?_
      obtain rfl := Option.some.inj hf
      exact J_zret hK hR qd3_47.2.2.2.2.2.2.2.2.1 () rfl rfl (by decide) (by decide)
    · have hf := ip hc20 hf
      refine J_aload_n hK qd3_46.2.2.2.2.2.2.2.2.2.2.2.2.1 rfl 0 rfl rfl ?_
      obtain ⟨⟨v13, g14⟩, e15, hf⟩ := bs hf
      have hf := un2 hf
      refine J_callV (m := 1) (m' := 1) (ce' := 0) (sl' := 0) (gr := []) (gs' := fun _ => [gMd d h0 a0_kept a0_tried a0_chosen r0_rows r0_line r0_good r0_work x0_shelf x0_rowSort x0_rowSize x0_moved x0_shown x0_tape x0_tapeSize x0_refused x0_lines x0_changes x0_coins x0_goods x0_works x0_years x0_gone x0_spent x0_at x0_token x0_from x0_figures g14 x0_numbers x0_statements x0_left x0_far x0_tons x0_way x0_steps x0_met x0_queue x0_totals]) (st' := fun _ => [.int v13]) (st := []) hK qd3_46.2.2.2.2.2.2.2.2.2.2.2.2.2.1 cv_RX7_187 iv_yX7_wrong (As := []) (kX7_wrong _ d h0 r0_rows r0_line r0_good r0_work a0_kept a0_tried a0_chosen x0_shelf x0_rowSort x0_rowSize x0_rows x0_moved x0_shown x0_tape x0_tapeSize x0_refused x0_lines x0_line x0_changes x0_coins x0_goods x0_good x0_works x0_work x0_years x0_gone x0_spent x0_at x0_token x0_from x0_figures x0_fault x0_numbers x0_statements x0_left x0_far x0_tons x0_way x0_steps x0_met x0_queue x0_totals e15) rfl rfl (Nat.le_of_ble_eq_true rfl) (by decide) 0 0 rfl rfl rfl [0] [] rfl (by decide +kernel) rfl rfl [0] (by decide +kernel) (fun _ => rfl) (fun _ => rfl) rfl rfl rfl (fun _ => rfl) (fun _ => ?_)
      obtain ⟨v16, ev16, hf⟩ := bs hf
      obtain rfl := Option.some.inj hf
      exact J_zret hK hR qd3_46.2.2.2.2.2.2.2.2.2.2.2.2.2.2.1 () (zb_ok ev16).2 (by rw [(zb_ok ev16).1]) (by decide) (by decide)

def fX7_numberO (n : Nat) (X0 : MdT) (p2 : Int32) (p3 : Int32) (p4 : Int32) : Option (Int32 × ((Nat → Int32) × Int32 × Int32 × Int32 × Int64 × Int32)) :=
  u35 (fun (x0_shelf : (Nat → Int32)) (x0_rowSort : (Nat → Int32)) (x0_rowSize : (Nat → Int32)) (x0_rows : (Nat → Nat → Int64)) (x0_moved : (Nat → Int64)) (x0_shown : (Nat → Int32)) (x0_tape : (Nat → Int32)) (x0_tapeSize : Int32) (x0_refused : (Nat → Int32)) (x0_lines : Int32) (x0_line : (Nat → Nat → Int32)) (x0_changes : (Nat → Int32)) (x0_coins : (Nat → Int32)) (x0_goods : Int32) (x0_good : (Nat → Nat → Int32)) (x0_works : Int32) (x0_work : (Nat → Nat → Int32)) (x0_years : Int32) (x0_gone : Int32) (x0_spent : Int32) (x0_at : Int32) (x0_token : Int32) (x0_from : Int32) (x0_figures : Int64) (x0_fault : Int32) (x0_numbers : (Nat → Int32)) (x0_statements : Int32) (x0_left : (Nat → Int32)) (x0_far : (Nat → Int32)) (x0_tons : Int32) (x0_way : (Nat → Int32)) (x0_steps : Int32) (x0_met : Int64) (x0_queue : (Nat → Int32)) (x0_totals : (Nat → Int32)) => if x0_token = 2 then ((fX7_in x0_figures ((p3).toInt64) ((p4).toInt64)).bind (fun v5 => if v5 = 0 then ((fX7_wrong (x0_shelf, x0_rowSort, x0_rowSize, x0_rows, x0_moved, x0_shown, x0_tape, x0_tapeSize, x0_refused, x0_lines, x0_line, x0_changes, x0_coins, x0_goods, x0_good, x0_works, x0_work, x0_years, x0_gone, x0_spent, x0_at, x0_token, x0_from, x0_figures, x0_fault, x0_numbers, x0_statements, x0_left, x0_far, x0_tons, x0_way, x0_steps, x0_met, x0_queue, x0_totals)).bind (u2 fun v13 g14 => (zb v13).bind fun v16 => some (v16, (x0_coins, x0_at, x0_token, x0_from, x0_figures, g14)))) else ((wr 3 x0_coins p2 ((x0_figures).toInt32)).bind fun f7 => (fX7_look n (x0_shelf, x0_rowSort, x0_rowSize, x0_rows, x0_moved, x0_shown, x0_tape, x0_tapeSize, x0_refused, x0_lines, x0_line, x0_changes, f7, x0_goods, x0_good, x0_works, x0_work, x0_years, x0_gone, x0_spent, x0_at, x0_token, x0_from, x0_figures, x0_fault, x0_numbers, x0_statements, x0_left, x0_far, x0_tons, x0_way, x0_steps, x0_met, x0_queue, x0_totals)).bind (u4 fun g8 g9 g10 g11 => some (1, (f7, g8, g9, g10, g11, x0_fault)))))) else ((fX7_wrong (x0_shelf, x0_rowSort, x0_rowSize, x0_rows, x0_moved, x0_shown, x0_tape, x0_tapeSize, x0_refused, x0_lines, x0_line, x0_changes, x0_coins, x0_goods, x0_good, x0_works, x0_work, x0_years, x0_gone, x0_spent, x0_at, x0_token, x0_from, x0_figures, x0_fault, x0_numbers, x0_statements, x0_left, x0_far, x0_tons, x0_way, x0_steps, x0_met, x0_queue, x0_totals)).bind (u2 fun v1 g2 => (zb v1).bind fun v4 => some (v4, (x0_coins, x0_at, x0_token, x0_from, x0_figures, g2))))) X0
set_option maxHeartbeats 4000000 in
set_option maxRecDepth 100000 in
theorem kX7_numberO (l : Launch) (d : DT) (h0 : Nat → Nat) (r0_rows : Nat → Nat) (r0_line : Nat → Nat) (r0_good : Nat → Nat) (r0_work : Nat → Nat) (a0_kept : Option Nat) (a0_tried : Option Nat) (a0_chosen : Option Nat) (n : Nat) (x0_shelf : (Nat → Int32)) (x0_rowSort : (Nat → Int32)) (x0_rowSize : (Nat → Int32)) (x0_rows : (Nat → Nat → Int64)) (x0_moved : (Nat → Int64)) (x0_shown : (Nat → Int32)) (x0_tape : (Nat → Int32)) (x0_tapeSize : Int32) (x0_refused : (Nat → Int32)) (x0_lines : Int32) (x0_line : (Nat → Nat → Int32)) (x0_changes : (Nat → Int32)) (x0_coins : (Nat → Int32)) (x0_goods : Int32) (x0_good : (Nat → Nat → Int32)) (x0_works : Int32) (x0_work : (Nat → Nat → Int32)) (x0_years : Int32) (x0_gone : Int32) (x0_spent : Int32) (x0_at : Int32) (x0_token : Int32) (x0_from : Int32) (x0_figures : Int64) (x0_fault : Int32) (x0_numbers : (Nat → Int32)) (x0_statements : Int32) (x0_left : (Nat → Int32)) (x0_far : (Nat → Int32)) (x0_tons : Int32) (x0_way : (Nat → Int32)) (x0_steps : Int32) (x0_met : Int64) (x0_queue : (Nat → Int32)) (x0_totals : (Nat → Int32)) (p2 : Int32) (p3 : Int32) (p4 : Int32)  {out : Int32 × ((Nat → Int32) × Int32 × Int32 × Int32 × Int64 × Int32)} (hf : fX7_numberO n (x0_shelf, x0_rowSort, x0_rowSize, x0_rows, x0_moved, x0_shown, x0_tape, x0_tapeSize, x0_refused, x0_lines, x0_line, x0_changes, x0_coins, x0_goods, x0_good, x0_works, x0_work, x0_years, x0_gone, x0_spent, x0_at, x0_token, x0_from, x0_figures, x0_fault, x0_numbers, x0_statements, x0_left, x0_far, x0_tons, x0_way, x0_steps, x0_met, x0_queue, x0_totals) p2 p3 p4 = some out) : Ct l d yX7_number cX7_number 5 (some .boolean) { frames := 2, cells := 0, slots := 0, locals := 40 } [.ref (h0 0), .ref (h0 11), .int p2, .int p3, .int p4] [gMd d h0 a0_kept a0_tried a0_chosen r0_rows r0_line r0_good r0_work x0_shelf x0_rowSort x0_rowSize x0_moved x0_shown x0_tape x0_tapeSize x0_refused x0_lines x0_changes x0_coins x0_goods x0_works x0_years x0_gone x0_spent x0_at x0_token x0_from x0_figures x0_fault x0_numbers x0_statements x0_left x0_far x0_tons x0_way x0_steps x0_met x0_queue x0_totals] (fun _ : Unit => (some (.int out.1), [gMd d h0 a0_kept a0_tried a0_chosen r0_rows r0_line r0_good r0_work x0_shelf x0_rowSort x0_rowSize x0_moved x0_shown x0_tape x0_tapeSize x0_refused x0_lines x0_changes (out.2.1) x0_goods x0_works x0_years x0_gone x0_spent (out.2.2.1) (out.2.2.2.1) (out.2.2.2.2.1) (out.2.2.2.2.2.1) (out.2.2.2.2.2.2) x0_numbers x0_statements x0_left x0_far x0_tons x0_way x0_steps x0_met x0_queue x0_totals])) := by
  refine Ct.of (by decide) (Nat.le_of_ble_eq_true rfl) ?_
  intro Φ hl hK hR
  subst hl
  have hK : Ok d Φ RX7 "number" cX7_number 5 (some .boolean) { frames := 2, cells := 0, slots := 0, locals := 40 } := hK
  unfold fX7_numberO at hf
  have hf := un35 hf
  show J d Φ 5 [gMd d h0 a0_kept a0_tried a0_chosen r0_rows r0_line r0_good r0_work x0_shelf x0_rowSort x0_rowSize x0_moved x0_shown x0_tape x0_tapeSize x0_refused x0_lines x0_changes x0_coins x0_goods x0_works x0_years x0_gone x0_spent x0_at x0_token x0_from x0_figures x0_fault x0_numbers x0_statements x0_left x0_far x0_tons x0_way x0_steps x0_met x0_queue x0_totals] 0 0 0 [(0, .ref (h0 0)), (1, .ref (h0 11)), (2, .int p2), (3, .int p3), (4, .int p4)] []
  refine J_aload_n hK qd3_46.1 rfl 0 rfl rfl ?_
  refine J_get hK fo_RX7_159 qd3_46.2.1 rfl 0 0 rfl rfl rfl ?_
  refine J_iconst (v := 2) hK qd3_46.2.2.1 rfl (by decide) ?_
  refine J_icmp_ne (tg := 23) hK qd3_46.2.2.2.1 rfl rfl (fun hc5 => ?_) (fun hc5 => ?_)
  · have hf := iq hc5 hf
    refine J_aload_n hK qd3_46.2.2.2.2.2.2.2.2.2.2.2.2.1 rfl 0 rfl rfl ?_
    obtain ⟨⟨v1, g2⟩, e3, hf⟩ := bs hf
    have hf := un2 hf
    refine J_callV (m := 1) (m' := 1) (ce' := 0) (sl' := 0) (gr := []) (gs' := fun _ => [gMd d h0 a0_kept a0_tried a0_chosen r0_rows r0_line r0_good r0_work x0_shelf x0_rowSort x0_rowSize x0_moved x0_shown x0_tape x0_tapeSize x0_refused x0_lines x0_changes x0_coins x0_goods x0_works x0_years x0_gone x0_spent x0_at x0_token x0_from x0_figures g2 x0_numbers x0_statements x0_left x0_far x0_tons x0_way x0_steps x0_met x0_queue x0_totals]) (st' := fun _ => [.int v1]) (st := []) hK qd3_46.2.2.2.2.2.2.2.2.2.2.2.2.2.1 cv_RX7_187 iv_yX7_wrong (As := []) (kX7_wrong _ d h0 r0_rows r0_line r0_good r0_work a0_kept a0_tried a0_chosen x0_shelf x0_rowSort x0_rowSize x0_rows x0_moved x0_shown x0_tape x0_tapeSize x0_refused x0_lines x0_line x0_changes x0_coins x0_goods x0_good x0_works x0_work x0_years x0_gone x0_spent x0_at x0_token x0_from x0_figures x0_fault x0_numbers x0_statements x0_left x0_far x0_tons x0_way x0_steps x0_met x0_queue x0_totals e3) rfl rfl (Nat.le_of_ble_eq_true rfl) (by decide) 0 0 rfl rfl rfl [0] [] rfl (by decide +kernel) rfl rfl [0] (by decide +kernel) (fun _ => rfl) (fun _ => rfl) rfl rfl rfl (fun _ => rfl) (fun _ => ?_)
    obtain ⟨v4, ev4, hf⟩ := bs hf
    obtain rfl := Option.some.inj hf
    exact J_zret hK hR qd3_46.2.2.2.2.2.2.2.2.2.2.2.2.2.2.1 () (zb_ok ev4).2 (by rw [(zb_ok ev4).1]) (by decide) (by decide)
  · have hf := ip hc5 hf
    refine J_aload_n hK qd3_46.2.2.2.2.1 rfl 0 rfl rfl ?_
    refine J_get hK fo_RX7_155 qd3_46.2.2.2.2.2.1 rfl 0 0 rfl rfl rfl ?_
    refine J_iload_n hK qd3_46.2.2.2.2.2.2.1 rfl 3 rfl rfl ?_
    refine J_i2l hK qd3_46.2.2.2.2.2.2.2.1 rfl ?_
    refine J_iload hK qd3_46.2.2.2.2.2.2.2.2.1 rfl 4 rfl ?_
    refine J_i2l hK qd3_46.2.2.2.2.2.2.2.2.2.1 rfl ?_
    obtain ⟨v5, e6, hf⟩ := bs hf
    refine J_callS (m := 1) (m' := 1) (ce' := 0) (sl' := 0) (gr := [gMd d h0 a0_kept a0_tried a0_chosen r0_rows r0_line r0_good r0_work x0_shelf x0_rowSort x0_rowSize x0_moved x0_shown x0_tape x0_tapeSize x0_refused x0_lines x0_changes x0_coins x0_goods x0_works x0_years x0_gone x0_spent x0_at x0_token x0_from x0_figures x0_fault x0_numbers x0_statements x0_left x0_far x0_tons x0_way x0_steps x0_met x0_queue x0_totals]) (gs' := fun _ => [gMd d h0 a0_kept a0_tried a0_chosen r0_rows r0_line r0_good r0_work x0_shelf x0_rowSort x0_rowSize x0_moved x0_shown x0_tape x0_tapeSize x0_refused x0_lines x0_changes x0_coins x0_goods x0_works x0_years x0_gone x0_spent x0_at x0_token x0_from x0_figures x0_fault x0_numbers x0_statements x0_left x0_far x0_tons x0_way x0_steps x0_met x0_queue x0_totals]) (st' := fun _ => [.int v5]) (st := []) hK qd3_46.2.2.2.2.2.2.2.2.2.2.1 cv_RX7_78 ws_yX7_in (As := [.long x0_figures, .long ((p3).toInt64), .long ((p4).toInt64)]) (kX7_in _ d x0_figures ((p3).toInt64) ((p4).toInt64) e6) rfl rfl (Nat.le_of_ble_eq_true rfl) (by decide) [] [0] rfl (by decide +kernel) rfl rfl [0] (by decide +kernel) (fun _ => rfl) (fun _ => rfl) rfl rfl rfl (fun _ => rfl) (fun _ => ?_)
    refine J_if_ne (tg := 28) hK qd3_46.2.2.2.2.2.2.2.2.2.2.2.1 rfl rfl (fun hc20 => ?_) (fun hc20 => ?_)
    · have hf := iq hc20 hf
      refine J_aload_n hK qd3_46.2.2.2.2.2.2.2.2.2.2.2.2.2.2.2.1 rfl 1 rfl rfl ?_
      refine J_iload_n hK qd3_47.1 rfl 2 rfl rfl ?_
      refine J_aload_n hK qd3_47.2.1 rfl 0 rfl rfl ?_
      refine J_get hK fo_RX7_155 qd3_47.2.2.1 rfl 0 0 rfl rfl rfl ?_
      refine J_l2i hK qd3_47.2.2.2.1 rfl ?_
      obtain ⟨f7, ef7, hf⟩ := bs hf
      refine J_iast (g' := gMd d h0 a0_kept a0_tried a0_chosen r0_rows r0_line r0_good r0_work x0_shelf x0_rowSort x0_rowSize x0_moved x0_shown x0_tape x0_tapeSize x0_refused x0_lines x0_changes f7 x0_goods x0_works x0_years x0_gone x0_spent x0_at x0_token x0_from x0_figures x0_fault x0_numbers x0_statements x0_left x0_far x0_tons x0_way x0_steps x0_met x0_queue x0_totals) (gs' := [gMd d h0 a0_kept a0_tried a0_chosen r0_rows r0_line r0_good r0_work x0_shelf x0_rowSort x0_rowSize x0_moved x0_shown x0_tape x0_tapeSize x0_refused x0_lines x0_changes f7 x0_goods x0_works x0_years x0_gone x0_spent x0_at x0_token x0_from x0_figures x0_fault x0_numbers x0_statements x0_left x0_far x0_tons x0_way x0_steps x0_met x0_queue x0_totals]) hK qd3_47.2.2.2.2.1 rfl 0 11 rfl rfl ef7 rfl rfl ?_
      refine J_aload_n hK qd3_47.2.2.2.2.2.1 rfl 0 rfl rfl ?_
      obtain ⟨⟨g8, g9, g10, g11⟩, e12, hf⟩ := bs hf
      have hf := un4 hf
      refine J_callV (m := 1) (m' := 1) (ce' := 0) (sl' := 0) (gr := []) (gs' := fun _ => [gMd d h0 a0_kept a0_tried a0_chosen r0_rows r0_line r0_good r0_work x0_shelf x0_rowSort x0_rowSize x0_moved x0_shown x0_tape x0_tapeSize x0_refused x0_lines x0_changes f7 x0_goods x0_works x0_years x0_gone x0_spent g8 g9 g10 g11 x0_fault x0_numbers x0_statements x0_left x0_far x0_tons x0_way x0_steps x0_met x0_queue x0_totals]) (st' := fun _ => []) (st := []) hK qd3_47.2.2.2.2.2.2.1 cv_RX7_191 iv_yX7_look (As := []) (kX7_look _ d h0 r0_rows r0_line r0_good r0_work a0_kept a0_tried a0_chosen n x0_shelf x0_rowSort x0_rowSize x0_rows x0_moved x0_shown x0_tape x0_tapeSize x0_refused x0_lines x0_line x0_changes f7 x0_goods x0_good x0_works x0_work x0_years x0_gone x0_spent x0_at x0_token x0_from x0_figures x0_fault x0_numbers x0_statements x0_left x0_far x0_tons x0_way x0_steps x0_met x0_queue x0_totals e12) rfl rfl (Nat.le_of_ble_eq_true rfl) (by decide) 0 0 rfl rfl rfl [0] [] rfl (by decide +kernel) rfl rfl [0] (by decide +kernel) (fun _ => rfl) (fun _ => rfl) rfl rfl rfl (fun _ => rfl) (fun _ => ?_)
      refine J_iconst (v := 1) hK qd3_47.2.2.2.2.2.2.2.1 rfl (by decide) ?_
      obtain rfl := Option.some.inj hf
      exact J_zret hK hR qd3_47.2.2.2.2.2.2.2.2.1 () rfl rfl (by decide) (by decide)
    · have hf := ip hc20 hf
      refine J_aload_n hK qd3_46.2.2.2.2.2.2.2.2.2.2.2.2.1 rfl 0 rfl rfl ?_
      obtain ⟨⟨v13, g14⟩, e15, hf⟩ := bs hf
      have hf := un2 hf
      refine J_callV (m := 1) (m' := 1) (ce' := 0) (sl' := 0) (gr := []) (gs' := fun _ => [gMd d h0 a0_kept a0_tried a0_chosen r0_rows r0_line r0_good r0_work x0_shelf x0_rowSort x0_rowSize x0_moved x0_shown x0_tape x0_tapeSize x0_refused x0_lines x0_changes x0_coins x0_goods x0_works x0_years x0_gone x0_spent x0_at x0_token x0_from x0_figures g14 x0_numbers x0_statements x0_left x0_far x0_tons x0_way x0_steps x0_met x0_queue x0_totals]) (st' := fun _ => [.int v13]) (st := []) hK qd3_46.2.2.2.2.2.2.2.2.2.2.2.2.2.1 cv_RX7_187 iv_yX7_wrong (As := []) (kX7_wrong _ d h0 r0_rows r0_line r0_good r0_work a0_kept a0_tried a0_chosen x0_shelf x0_rowSort x0_rowSize x0_rows x0_moved x0_shown x0_tape x0_tapeSize x0_refused x0_lines x0_line x0_changes x0_coins x0_goods x0_good x0_works x0_work x0_years x0_gone x0_spent x0_at x0_token x0_from x0_figures x0_fault x0_numbers x0_statements x0_left x0_far x0_tons x0_way x0_steps x0_met x0_queue x0_totals e15) rfl rfl (Nat.le_of_ble_eq_true rfl) (by decide) 0 0 rfl rfl rfl [0] [] rfl (by decide +kernel) rfl rfl [0] (by decide +kernel) (fun _ => rfl) (fun _ => rfl) rfl rfl rfl (fun _ => rfl) (fun _ => ?_)
      obtain ⟨v16, ev16, hf⟩ := bs hf
      obtain rfl := Option.some.inj hf
      exact J_zret hK hR qd3_46.2.2.2.2.2.2.2.2.2.2.2.2.2.2.1 () (zb_ok ev16).2 (by rw [(zb_ok ev16).1]) (by decide) (by decide)

def fX7_statement_j214 (n : Nat) (x0_shelf : (Nat → Int32)) (x0_rowSort : (Nat → Int32)) (x0_rowSize : (Nat → Int32)) (x0_rows : (Nat → Nat → Int64)) (x0_moved : (Nat → Int64)) (x0_shown : (Nat → Int32)) (x0_tape : (Nat → Int32)) (x0_tapeSize : Int32) (x0_refused : (Nat → Int32)) (x0_lines : Int32) (x0_line : (Nat → Nat → Int32)) (x0_changes : (Nat → Int32)) (x0_coins : (Nat → Int32)) (x0_goods : Int32) (x0_good : (Nat → Nat → Int32)) (x0_works : Int32) (x0_work : (Nat → Nat → Int32)) (x0_years : Int32) (x0_gone : Int32) (x0_spent : Int32) (x0_at : Int32) (x0_token : Int32) (x0_from : Int32) (x0_figures : Int64) (x0_fault : Int32) (x0_numbers : (Nat → Int32)) (x0_statements : Int32) (x0_left : (Nat → Int32)) (x0_far : (Nat → Int32)) (x0_tons : Int32) (x0_way : (Nat → Int32)) (x0_steps : Int32) (x0_met : Int64) (x0_queue : (Nat → Int32)) (x0_totals : (Nat → Int32)) : Option (Int32 × (Int32 × (Nat → Nat → Int32) × (Nat → Int32) × (Nat → Int32) × Int32 × (Nat → Nat → Int32) × Int32 × (Nat → Nat → Int32) × Int32 × Int32 × Int32 × Int32 × Int64 × Int32 × (Nat → Int32))) :=
  (fX7_isWord n (x0_shelf, x0_rowSort, x0_rowSize, x0_rows, x0_moved, x0_shown, x0_tape, x0_tapeSize, x0_refused, x0_lines, x0_line, x0_changes, x0_coins, x0_goods, x0_good, x0_works, x0_work, x0_years, x0_gone, x0_spent, x0_at, x0_token, x0_from, x0_figures, x0_fault, x0_numbers, x0_statements, x0_left, x0_far, x0_tons, x0_way, x0_steps, x0_met, x0_queue, x0_totals) 17).bind (fun v7 => if v7 = 0 then ((fX7_isWord n (x0_shelf, x0_rowSort, x0_rowSize, x0_rows, x0_moved, x0_shown, x0_tape, x0_tapeSize, x0_refused, x0_lines, x0_line, x0_changes, x0_coins, x0_goods, x0_good, x0_works, x0_work, x0_years, x0_gone, x0_spent, x0_at, x0_token, x0_from, x0_figures, x0_fault, x0_numbers, x0_statements, x0_left, x0_far, x0_tons, x0_way, x0_steps, x0_met, x0_queue, x0_totals) 18).bind (fun v9 => if v9 = 0 then ((fX7_toldN n (x0_shelf, x0_rowSort, x0_rowSize, x0_rows, x0_moved, x0_shown, x0_tape, x0_tapeSize, x0_refused, x0_lines, x0_line, x0_changes, x0_coins, x0_goods, x0_good, x0_works, x0_work, x0_years, x0_gone, x0_spent, x0_at, x0_token, x0_from, x0_figures, x0_fault, x0_numbers, x0_statements, x0_left, x0_far, x0_tons, x0_way, x0_steps, x0_met, x0_queue, x0_totals) 19 (0) (1) (30)).bind (u2 fun v11 G12 => u6 (fun g13 g14 g15 g16 g17 g18 => if v11 = 0 then ((zb v11).bind fun v20 => some (v20, (x0_lines, x0_line, x0_changes, x0_coins, x0_goods, x0_good, x0_works, x0_work, x0_years, g13, g14, g15, g16, g17, g18))) else ((rd 2 g18 (0)).bind fun v21 => (zb v11).bind fun v22 => some (v22, (x0_lines, x0_line, x0_changes, x0_coins, x0_goods, x0_good, x0_works, x0_work, v21, g13, g14, g15, g16, g17, g18)))) G12)) else ((fX7_toldN n (x0_shelf, x0_rowSort, x0_rowSize, x0_rows, x0_moved, x0_shown, x0_tape, x0_tapeSize, x0_refused, x0_lines, x0_line, x0_changes, x0_coins, x0_goods, x0_good, x0_works, x0_work, x0_years, x0_gone, x0_spent, x0_at, x0_token, x0_from, x0_figures, x0_fault, x0_numbers, x0_statements, x0_left, x0_far, x0_tons, x0_way, x0_steps, x0_met, x0_queue, x0_totals) 18 (0) (0) (2)).bind (u2 fun v23 G24 => u6 (fun g25 g26 g27 g28 g29 g30 => if v23 = 0 then (some (0, (x0_lines, x0_line, x0_changes, x0_coins, x0_goods, x0_good, x0_works, x0_work, x0_years, g25, g26, g27, g28, g29, g30))) else ((rd 2 g30 (0)).bind fun v32 => (fX7_numberO n (x0_shelf, x0_rowSort, x0_rowSize, x0_rows, x0_moved, x0_shown, x0_tape, x0_tapeSize, x0_refused, x0_lines, x0_line, x0_changes, x0_coins, x0_goods, x0_good, x0_works, x0_work, x0_years, x0_gone, x0_spent, g25, g26, g27, g28, g29, g30, x0_statements, x0_left, x0_far, x0_tons, x0_way, x0_steps, x0_met, x0_queue, x0_totals) v32 (0) (9)).bind (u2 fun v33 G34 => u6 (fun g35 g36 g37 g38 g39 g40 => if v33 = 0 then (some (0, (x0_lines, x0_line, x0_changes, g35, x0_goods, x0_good, x0_works, x0_work, x0_years, g36, g37, g38, g39, g40, g30))) else (some (1, (x0_lines, x0_line, x0_changes, g35, x0_goods, x0_good, x0_works, x0_work, x0_years, g36, g37, g38, g39, g40, g30)))) G34))) G24)))) else ((fX7_toldN n (x0_shelf, x0_rowSort, x0_rowSize, x0_rows, x0_moved, x0_shown, x0_tape, x0_tapeSize, x0_refused, x0_lines, x0_line, x0_changes, x0_coins, x0_goods, x0_good, x0_works, x0_work, x0_years, x0_gone, x0_spent, x0_at, x0_token, x0_from, x0_figures, x0_fault, x0_numbers, x0_statements, x0_left, x0_far, x0_tons, x0_way, x0_steps, x0_met, x0_queue, x0_totals) 17 (0) (0) (11)).bind (u2 fun v42 G43 => u6 (fun g44 g45 g46 g47 g48 g49 => if v42 = 0 then (some (0, (x0_lines, x0_line, x0_changes, x0_coins, x0_goods, x0_good, x0_works, x0_work, x0_years, g44, g45, g46, g47, g48, g49))) else ((rd 2 g49 (0)).bind fun v51 => (fX7_numberC n (x0_shelf, x0_rowSort, x0_rowSize, x0_rows, x0_moved, x0_shown, x0_tape, x0_tapeSize, x0_refused, x0_lines, x0_line, x0_changes, x0_coins, x0_goods, x0_good, x0_works, x0_work, x0_years, x0_gone, x0_spent, g44, g45, g46, g47, g48, g49, x0_statements, x0_left, x0_far, x0_tons, x0_way, x0_steps, x0_met, x0_queue, x0_totals) v51 (0) (99)).bind (u2 fun v52 G53 => u6 (fun g54 g55 g56 g57 g58 g59 => if v52 = 0 then (some (0, (x0_lines, x0_line, g54, x0_coins, x0_goods, x0_good, x0_works, x0_work, x0_years, g55, g56, g57, g58, g59, g49))) else (some (1, (x0_lines, x0_line, g54, x0_coins, x0_goods, x0_good, x0_works, x0_work, x0_years, g55, g56, g57, g58, g59, g49)))) G53))) G43)))
def fX7_statement_j182 (n : Nat) (x0_shelf : (Nat → Int32)) (x0_rowSort : (Nat → Int32)) (x0_rowSize : (Nat → Int32)) (x0_rows : (Nat → Nat → Int64)) (x0_moved : (Nat → Int64)) (x0_shown : (Nat → Int32)) (x0_tape : (Nat → Int32)) (x0_tapeSize : Int32) (x0_refused : (Nat → Int32)) (x0_lines : Int32) (x0_line : (Nat → Nat → Int32)) (x0_changes : (Nat → Int32)) (x0_coins : (Nat → Int32)) (x0_goods : Int32) (x0_good : (Nat → Nat → Int32)) (x0_works : Int32) (x0_work : (Nat → Nat → Int32)) (x0_years : Int32) (x0_gone : Int32) (x0_spent : Int32) (x0_at : Int32) (x0_token : Int32) (x0_from : Int32) (x0_figures : Int64) (x0_fault : Int32) (x0_numbers : (Nat → Int32)) (x0_statements : Int32) (x0_left : (Nat → Int32)) (x0_far : (Nat → Int32)) (x0_tons : Int32) (x0_way : (Nat → Int32)) (x0_steps : Int32) (x0_met : Int64) (x0_queue : (Nat → Int32)) (x0_totals : (Nat → Int32)) : Option (Int32 × (Int32 × (Nat → Nat → Int32) × (Nat → Int32) × (Nat → Int32) × Int32 × (Nat → Nat → Int32) × Int32 × (Nat → Nat → Int32) × Int32 × Int32 × Int32 × Int32 × Int64 × Int32 × (Nat → Int32))) :=
  (fX7_isWord n (x0_shelf, x0_rowSort, x0_rowSize, x0_rows, x0_moved, x0_shown, x0_tape, x0_tapeSize, x0_refused, x0_lines, x0_line, x0_changes, x0_coins, x0_goods, x0_good, x0_works, x0_work, x0_years, x0_gone, x0_spent, x0_at, x0_token, x0_from, x0_figures, x0_fault, x0_numbers, x0_statements, x0_left, x0_far, x0_tons, x0_way, x0_steps, x0_met, x0_queue, x0_totals) 16).bind (fun v5 => if v5 = 0 then (fX7_statement_j214 n x0_shelf x0_rowSort x0_rowSize x0_rows x0_moved x0_shown x0_tape x0_tapeSize x0_refused x0_lines x0_line x0_changes x0_coins x0_goods x0_good x0_works x0_work x0_years x0_gone x0_spent x0_at x0_token x0_from x0_figures x0_fault x0_numbers x0_statements x0_left x0_far x0_tons x0_way x0_steps x0_met x0_queue x0_totals) else (if 7 ≤ x0_works then (fX7_statement_j214 n x0_shelf x0_rowSort x0_rowSize x0_rows x0_moved x0_shown x0_tape x0_tapeSize x0_refused x0_lines x0_line x0_changes x0_coins x0_goods x0_good x0_works x0_work x0_years x0_gone x0_spent x0_at x0_token x0_from x0_figures x0_fault x0_numbers x0_statements x0_left x0_far x0_tons x0_way x0_steps x0_met x0_queue x0_totals) else ((ck x0_works 7).bind fun q61 => (fX7_workTold n (x0_shelf, x0_rowSort, x0_rowSize, x0_rows, x0_moved, x0_shown, x0_tape, x0_tapeSize, x0_refused, x0_lines, x0_line, x0_changes, x0_coins, x0_goods, x0_good, x0_works, x0_work, x0_years, x0_gone, x0_spent, x0_at, x0_token, x0_from, x0_figures, x0_fault, x0_numbers, x0_statements, x0_left, x0_far, x0_tons, x0_way, x0_steps, x0_met, x0_queue, x0_totals) 5 (x0_work q61)).bind (u3 fun v62 G63 g70 => u6 (fun g64 g65 g66 g67 g68 g69 => (zb v62).bind fun v72 => some (v72, (x0_lines, x0_line, x0_changes, x0_coins, x0_goods, x0_good, g64, (va_up x0_work q61 g70), x0_years, g65, g66, g67, g68, g69, x0_numbers))) G63))))
def fX7_statement_j114 (n : Nat) (x0_shelf : (Nat → Int32)) (x0_rowSort : (Nat → Int32)) (x0_rowSize : (Nat → Int32)) (x0_rows : (Nat → Nat → Int64)) (x0_moved : (Nat → Int64)) (x0_shown : (Nat → Int32)) (x0_tape : (Nat → Int32)) (x0_tapeSize : Int32) (x0_refused : (Nat → Int32)) (x0_lines : Int32) (x0_line : (Nat → Nat → Int32)) (x0_changes : (Nat → Int32)) (x0_coins : (Nat → Int32)) (x0_goods : Int32) (x0_good : (Nat → Nat → Int32)) (x0_works : Int32) (x0_work : (Nat → Nat → Int32)) (x0_years : Int32) (x0_gone : Int32) (x0_spent : Int32) (x0_at : Int32) (x0_token : Int32) (x0_from : Int32) (x0_figures : Int64) (x0_fault : Int32) (x0_numbers : (Nat → Int32)) (x0_statements : Int32) (x0_left : (Nat → Int32)) (x0_far : (Nat → Int32)) (x0_tons : Int32) (x0_way : (Nat → Int32)) (x0_steps : Int32) (x0_met : Int64) (x0_queue : (Nat → Int32)) (x0_totals : (Nat → Int32)) : Option (Int32 × (Int32 × (Nat → Nat → Int32) × (Nat → Int32) × (Nat → Int32) × Int32 × (Nat → Nat → Int32) × Int32 × (Nat → Nat → Int32) × Int32 × Int32 × Int32 × Int32 × Int64 × Int32 × (Nat → Int32))) :=
  (fX7_isWord n (x0_shelf, x0_rowSort, x0_rowSize, x0_rows, x0_moved, x0_shown, x0_tape, x0_tapeSize, x0_refused, x0_lines, x0_line, x0_changes, x0_coins, x0_goods, x0_good, x0_works, x0_work, x0_years, x0_gone, x0_spent, x0_at, x0_token, x0_from, x0_figures, x0_fault, x0_numbers, x0_statements, x0_left, x0_far, x0_tons, x0_way, x0_steps, x0_met, x0_queue, x0_totals) 15).bind (fun v3 => if v3 = 0 then (fX7_statement_j182 n x0_shelf x0_rowSort x0_rowSize x0_rows x0_moved x0_shown x0_tape x0_tapeSize x0_refused x0_lines x0_line x0_changes x0_coins x0_goods x0_good x0_works x0_work x0_years x0_gone x0_spent x0_at x0_token x0_from x0_figures x0_fault x0_numbers x0_statements x0_left x0_far x0_tons x0_way x0_steps x0_met x0_queue x0_totals) else (if 8 ≤ x0_goods then (fX7_statement_j182 n x0_shelf x0_rowSort x0_rowSize x0_rows x0_moved x0_shown x0_tape x0_tapeSize x0_refused x0_lines x0_line x0_changes x0_coins x0_goods x0_good x0_works x0_work x0_years x0_gone x0_spent x0_at x0_token x0_from x0_figures x0_fault x0_numbers x0_statements x0_left x0_far x0_tons x0_way x0_steps x0_met x0_queue x0_totals) else ((ck x0_goods 8).bind fun q73 => (fX7_two n (x0_shelf, x0_rowSort, x0_rowSize, x0_rows, x0_moved, x0_shown, x0_tape, x0_tapeSize, x0_refused, x0_lines, x0_line, x0_changes, x0_coins, x0_goods, x0_good, x0_works, x0_work, x0_years, x0_gone, x0_spent, x0_at, x0_token, x0_from, x0_figures, x0_fault, x0_numbers, x0_statements, x0_left, x0_far, x0_tons, x0_way, x0_steps, x0_met, x0_queue, x0_totals) 3 (x0_good q73)).bind (u3 fun v74 G75 g81 => u5 (fun g76 g77 g78 g79 g80 => if v74 = 0 then (some (0, (x0_lines, x0_line, x0_changes, x0_coins, x0_goods, (va_up x0_good q73 g81), x0_works, x0_work, x0_years, g76, g77, g78, g79, g80, x0_numbers))) else ((ck x0_goods 8).bind fun q83 => (fX7_number n (x0_shelf, x0_rowSort, x0_rowSize, x0_rows, x0_moved, x0_shown, x0_tape, x0_tapeSize, x0_refused, x0_lines, x0_line, x0_changes, x0_coins, x0_goods, (va_up x0_good q73 g81), x0_works, x0_work, x0_years, x0_gone, x0_spent, g76, g77, g78, g79, g80, x0_numbers, x0_statements, x0_left, x0_far, x0_tons, x0_way, x0_steps, x0_met, x0_queue, x0_totals) 3 ((va_up x0_good q73 g81) q83) (2) (1) (99)).bind (u3 fun v84 G85 g91 => u5 (fun g86 g87 g88 g89 g90 => if v84 = 0 then (some (0, (x0_lines, x0_line, x0_changes, x0_coins, x0_goods, (va_up (va_up x0_good q73 g81) q83 g91), x0_works, x0_work, x0_years, g86, g87, g88, g89, g90, x0_numbers))) else (some (1, (x0_lines, x0_line, x0_changes, x0_coins, (x0_goods + 1), (va_up (va_up x0_good q73 g81) q83 g91), x0_works, x0_work, x0_years, g86, g87, g88, g89, g90, x0_numbers)))) G85))) G75))))
def fX7_statement (n : Nat) (X0 : MdT) : Option (Int32 × (Int32 × (Nat → Nat → Int32) × (Nat → Int32) × (Nat → Int32) × Int32 × (Nat → Nat → Int32) × Int32 × (Nat → Nat → Int32) × Int32 × Int32 × Int32 × Int32 × Int64 × Int32 × (Nat → Int32))) :=
  u35 (fun (x0_shelf : (Nat → Int32)) (x0_rowSort : (Nat → Int32)) (x0_rowSize : (Nat → Int32)) (x0_rows : (Nat → Nat → Int64)) (x0_moved : (Nat → Int64)) (x0_shown : (Nat → Int32)) (x0_tape : (Nat → Int32)) (x0_tapeSize : Int32) (x0_refused : (Nat → Int32)) (x0_lines : Int32) (x0_line : (Nat → Nat → Int32)) (x0_changes : (Nat → Int32)) (x0_coins : (Nat → Int32)) (x0_goods : Int32) (x0_good : (Nat → Nat → Int32)) (x0_works : Int32) (x0_work : (Nat → Nat → Int32)) (x0_years : Int32) (x0_gone : Int32) (x0_spent : Int32) (x0_at : Int32) (x0_token : Int32) (x0_from : Int32) (x0_figures : Int64) (x0_fault : Int32) (x0_numbers : (Nat → Int32)) (x0_statements : Int32) (x0_left : (Nat → Int32)) (x0_far : (Nat → Int32)) (x0_tons : Int32) (x0_way : (Nat → Int32)) (x0_steps : Int32) (x0_met : Int64) (x0_queue : (Nat → Int32)) (x0_totals : (Nat → Int32)) => (fX7_isWord n (x0_shelf, x0_rowSort, x0_rowSize, x0_rows, x0_moved, x0_shown, x0_tape, x0_tapeSize, x0_refused, x0_lines, x0_line, x0_changes, x0_coins, x0_goods, x0_good, x0_works, x0_work, x0_years, x0_gone, x0_spent, x0_at, x0_token, x0_from, x0_figures, x0_fault, x0_numbers, x0_statements, x0_left, x0_far, x0_tons, x0_way, x0_steps, x0_met, x0_queue, x0_totals) 10).bind (fun v1 => if v1 = 0 then (fX7_statement_j114 n x0_shelf x0_rowSort x0_rowSize x0_rows x0_moved x0_shown x0_tape x0_tapeSize x0_refused x0_lines x0_line x0_changes x0_coins x0_goods x0_good x0_works x0_work x0_years x0_gone x0_spent x0_at x0_token x0_from x0_figures x0_fault x0_numbers x0_statements x0_left x0_far x0_tons x0_way x0_steps x0_met x0_queue x0_totals) else (if 20 ≤ x0_lines then (fX7_statement_j114 n x0_shelf x0_rowSort x0_rowSize x0_rows x0_moved x0_shown x0_tape x0_tapeSize x0_refused x0_lines x0_line x0_changes x0_coins x0_goods x0_good x0_works x0_work x0_years x0_gone x0_spent x0_at x0_token x0_from x0_figures x0_fault x0_numbers x0_statements x0_left x0_far x0_tons x0_way x0_steps x0_met x0_queue x0_totals) else ((ck x0_lines 20).bind fun q93 => (fX7_newLine (x0_shelf, x0_rowSort, x0_rowSize, x0_rows, x0_moved, x0_shown, x0_tape, x0_tapeSize, x0_refused, x0_lines, x0_line, x0_changes, x0_coins, x0_goods, x0_good, x0_works, x0_work, x0_years, x0_gone, x0_spent, x0_at, x0_token, x0_from, x0_figures, x0_fault, x0_numbers, x0_statements, x0_left, x0_far, x0_tons, x0_way, x0_steps, x0_met, x0_queue, x0_totals) (0) (0)).bind (fun g94 => (fX7_two n (x0_shelf, x0_rowSort, x0_rowSize, x0_rows, x0_moved, x0_shown, x0_tape, x0_tapeSize, x0_refused, x0_lines, g94, x0_changes, x0_coins, x0_goods, x0_good, x0_works, x0_work, x0_years, x0_gone, x0_spent, x0_at, x0_token, x0_from, x0_figures, x0_fault, x0_numbers, x0_statements, x0_left, x0_far, x0_tons, x0_way, x0_steps, x0_met, x0_queue, x0_totals) 7 (g94 q93)).bind (u3 fun v96 G97 g103 => u5 (fun g98 g99 g100 g101 g102 => if v96 = 0 then (some (0, (x0_lines, (va_up g94 q93 g103), x0_changes, x0_coins, x0_goods, x0_good, x0_works, x0_work, x0_years, g98, g99, g100, g101, g102, x0_numbers))) else ((fX7_told n (x0_shelf, x0_rowSort, x0_rowSize, x0_rows, x0_moved, x0_shown, x0_tape, x0_tapeSize, x0_refused, x0_lines, (va_up g94 q93 g103), x0_changes, x0_coins, x0_goods, x0_good, x0_works, x0_work, x0_years, x0_gone, x0_spent, g98, g99, g100, g101, g102, x0_numbers, x0_statements, x0_left, x0_far, x0_tons, x0_way, x0_steps, x0_met, x0_queue, x0_totals) 11 7 ((va_up g94 q93 g103) q93) (2) (1) (7)).bind (u3 fun v105 G106 g112 => u5 (fun g107 g108 g109 g110 g111 => if v105 = 0 then (some (0, (x0_lines, (va_up (va_up g94 q93 g103) q93 g112), x0_changes, x0_coins, x0_goods, x0_good, x0_works, x0_work, x0_years, g107, g108, g109, g110, g111, x0_numbers))) else ((fX7_told n (x0_shelf, x0_rowSort, x0_rowSize, x0_rows, x0_moved, x0_shown, x0_tape, x0_tapeSize, x0_refused, x0_lines, (va_up (va_up g94 q93 g103) q93 g112), x0_changes, x0_coins, x0_goods, x0_good, x0_works, x0_work, x0_years, x0_gone, x0_spent, g107, g108, g109, g110, g111, x0_numbers, x0_statements, x0_left, x0_far, x0_tons, x0_way, x0_steps, x0_met, x0_queue, x0_totals) 12 7 ((va_up (va_up g94 q93 g103) q93 g112) q93) (3) (1) (60)).bind (u3 fun v114 G115 g121 => u5 (fun g116 g117 g118 g119 g120 => if v114 = 0 then (some (0, (x0_lines, (va_up (va_up (va_up g94 q93 g103) q93 g112) q93 g121), x0_changes, x0_coins, x0_goods, x0_good, x0_works, x0_work, x0_years, g116, g117, g118, g119, g120, x0_numbers))) else ((fX7_perhaps n (x0_shelf, x0_rowSort, x0_rowSize, x0_rows, x0_moved, x0_shown, x0_tape, x0_tapeSize, x0_refused, x0_lines, (va_up (va_up (va_up g94 q93 g103) q93 g112) q93 g121), x0_changes, x0_coins, x0_goods, x0_good, x0_works, x0_work, x0_years, x0_gone, x0_spent, g116, g117, g118, g119, g120, x0_numbers, x0_statements, x0_left, x0_far, x0_tons, x0_way, x0_steps, x0_met, x0_queue, x0_totals) 13 7 ((va_up (va_up (va_up g94 q93 g103) q93 g112) q93 g121) q93) (4) (1) (999)).bind (u3 fun v123 G124 g130 => u5 (fun g125 g126 g127 g128 g129 => if v123 = 0 then (some (0, (x0_lines, (va_up (va_up (va_up (va_up g94 q93 g103) q93 g112) q93 g121) q93 g130), x0_changes, x0_coins, x0_goods, x0_good, x0_works, x0_work, x0_years, g125, g126, g127, g128, g129, x0_numbers))) else ((fX7_perhaps n (x0_shelf, x0_rowSort, x0_rowSize, x0_rows, x0_moved, x0_shown, x0_tape, x0_tapeSize, x0_refused, x0_lines, (va_up (va_up (va_up (va_up g94 q93 g103) q93 g112) q93 g121) q93 g130), x0_changes, x0_coins, x0_goods, x0_good, x0_works, x0_work, x0_years, x0_gone, x0_spent, g125, g126, g127, g128, g129, x0_numbers, x0_statements, x0_left, x0_far, x0_tons, x0_way, x0_steps, x0_met, x0_queue, x0_totals) 14 7 ((va_up (va_up (va_up (va_up g94 q93 g103) q93 g112) q93 g121) q93 g130) q93) (5) (0) (5)).bind (u3 fun v132 G133 g139 => u5 (fun g134 g135 g136 g137 g138 => if v132 = 0 then (some (0, (x0_lines, (va_up (va_up (va_up (va_up (va_up g94 q93 g103) q93 g112) q93 g121) q93 g130) q93 g139), x0_changes, x0_coins, x0_goods, x0_good, x0_works, x0_work, x0_years, g134, g135, g136, g137, g138, x0_numbers))) else (some (1, ((x0_lines + 1), (va_up (va_up (va_up (va_up (va_up g94 q93 g103) q93 g112) q93 g121) q93 g130) q93 g139), x0_changes, x0_coins, x0_goods, x0_good, x0_works, x0_work, x0_years, g134, g135, g136, g137, g138, x0_numbers)))) G133))) G124))) G115))) G106))) G97)))))) X0
set_option maxHeartbeats 4000000 in
set_option maxRecDepth 100000 in
theorem kX7_statement (l : Launch) (d : DT) (h0 : Nat → Nat) (r0_rows : Nat → Nat) (r0_line : Nat → Nat) (r0_good : Nat → Nat) (r0_work : Nat → Nat) (a0_kept : Option Nat) (a0_tried : Option Nat) (a0_chosen : Option Nat) (n : Nat) (x0_shelf : (Nat → Int32)) (x0_rowSort : (Nat → Int32)) (x0_rowSize : (Nat → Int32)) (x0_rows : (Nat → Nat → Int64)) (x0_moved : (Nat → Int64)) (x0_shown : (Nat → Int32)) (x0_tape : (Nat → Int32)) (x0_tapeSize : Int32) (x0_refused : (Nat → Int32)) (x0_lines : Int32) (x0_line : (Nat → Nat → Int32)) (x0_changes : (Nat → Int32)) (x0_coins : (Nat → Int32)) (x0_goods : Int32) (x0_good : (Nat → Nat → Int32)) (x0_works : Int32) (x0_work : (Nat → Nat → Int32)) (x0_years : Int32) (x0_gone : Int32) (x0_spent : Int32) (x0_at : Int32) (x0_token : Int32) (x0_from : Int32) (x0_figures : Int64) (x0_fault : Int32) (x0_numbers : (Nat → Int32)) (x0_statements : Int32) (x0_left : (Nat → Int32)) (x0_far : (Nat → Int32)) (x0_tons : Int32) (x0_way : (Nat → Int32)) (x0_steps : Int32) (x0_met : Int64) (x0_queue : (Nat → Int32)) (x0_totals : (Nat → Int32))  {out : Int32 × (Int32 × (Nat → Nat → Int32) × (Nat → Int32) × (Nat → Int32) × Int32 × (Nat → Nat → Int32) × Int32 × (Nat → Nat → Int32) × Int32 × Int32 × Int32 × Int32 × Int64 × Int32 × (Nat → Int32))} (hf : fX7_statement n (x0_shelf, x0_rowSort, x0_rowSize, x0_rows, x0_moved, x0_shown, x0_tape, x0_tapeSize, x0_refused, x0_lines, x0_line, x0_changes, x0_coins, x0_goods, x0_good, x0_works, x0_work, x0_years, x0_gone, x0_spent, x0_at, x0_token, x0_from, x0_figures, x0_fault, x0_numbers, x0_statements, x0_left, x0_far, x0_tons, x0_way, x0_steps, x0_met, x0_queue, x0_totals) = some out) : Ct l d yX7_statement cX7_statement 2 (some .boolean) { frames := 7, cells := 0, slots := 0, locals := 157 } [.ref (h0 0)] [gMd d h0 a0_kept a0_tried a0_chosen r0_rows r0_line r0_good r0_work x0_shelf x0_rowSort x0_rowSize x0_moved x0_shown x0_tape x0_tapeSize x0_refused x0_lines x0_changes x0_coins x0_goods x0_works x0_years x0_gone x0_spent x0_at x0_token x0_from x0_figures x0_fault x0_numbers x0_statements x0_left x0_far x0_tons x0_way x0_steps x0_met x0_queue x0_totals, gridI d r0_line 20 7 x0_line, gridI d r0_good 8 3 x0_good, gridI d r0_work 7 5 x0_work] (fun _ : Unit => (some (.int out.1), [gMd d h0 a0_kept a0_tried a0_chosen r0_rows r0_line r0_good r0_work x0_shelf x0_rowSort x0_rowSize x0_moved x0_shown x0_tape x0_tapeSize x0_refused (out.2.1) (out.2.2.2.1) (out.2.2.2.2.1) (out.2.2.2.2.2.1) (out.2.2.2.2.2.2.2.1) (out.2.2.2.2.2.2.2.2.2.1) x0_gone x0_spent (out.2.2.2.2.2.2.2.2.2.2.1) (out.2.2.2.2.2.2.2.2.2.2.2.1) (out.2.2.2.2.2.2.2.2.2.2.2.2.1) (out.2.2.2.2.2.2.2.2.2.2.2.2.2.1) (out.2.2.2.2.2.2.2.2.2.2.2.2.2.2.1) (out.2.2.2.2.2.2.2.2.2.2.2.2.2.2.2) x0_statements x0_left x0_far x0_tons x0_way x0_steps x0_met x0_queue x0_totals, gridI d r0_line 20 7 (out.2.2.1), gridI d r0_good 8 3 (out.2.2.2.2.2.2.1), gridI d r0_work 7 5 (out.2.2.2.2.2.2.2.2.1)])) := by
  refine Ct.of (by decide) (Nat.le_of_ble_eq_true rfl) ?_
  intro Φ hl hK hR
  subst hl
  have hK : Ok d Φ RX7 "statement" cX7_statement 2 (some .boolean) { frames := 7, cells := 0, slots := 0, locals := 157 } := hK
  unfold fX7_statement at hf
  have hf := un35 hf
  show J d Φ 2 [gMd d h0 a0_kept a0_tried a0_chosen r0_rows r0_line r0_good r0_work x0_shelf x0_rowSort x0_rowSize x0_moved x0_shown x0_tape x0_tapeSize x0_refused x0_lines x0_changes x0_coins x0_goods x0_works x0_years x0_gone x0_spent x0_at x0_token x0_from x0_figures x0_fault x0_numbers x0_statements x0_left x0_far x0_tons x0_way x0_steps x0_met x0_queue x0_totals, gridI d r0_line 20 7 x0_line, gridI d r0_good 8 3 x0_good, gridI d r0_work 7 5 x0_work] 0 0 0 [(0, .ref (h0 0))] []
  refine J_aload_n hK qd3_53.1 rfl 0 rfl rfl ?_
  refine J_str hK qd3_53.2.1 rfl 10 rfl rfl rfl ?_
  obtain ⟨v1, e2, hf⟩ := bs hf
  refine J_callV (m := 4) (m' := 4) (ce' := 0) (sl' := 0) (gr := [gridI d r0_line 20 7 x0_line, gridI d r0_good 8 3 x0_good, gridI d r0_work 7 5 x0_work]) (gs' := fun _ => [gMd d h0 a0_kept a0_tried a0_chosen r0_rows r0_line r0_good r0_work x0_shelf x0_rowSort x0_rowSize x0_moved x0_shown x0_tape x0_tapeSize x0_refused x0_lines x0_changes x0_coins x0_goods x0_works x0_years x0_gone x0_spent x0_at x0_token x0_from x0_figures x0_fault x0_numbers x0_statements x0_left x0_far x0_tons x0_way x0_steps x0_met x0_queue x0_totals, gridI d r0_line 20 7 x0_line, gridI d r0_good 8 3 x0_good, gridI d r0_work 7 5 x0_work]) (st' := fun _ => [.int v1]) (st := []) hK qd3_53.2.2.1 cv_RX7_194 iv_yX7_isWord (As := [.ref (d.2.2.2.1 10)]) (kX7_isWord _ d h0 r0_rows r0_line r0_good r0_work a0_kept a0_tried a0_chosen n x0_shelf x0_rowSort x0_rowSize x0_rows x0_moved x0_shown x0_tape x0_tapeSize x0_refused x0_lines x0_line x0_changes x0_coins x0_goods x0_good x0_works x0_work x0_years x0_gone x0_spent x0_at x0_token x0_from x0_figures x0_fault x0_numbers x0_statements x0_left x0_far x0_tons x0_way x0_steps x0_met x0_queue x0_totals 10 e2) rfl rfl (Nat.le_of_ble_eq_true rfl) (by decide) 0 0 rfl rfl rfl [0] [1, 2, 3] rfl (by decide +kernel) rfl rfl [3, 0, 1, 2] (by decide +kernel) (fun _ => rfl) (fun _ => rfl) rfl rfl rfl (fun _ => rfl) (fun _ => ?_)
  have j114 : fX7_statement_j114 n x0_shelf x0_rowSort x0_rowSize x0_rows x0_moved x0_shown x0_tape x0_tapeSize x0_refused x0_lines x0_line x0_changes x0_coins x0_goods x0_good x0_works x0_work x0_years x0_gone x0_spent x0_at x0_token x0_from x0_figures x0_fault x0_numbers x0_statements x0_left x0_far x0_tons x0_way x0_steps x0_met x0_queue x0_totals = some out → J d Φ 2 [gMd d h0 a0_kept a0_tried a0_chosen r0_rows r0_line r0_good r0_work x0_shelf x0_rowSort x0_rowSize x0_moved x0_shown x0_tape x0_tapeSize x0_refused x0_lines x0_changes x0_coins x0_goods x0_works x0_years x0_gone x0_spent x0_at x0_token x0_from x0_figures x0_fault x0_numbers x0_statements x0_left x0_far x0_tons x0_way x0_steps x0_met x0_queue x0_totals, gridI d r0_line 20 7 x0_line, gridI d r0_good 8 3 x0_good, gridI d r0_work 7 5 x0_work] 0 0 114 [(0, .ref (h0 0))] [] := by
    intro  hf
    unfold fX7_statement_j114 at hf
    refine J_aload_n hK qd3_57.2.2.1 rfl 0 rfl rfl ?_
    refine J_str hK qd3_57.2.2.2.1 rfl 15 rfl rfl rfl ?_
    obtain ⟨v3, e4, hf⟩ := bs hf
    refine J_callV (m := 4) (m' := 4) (ce' := 0) (sl' := 0) (gr := [gridI d r0_line 20 7 x0_line, gridI d r0_good 8 3 x0_good, gridI d r0_work 7 5 x0_work]) (gs' := fun _ => [gMd d h0 a0_kept a0_tried a0_chosen r0_rows r0_line r0_good r0_work x0_shelf x0_rowSort x0_rowSize x0_moved x0_shown x0_tape x0_tapeSize x0_refused x0_lines x0_changes x0_coins x0_goods x0_works x0_years x0_gone x0_spent x0_at x0_token x0_from x0_figures x0_fault x0_numbers x0_statements x0_left x0_far x0_tons x0_way x0_steps x0_met x0_queue x0_totals, gridI d r0_line 20 7 x0_line, gridI d r0_good 8 3 x0_good, gridI d r0_work 7 5 x0_work]) (st' := fun _ => [.int v3]) (st := []) hK qd3_57.2.2.2.2.1 cv_RX7_194 iv_yX7_isWord (As := [.ref (d.2.2.2.1 15)]) (kX7_isWord _ d h0 r0_rows r0_line r0_good r0_work a0_kept a0_tried a0_chosen n x0_shelf x0_rowSort x0_rowSize x0_rows x0_moved x0_shown x0_tape x0_tapeSize x0_refused x0_lines x0_line x0_changes x0_coins x0_goods x0_good x0_works x0_work x0_years x0_gone x0_spent x0_at x0_token x0_from x0_figures x0_fault x0_numbers x0_statements x0_left x0_far x0_tons x0_way x0_steps x0_met x0_queue x0_totals 15 e4) rfl rfl (Nat.le_of_ble_eq_true rfl) (by decide) 0 0 rfl rfl rfl [0] [1, 2, 3] rfl (by decide +kernel) rfl rfl [3, 0, 1, 2] (by decide +kernel) (fun _ => rfl) (fun _ => rfl) rfl rfl rfl (fun _ => rfl) (fun _ => ?_)
    have j182 : fX7_statement_j182 n x0_shelf x0_rowSort x0_rowSize x0_rows x0_moved x0_shown x0_tape x0_tapeSize x0_refused x0_lines x0_line x0_changes x0_coins x0_goods x0_good x0_works x0_work x0_years x0_gone x0_spent x0_at x0_token x0_from x0_figures x0_fault x0_numbers x0_statements x0_left x0_far x0_tons x0_way x0_steps x0_met x0_queue x0_totals = some out → J d Φ 2 [gMd d h0 a0_kept a0_tried a0_chosen r0_rows r0_line r0_good r0_work x0_shelf x0_rowSort x0_rowSize x0_moved x0_shown x0_tape x0_tapeSize x0_refused x0_lines x0_changes x0_coins x0_goods x0_works x0_years x0_gone x0_spent x0_at x0_token x0_from x0_figures x0_fault x0_numbers x0_statements x0_left x0_far x0_tons x0_way x0_steps x0_met x0_queue x0_totals, gridI d r0_line 20 7 x0_line, gridI d r0_good 8 3 x0_good, gridI d r0_work 7 5 x0_work] 0 0 182 [(0, .ref (h0 0))] [] := by
      intro  hf
      unfold fX7_statement_j182 at hf
      refine J_aload_n hK qd3_59.2.2.2.2.2.2.2.1 rfl 0 rfl rfl ?_
      refine J_str hK qd3_59.2.2.2.2.2.2.2.2.1 rfl 16 rfl rfl rfl ?_
      obtain ⟨v5, e6, hf⟩ := bs hf
      refine J_callV (m := 4) (m' := 4) (ce' := 0) (sl' := 0) (gr := [gridI d r0_line 20 7 x0_line, gridI d r0_good 8 3 x0_good, gridI d r0_work 7 5 x0_work]) (gs' := fun _ => [gMd d h0 a0_kept a0_tried a0_chosen r0_rows r0_line r0_good r0_work x0_shelf x0_rowSort x0_rowSize x0_moved x0_shown x0_tape x0_tapeSize x0_refused x0_lines x0_changes x0_coins x0_goods x0_works x0_years x0_gone x0_spent x0_at x0_token x0_from x0_figures x0_fault x0_numbers x0_statements x0_left x0_far x0_tons x0_way x0_steps x0_met x0_queue x0_totals, gridI d r0_line 20 7 x0_line, gridI d r0_good 8 3 x0_good, gridI d r0_work 7 5 x0_work]) (st' := fun _ => [.int v5]) (st := []) hK qd3_59.2.2.2.2.2.2.2.2.2.1 cv_RX7_194 iv_yX7_isWord (As := [.ref (d.2.2.2.1 16)]) (kX7_isWord _ d h0 r0_rows r0_line r0_good r0_work a0_kept a0_tried a0_chosen n x0_shelf x0_rowSort x0_rowSize x0_rows x0_moved x0_shown x0_tape x0_tapeSize x0_refused x0_lines x0_line x0_changes x0_coins x0_goods x0_good x0_works x0_work x0_years x0_gone x0_spent x0_at x0_token x0_from x0_figures x0_fault x0_numbers x0_statements x0_left x0_far x0_tons x0_way x0_steps x0_met x0_queue x0_totals 16 e6) rfl rfl (Nat.le_of_ble_eq_true rfl) (by decide) 0 0 rfl rfl rfl [0] [1, 2, 3] rfl (by decide +kernel) rfl rfl [3, 0, 1, 2] (by decide +kernel) (fun _ => rfl) (fun _ => rfl) rfl rfl rfl (fun _ => rfl) (fun _ => ?_)
      have j214 : fX7_statement_j214 n x0_shelf x0_rowSort x0_rowSize x0_rows x0_moved x0_shown x0_tape x0_tapeSize x0_refused x0_lines x0_line x0_changes x0_coins x0_goods x0_good x0_works x0_work x0_years x0_gone x0_spent x0_at x0_token x0_from x0_figures x0_fault x0_numbers x0_statements x0_left x0_far x0_tons x0_way x0_steps x0_met x0_queue x0_totals = some out → J d Φ 2 [gMd d h0 a0_kept a0_tried a0_chosen r0_rows r0_line r0_good r0_work x0_shelf x0_rowSort x0_rowSize x0_moved x0_shown x0_tape x0_tapeSize x0_refused x0_lines x0_changes x0_coins x0_goods x0_works x0_years x0_gone x0_spent x0_at x0_token x0_from x0_figures x0_fault x0_numbers x0_statements x0_left x0_far x0_tons x0_way x0_steps x0_met x0_queue x0_totals, gridI d r0_line 20 7 x0_line, gridI d r0_good 8 3 x0_good, gridI d r0_work 7 5 x0_work] 0 0 214 [(0, .ref (h0 0))] [] := by
        intro  hf
        unfold fX7_statement_j214 at hf
        refine J_aload_n hK qd3_60.2.2.2.2.2.2.2.1 rfl 0 rfl rfl ?_
        refine J_str hK qd3_60.2.2.2.2.2.2.2.2.1 rfl 17 rfl rfl rfl ?_
        obtain ⟨v7, e8, hf⟩ := bs hf
        refine J_callV (m := 4) (m' := 4) (ce' := 0) (sl' := 0) (gr := [gridI d r0_line 20 7 x0_line, gridI d r0_good 8 3 x0_good, gridI d r0_work 7 5 x0_work]) (gs' := fun _ => [gMd d h0 a0_kept a0_tried a0_chosen r0_rows r0_line r0_good r0_work x0_shelf x0_rowSort x0_rowSize x0_moved x0_shown x0_tape x0_tapeSize x0_refused x0_lines x0_changes x0_coins x0_goods x0_works x0_years x0_gone x0_spent x0_at x0_token x0_from x0_figures x0_fault x0_numbers x0_statements x0_left x0_far x0_tons x0_way x0_steps x0_met x0_queue x0_totals, gridI d r0_line 20 7 x0_line, gridI d r0_good 8 3 x0_good, gridI d r0_work 7 5 x0_work]) (st' := fun _ => [.int v7]) (st := []) hK qd3_60.2.2.2.2.2.2.2.2.2.1 cv_RX7_194 iv_yX7_isWord (As := [.ref (d.2.2.2.1 17)]) (kX7_isWord _ d h0 r0_rows r0_line r0_good r0_work a0_kept a0_tried a0_chosen n x0_shelf x0_rowSort x0_rowSize x0_rows x0_moved x0_shown x0_tape x0_tapeSize x0_refused x0_lines x0_line x0_changes x0_coins x0_goods x0_good x0_works x0_work x0_years x0_gone x0_spent x0_at x0_token x0_from x0_figures x0_fault x0_numbers x0_statements x0_left x0_far x0_tons x0_way x0_steps x0_met x0_queue x0_totals 17 e8) rfl rfl (Nat.le_of_ble_eq_true rfl) (by decide) 0 0 rfl rfl rfl [0] [1, 2, 3] rfl (by decide +kernel) rfl rfl [3, 0, 1, 2] (by decide +kernel) (fun _ => rfl) (fun _ => rfl) rfl rfl rfl (fun _ => rfl) (fun _ => ?_)
        refine J_if_eq (tg := 266) hK qd3_60.2.2.2.2.2.2.2.2.2.2.1 rfl rfl (fun hc220 => ?_) (fun hc220 => ?_)
        · have hf := ip hc220 hf
          refine J_aload_n hK qd3_62.2.2.2.1 rfl 0 rfl rfl ?_
          refine J_str hK qd3_62.2.2.2.2.1 rfl 18 rfl rfl rfl ?_
          obtain ⟨v9, e10, hf⟩ := bs hf
          refine J_callV (m := 4) (m' := 4) (ce' := 0) (sl' := 0) (gr := [gridI d r0_line 20 7 x0_line, gridI d r0_good 8 3 x0_good, gridI d r0_work 7 5 x0_work]) (gs' := fun _ => [gMd d h0 a0_kept a0_tried a0_chosen r0_rows r0_line r0_good r0_work x0_shelf x0_rowSort x0_rowSize x0_moved x0_shown x0_tape x0_tapeSize x0_refused x0_lines x0_changes x0_coins x0_goods x0_works x0_years x0_gone x0_spent x0_at x0_token x0_from x0_figures x0_fault x0_numbers x0_statements x0_left x0_far x0_tons x0_way x0_steps x0_met x0_queue x0_totals, gridI d r0_line 20 7 x0_line, gridI d r0_good 8 3 x0_good, gridI d r0_work 7 5 x0_work]) (st' := fun _ => [.int v9]) (st := []) hK qd3_62.2.2.2.2.2.1 cv_RX7_194 iv_yX7_isWord (As := [.ref (d.2.2.2.1 18)]) (kX7_isWord _ d h0 r0_rows r0_line r0_good r0_work a0_kept a0_tried a0_chosen n x0_shelf x0_rowSort x0_rowSize x0_rows x0_moved x0_shown x0_tape x0_tapeSize x0_refused x0_lines x0_line x0_changes x0_coins x0_goods x0_good x0_works x0_work x0_years x0_gone x0_spent x0_at x0_token x0_from x0_figures x0_fault x0_numbers x0_statements x0_left x0_far x0_tons x0_way x0_steps x0_met x0_queue x0_totals 18 e10) rfl rfl (Nat.le_of_ble_eq_true rfl) (by decide) 0 0 rfl rfl rfl [0] [1, 2, 3] rfl (by decide +kernel) rfl rfl [3, 0, 1, 2] (by decide +kernel) (fun _ => rfl) (fun _ => rfl) rfl rfl rfl (fun _ => rfl) (fun _ => ?_)
          refine J_if_eq (tg := 317) hK qd3_62.2.2.2.2.2.2.1 rfl rfl (fun hc272 => ?_) (fun hc272 => ?_)
          · have hf := ip hc272 hf
            refine J_aload_n hK qd3_63.2.2.2.2.2.2.2.2.2.2.2.2.2.2.2.1 rfl 0 rfl rfl ?_
            refine J_str hK qd3_64.1 rfl 19 rfl rfl rfl ?_
            refine J_aload_n hK qd3_64.2.1 rfl 0 rfl rfl ?_
            refine J_get hK fo_RX7_58 qd3_64.2.2.1 rfl 0 0 rfl rfl rfl ?_
            refine J_iconst (v := 0) hK qd3_64.2.2.2.1 rfl (by decide) ?_
            refine J_iconst (v := 1) hK qd3_64.2.2.2.2.1 rfl (by decide) ?_
            refine J_bipush (v := 30) hK qd3_64.2.2.2.2.2.1 rfl (by decide) ?_
            obtain ⟨⟨v11, ⟨g13, g14, g15, g16, g17, g18⟩⟩, e19, hf⟩ := bs hf
            have hf := un2 hf
            have hf := un6 hf
            refine J_callV (m := 4) (m' := 4) (ce' := 0) (sl' := 0) (gr := [gridI d r0_line 20 7 x0_line, gridI d r0_good 8 3 x0_good, gridI d r0_work 7 5 x0_work]) (gs' := fun _ => [gMd d h0 a0_kept a0_tried a0_chosen r0_rows r0_line r0_good r0_work x0_shelf x0_rowSort x0_rowSize x0_moved x0_shown x0_tape x0_tapeSize x0_refused x0_lines x0_changes x0_coins x0_goods x0_works x0_years x0_gone x0_spent g13 g14 g15 g16 g17 g18 x0_statements x0_left x0_far x0_tons x0_way x0_steps x0_met x0_queue x0_totals, gridI d r0_line 20 7 x0_line, gridI d r0_good 8 3 x0_good, gridI d r0_work 7 5 x0_work]) (st' := fun _ => [.int v11]) (st := []) hK qd3_64.2.2.2.2.2.2.1 cv_RX7_202 iv_yX7_told (As := [.ref (d.2.2.2.1 19), .ref (h0 14), .int (0), .int (1), .int (30)]) (kX7_toldN _ d h0 r0_rows r0_line r0_good r0_work a0_kept a0_tried a0_chosen n x0_shelf x0_rowSort x0_rowSize x0_rows x0_moved x0_shown x0_tape x0_tapeSize x0_refused x0_lines x0_line x0_changes x0_coins x0_goods x0_good x0_works x0_work x0_years x0_gone x0_spent x0_at x0_token x0_from x0_figures x0_fault x0_numbers x0_statements x0_left x0_far x0_tons x0_way x0_steps x0_met x0_queue x0_totals 19 (0) (1) (30) e19) rfl rfl (Nat.le_of_ble_eq_true rfl) (by decide) 0 0 rfl rfl rfl [0] [1, 2, 3] rfl (by decide +kernel) rfl rfl [3, 0, 1, 2] (by decide +kernel) (fun _ => rfl) (fun _ => rfl) rfl rfl rfl (fun _ => rfl) (fun _ => ?_)
            refine J_istore_n (L' := [(1, .int v11), (0, .ref (h0 0))]) hK qd3_64.2.2.2.2.2.2.2.1 rfl rfl (by decide) rfl ?_
            refine J_aload_n hK qd3_64.2.2.2.2.2.2.2.2.1 rfl 1 rfl rfl ?_
            refine J_iload_n hK qd3_64.2.2.2.2.2.2.2.2.2.1 rfl 0 rfl rfl ?_
            refine J_if_eq (tg := 346) hK qd3_64.2.2.2.2.2.2.2.2.2.2.1 rfl rfl (fun hc334 => ?_) (fun hc334 => ?_)
            · have hf := ip hc334 hf
              refine J_aload_n hK qd3_65.1 rfl 1 rfl rfl ?_
              refine J_get hK fo_RX7_54 qd3_65.2.1 rfl 0 0 rfl rfl rfl ?_
              refine J_put (g' := gMd d h0 a0_kept a0_tried a0_chosen r0_rows r0_line r0_good r0_work x0_shelf x0_rowSort x0_rowSize x0_moved x0_shown x0_tape x0_tapeSize x0_refused x0_lines x0_changes x0_coins x0_goods x0_works x0_years x0_gone x0_spent g13 g14 g15 g16 g17 g18 x0_statements x0_left x0_far x0_tons x0_way x0_steps x0_met x0_queue x0_totals) (gs' := [gMd d h0 a0_kept a0_tried a0_chosen r0_rows r0_line r0_good r0_work x0_shelf x0_rowSort x0_rowSize x0_moved x0_shown x0_tape x0_tapeSize x0_refused x0_lines x0_changes x0_coins x0_goods x0_works x0_years x0_gone x0_spent g13 g14 g15 g16 g17 g18 x0_statements x0_left x0_far x0_tons x0_way x0_steps x0_met x0_queue x0_totals, gridI d r0_line 20 7 x0_line, gridI d r0_good 8 3 x0_good, gridI d r0_work 7 5 x0_work]) hK fp_RX7_54 qd3_65.2.2.1 rfl 0 0 rfl rfl rfl rfl (Nat.le_of_ble_eq_true rfl) rfl rfl ?_
              refine J_iload_n hK qd3_65.2.2.2.1 rfl 0 rfl rfl ?_
              obtain ⟨v20, ev20, hf⟩ := bs hf
              obtain rfl := Option.some.inj hf
              exact J_zret hK hR qd3_65.2.2.2.2.1 () (zb_ok ev20).2 (by rw [(zb_ok ev20).1]) (by decide) (by decide)
            · have hf := iq hc334 hf
              refine J_aload_n hK qd3_64.2.2.2.2.2.2.2.2.2.2.2.1 rfl 1 rfl rfl ?_
              refine J_get hK fo_RX7_58 qd3_64.2.2.2.2.2.2.2.2.2.2.2.2.1 rfl 0 0 rfl rfl rfl ?_
              refine J_iconst (v := 0) hK qd3_64.2.2.2.2.2.2.2.2.2.2.2.2.2.1 rfl (by decide) ?_
              obtain ⟨v21, ev21, hf⟩ := bs hf
              refine J_iald hK qd3_64.2.2.2.2.2.2.2.2.2.2.2.2.2.2.1 rfl 0 14 rfl rfl ev21 ?_
              refine J_goto hK qd3_64.2.2.2.2.2.2.2.2.2.2.2.2.2.2.2.1 (n := 350) rfl ?_
              refine J_put (g' := gMd d h0 a0_kept a0_tried a0_chosen r0_rows r0_line r0_good r0_work x0_shelf x0_rowSort x0_rowSize x0_moved x0_shown x0_tape x0_tapeSize x0_refused x0_lines x0_changes x0_coins x0_goods x0_works v21 x0_gone x0_spent g13 g14 g15 g16 g17 g18 x0_statements x0_left x0_far x0_tons x0_way x0_steps x0_met x0_queue x0_totals) (gs' := [gMd d h0 a0_kept a0_tried a0_chosen r0_rows r0_line r0_good r0_work x0_shelf x0_rowSort x0_rowSize x0_moved x0_shown x0_tape x0_tapeSize x0_refused x0_lines x0_changes x0_coins x0_goods x0_works v21 x0_gone x0_spent g13 g14 g15 g16 g17 g18 x0_statements x0_left x0_far x0_tons x0_way x0_steps x0_met x0_queue x0_totals, gridI d r0_line 20 7 x0_line, gridI d r0_good 8 3 x0_good, gridI d r0_work 7 5 x0_work]) hK fp_RX7_54 qd3_65.2.2.1 rfl 0 0 rfl rfl rfl rfl (Nat.le_of_ble_eq_true rfl) rfl rfl ?_
              refine J_iload_n hK qd3_65.2.2.2.1 rfl 0 rfl rfl ?_
              obtain ⟨v22, ev22, hf⟩ := bs hf
              obtain rfl := Option.some.inj hf
              exact J_zret hK hR qd3_65.2.2.2.2.1 () (zb_ok ev22).2 (by rw [(zb_ok ev22).1]) (by decide) (by decide)
          · have hf := iq hc272 hf
            refine J_aload_n hK qd3_62.2.2.2.2.2.2.2.1 rfl 0 rfl rfl ?_
            refine J_str hK qd3_62.2.2.2.2.2.2.2.2.1 rfl 18 rfl rfl rfl ?_
            refine J_aload_n hK qd3_62.2.2.2.2.2.2.2.2.2.1 rfl 0 rfl rfl ?_
            refine J_get hK fo_RX7_58 qd3_62.2.2.2.2.2.2.2.2.2.2.1 rfl 0 0 rfl rfl rfl ?_
            refine J_iconst (v := 0) hK qd3_62.2.2.2.2.2.2.2.2.2.2.2.1 rfl (by decide) ?_
            refine J_iconst (v := 0) hK qd3_62.2.2.2.2.2.2.2.2.2.2.2.2.1 rfl (by decide) ?_
            refine J_iconst (v := 2) hK qd3_62.2.2.2.2.2.2.2.2.2.2.2.2.2.1 rfl (by decide) ?_
            obtain ⟨⟨v23, ⟨g25, g26, g27, g28, g29, g30⟩⟩, e31, hf⟩ := bs hf
            have hf := un2 hf
            have hf := un6 hf
            refine J_callV (m := 4) (m' := 4) (ce' := 0) (sl' := 0) (gr := [gridI d r0_line 20 7 x0_line, gridI d r0_good 8 3 x0_good, gridI d r0_work 7 5 x0_work]) (gs' := fun _ => [gMd d h0 a0_kept a0_tried a0_chosen r0_rows r0_line r0_good r0_work x0_shelf x0_rowSort x0_rowSize x0_moved x0_shown x0_tape x0_tapeSize x0_refused x0_lines x0_changes x0_coins x0_goods x0_works x0_years x0_gone x0_spent g25 g26 g27 g28 g29 g30 x0_statements x0_left x0_far x0_tons x0_way x0_steps x0_met x0_queue x0_totals, gridI d r0_line 20 7 x0_line, gridI d r0_good 8 3 x0_good, gridI d r0_work 7 5 x0_work]) (st' := fun _ => [.int v23]) (st := []) hK qd3_62.2.2.2.2.2.2.2.2.2.2.2.2.2.2.1 cv_RX7_202 iv_yX7_told (As := [.ref (d.2.2.2.1 18), .ref (h0 14), .int (0), .int (0), .int (2)]) (kX7_toldN _ d h0 r0_rows r0_line r0_good r0_work a0_kept a0_tried a0_chosen n x0_shelf x0_rowSort x0_rowSize x0_rows x0_moved x0_shown x0_tape x0_tapeSize x0_refused x0_lines x0_line x0_changes x0_coins x0_goods x0_good x0_works x0_work x0_years x0_gone x0_spent x0_at x0_token x0_from x0_figures x0_fault x0_numbers x0_statements x0_left x0_far x0_tons x0_way x0_steps x0_met x0_queue x0_totals 18 (0) (0) (2) e31) rfl rfl (Nat.le_of_ble_eq_true rfl) (by decide) 0 0 rfl rfl rfl [0] [1, 2, 3] rfl (by decide +kernel) rfl rfl [3, 0, 1, 2] (by decide +kernel) (fun _ => rfl) (fun _ => rfl) rfl rfl rfl (fun _ => rfl) (fun _ => ?_)
            refine J_if_eq (tg := 315) hK qd3_62.2.2.2.2.2.2.2.2.2.2.2.2.2.2.2.1 rfl rfl (fun hc288 => ?_) (fun hc288 => ?_)
            · have hf := ip hc288 hf
              refine J_iconst (v := 0) hK qd3_63.2.2.2.2.2.2.2.2.2.2.2.2.2.1 rfl (by decide) ?_
              obtain rfl := Option.some.inj hf
              exact J_zret hK hR qd3_63.2.2.2.2.2.2.2.2.2.2.2.2.2.2.1 () rfl rfl (by decide) (by decide)
            · have hf := iq hc288 hf
              refine J_aload_n hK qd3_63.1 rfl 0 rfl rfl ?_
              refine J_aload_n hK qd3_63.2.1 rfl 0 rfl rfl ?_
              refine J_get hK fo_RX7_45 qd3_63.2.2.1 rfl 0 0 rfl rfl rfl ?_
              refine J_aload_n hK qd3_63.2.2.2.1 rfl 0 rfl rfl ?_
              refine J_get hK fo_RX7_58 qd3_63.2.2.2.2.1 rfl 0 0 rfl rfl rfl ?_
              refine J_iconst (v := 0) hK qd3_63.2.2.2.2.2.1 rfl (by decide) ?_
              obtain ⟨v32, ev32, hf⟩ := bs hf
              refine J_iald hK qd3_63.2.2.2.2.2.2.1 rfl 0 14 rfl rfl ev32 ?_
              refine J_iconst (v := 0) hK qd3_63.2.2.2.2.2.2.2.1 rfl (by decide) ?_
              refine J_bipush (v := 9) hK qd3_63.2.2.2.2.2.2.2.2.1 rfl (by decide) ?_
              obtain ⟨⟨v33, ⟨g35, g36, g37, g38, g39, g40⟩⟩, e41, hf⟩ := bs hf
              have hf := un2 hf
              have hf := un6 hf
              refine J_callV (m := 4) (m' := 4) (ce' := 0) (sl' := 0) (gr := [gridI d r0_line 20 7 x0_line, gridI d r0_good 8 3 x0_good, gridI d r0_work 7 5 x0_work]) (gs' := fun _ => [gMd d h0 a0_kept a0_tried a0_chosen r0_rows r0_line r0_good r0_work x0_shelf x0_rowSort x0_rowSize x0_moved x0_shown x0_tape x0_tapeSize x0_refused x0_lines x0_changes g35 x0_goods x0_works x0_years x0_gone x0_spent g36 g37 g38 g39 g40 g30 x0_statements x0_left x0_far x0_tons x0_way x0_steps x0_met x0_queue x0_totals, gridI d r0_line 20 7 x0_line, gridI d r0_good 8 3 x0_good, gridI d r0_work 7 5 x0_work]) (st' := fun _ => [.int v33]) (st := []) hK qd3_63.2.2.2.2.2.2.2.2.2.1 cv_RX7_198 iv_yX7_number (As := [.ref (h0 11), .int v32, .int (0), .int (9)]) (kX7_numberO _ d h0 r0_rows r0_line r0_good r0_work a0_kept a0_tried a0_chosen n x0_shelf x0_rowSort x0_rowSize x0_rows x0_moved x0_shown x0_tape x0_tapeSize x0_refused x0_lines x0_line x0_changes x0_coins x0_goods x0_good x0_works x0_work x0_years x0_gone x0_spent g25 g26 g27 g28 g29 g30 x0_statements x0_left x0_far x0_tons x0_way x0_steps x0_met x0_queue x0_totals v32 (0) (9) e41) rfl rfl (Nat.le_of_ble_eq_true rfl) (by decide) 0 0 rfl rfl rfl [0] [1, 2, 3] rfl (by decide +kernel) rfl rfl [3, 0, 1, 2] (by decide +kernel) (fun _ => rfl) (fun _ => rfl) rfl rfl rfl (fun _ => rfl) (fun _ => ?_)
              refine J_if_eq (tg := 315) hK qd3_63.2.2.2.2.2.2.2.2.2.2.1 rfl rfl (fun hc308 => ?_) (fun hc308 => ?_)
              · have hf := ip hc308 hf
                refine J_iconst (v := 0) hK qd3_63.2.2.2.2.2.2.2.2.2.2.2.2.2.1 rfl (by decide) ?_
                obtain rfl := Option.some.inj hf
                exact J_zret hK hR qd3_63.2.2.2.2.2.2.2.2.2.2.2.2.2.2.1 () rfl rfl (by decide) (by decide)
              · have hf := iq hc308 hf
                refine J_iconst (v := 1) hK qd3_63.2.2.2.2.2.2.2.2.2.2.2.1 rfl (by decide) ?_
                refine J_goto hK qd3_63.2.2.2.2.2.2.2.2.2.2.2.2.1 (n := 316) rfl ?_
                obtain rfl := Option.some.inj hf
                exact J_zret hK hR qd3_63.2.2.2.2.2.2.2.2.2.2.2.2.2.2.1 () rfl rfl (by decide) (by decide)
        · have hf := iq hc220 hf
          refine J_aload_n hK qd3_60.2.2.2.2.2.2.2.2.2.2.2.1 rfl 0 rfl rfl ?_
          refine J_str hK qd3_60.2.2.2.2.2.2.2.2.2.2.2.2.1 rfl 17 rfl rfl rfl ?_
          refine J_aload_n hK qd3_60.2.2.2.2.2.2.2.2.2.2.2.2.2.1 rfl 0 rfl rfl ?_
          refine J_get hK fo_RX7_58 qd3_60.2.2.2.2.2.2.2.2.2.2.2.2.2.2.1 rfl 0 0 rfl rfl rfl ?_
          refine J_iconst (v := 0) hK qd3_60.2.2.2.2.2.2.2.2.2.2.2.2.2.2.2.1 rfl (by decide) ?_
          refine J_iconst (v := 0) hK qd3_61.1 rfl (by decide) ?_
          refine J_bipush (v := 11) hK qd3_61.2.1 rfl (by decide) ?_
          obtain ⟨⟨v42, ⟨g44, g45, g46, g47, g48, g49⟩⟩, e50, hf⟩ := bs hf
          have hf := un2 hf
          have hf := un6 hf
          refine J_callV (m := 4) (m' := 4) (ce' := 0) (sl' := 0) (gr := [gridI d r0_line 20 7 x0_line, gridI d r0_good 8 3 x0_good, gridI d r0_work 7 5 x0_work]) (gs' := fun _ => [gMd d h0 a0_kept a0_tried a0_chosen r0_rows r0_line r0_good r0_work x0_shelf x0_rowSort x0_rowSize x0_moved x0_shown x0_tape x0_tapeSize x0_refused x0_lines x0_changes x0_coins x0_goods x0_works x0_years x0_gone x0_spent g44 g45 g46 g47 g48 g49 x0_statements x0_left x0_far x0_tons x0_way x0_steps x0_met x0_queue x0_totals, gridI d r0_line 20 7 x0_line, gridI d r0_good 8 3 x0_good, gridI d r0_work 7 5 x0_work]) (st' := fun _ => [.int v42]) (st := []) hK qd3_61.2.2.1 cv_RX7_202 iv_yX7_told (As := [.ref (d.2.2.2.1 17), .ref (h0 14), .int (0), .int (0), .int (11)]) (kX7_toldN _ d h0 r0_rows r0_line r0_good r0_work a0_kept a0_tried a0_chosen n x0_shelf x0_rowSort x0_rowSize x0_rows x0_moved x0_shown x0_tape x0_tapeSize x0_refused x0_lines x0_line x0_changes x0_coins x0_goods x0_good x0_works x0_work x0_years x0_gone x0_spent x0_at x0_token x0_from x0_figures x0_fault x0_numbers x0_statements x0_left x0_far x0_tons x0_way x0_steps x0_met x0_queue x0_totals 17 (0) (0) (11) e50) rfl rfl (Nat.le_of_ble_eq_true rfl) (by decide) 0 0 rfl rfl rfl [0] [1, 2, 3] rfl (by decide +kernel) rfl rfl [3, 0, 1, 2] (by decide +kernel) (fun _ => rfl) (fun _ => rfl) rfl rfl rfl (fun _ => rfl) (fun _ => ?_)
          refine J_if_eq (tg := 264) hK qd3_61.2.2.2.1 rfl rfl (fun hc237 => ?_) (fun hc237 => ?_)
          · have hf := ip hc237 hf
            refine J_iconst (v := 0) hK qd3_62.2.1 rfl (by decide) ?_
            obtain rfl := Option.some.inj hf
            exact J_zret hK hR qd3_62.2.2.1 () rfl rfl (by decide) (by decide)
          · have hf := iq hc237 hf
            refine J_aload_n hK qd3_61.2.2.2.2.1 rfl 0 rfl rfl ?_
            refine J_aload_n hK qd3_61.2.2.2.2.2.1 rfl 0 rfl rfl ?_
            refine J_get hK fo_RX7_42 qd3_61.2.2.2.2.2.2.1 rfl 0 0 rfl rfl rfl ?_
            refine J_aload_n hK qd3_61.2.2.2.2.2.2.2.1 rfl 0 rfl rfl ?_
            refine J_get hK fo_RX7_58 qd3_61.2.2.2.2.2.2.2.2.1 rfl 0 0 rfl rfl rfl ?_
            refine J_iconst (v := 0) hK qd3_61.2.2.2.2.2.2.2.2.2.1 rfl (by decide) ?_
            obtain ⟨v51, ev51, hf⟩ := bs hf
            refine J_iald hK qd3_61.2.2.2.2.2.2.2.2.2.2.1 rfl 0 14 rfl rfl ev51 ?_
            refine J_iconst (v := 0) hK qd3_61.2.2.2.2.2.2.2.2.2.2.2.1 rfl (by decide) ?_
            refine J_bipush (v := 99) hK qd3_61.2.2.2.2.2.2.2.2.2.2.2.2.1 rfl (by decide) ?_
            obtain ⟨⟨v52, ⟨g54, g55, g56, g57, g58, g59⟩⟩, e60, hf⟩ := bs hf
            have hf := un2 hf
            have hf := un6 hf
            refine J_callV (m := 4) (m' := 4) (ce' := 0) (sl' := 0) (gr := [gridI d r0_line 20 7 x0_line, gridI d r0_good 8 3 x0_good, gridI d r0_work 7 5 x0_work]) (gs' := fun _ => [gMd d h0 a0_kept a0_tried a0_chosen r0_rows r0_line r0_good r0_work x0_shelf x0_rowSort x0_rowSize x0_moved x0_shown x0_tape x0_tapeSize x0_refused x0_lines g54 x0_coins x0_goods x0_works x0_years x0_gone x0_spent g55 g56 g57 g58 g59 g49 x0_statements x0_left x0_far x0_tons x0_way x0_steps x0_met x0_queue x0_totals, gridI d r0_line 20 7 x0_line, gridI d r0_good 8 3 x0_good, gridI d r0_work 7 5 x0_work]) (st' := fun _ => [.int v52]) (st := []) hK qd3_61.2.2.2.2.2.2.2.2.2.2.2.2.2.1 cv_RX7_198 iv_yX7_number (As := [.ref (h0 10), .int v51, .int (0), .int (99)]) (kX7_numberC _ d h0 r0_rows r0_line r0_good r0_work a0_kept a0_tried a0_chosen n x0_shelf x0_rowSort x0_rowSize x0_rows x0_moved x0_shown x0_tape x0_tapeSize x0_refused x0_lines x0_line x0_changes x0_coins x0_goods x0_good x0_works x0_work x0_years x0_gone x0_spent g44 g45 g46 g47 g48 g49 x0_statements x0_left x0_far x0_tons x0_way x0_steps x0_met x0_queue x0_totals v51 (0) (99) e60) rfl rfl (Nat.le_of_ble_eq_true rfl) (by decide) 0 0 rfl rfl rfl [0] [1, 2, 3] rfl (by decide +kernel) rfl rfl [3, 0, 1, 2] (by decide +kernel) (fun _ => rfl) (fun _ => rfl) rfl rfl rfl (fun _ => rfl) (fun _ => ?_)
            refine J_if_eq (tg := 264) hK qd3_61.2.2.2.2.2.2.2.2.2.2.2.2.2.2.1 rfl rfl (fun hc257 => ?_) (fun hc257 => ?_)
            · have hf := ip hc257 hf
              refine J_iconst (v := 0) hK qd3_62.2.1 rfl (by decide) ?_
              obtain rfl := Option.some.inj hf
              exact J_zret hK hR qd3_62.2.2.1 () rfl rfl (by decide) (by decide)
            · have hf := iq hc257 hf
              refine J_iconst (v := 1) hK qd3_61.2.2.2.2.2.2.2.2.2.2.2.2.2.2.2.1 rfl (by decide) ?_
              refine J_goto hK qd3_62.1 (n := 265) rfl ?_
              obtain rfl := Option.some.inj hf
              exact J_zret hK hR qd3_62.2.2.1 () rfl rfl (by decide) (by decide)
      refine J_if_eq (tg := 214) hK qd3_59.2.2.2.2.2.2.2.2.2.2.1 rfl rfl (fun hc188 => ?_) (fun hc188 => ?_)
      · have hf := ip hc188 hf
        exact (j214  hf)
      · have hf := iq hc188 hf
        refine J_aload_n hK qd3_59.2.2.2.2.2.2.2.2.2.2.2.1 rfl 0 rfl rfl ?_
        refine J_get hK fo_RX7_85 qd3_59.2.2.2.2.2.2.2.2.2.2.2.2.1 rfl 0 0 rfl rfl rfl ?_
        refine J_bipush (v := 7) hK qd3_59.2.2.2.2.2.2.2.2.2.2.2.2.2.1 rfl (by decide) ?_
        refine J_icmp_ge (tg := 214) hK qd3_59.2.2.2.2.2.2.2.2.2.2.2.2.2.2.1 rfl rfl (fun hc197 => ?_) (fun hc197 => ?_)
        · have hf := ip hc197 hf
          exact (j214  hf)
        · have hf := iq hc197 hf
          refine J_aload_n hK qd3_59.2.2.2.2.2.2.2.2.2.2.2.2.2.2.2.1 rfl 0 rfl rfl ?_
          refine J_aload_n hK qd3_60.1 rfl 0 rfl rfl ?_
          refine J_get hK fo_RX7_51 qd3_60.2.1 rfl 0 0 rfl rfl rfl ?_
          refine J_aload_n hK qd3_60.2.2.1 rfl 0 rfl rfl ?_
          refine J_get hK fo_RX7_85 qd3_60.2.2.2.1 rfl 0 0 rfl rfl rfl ?_
          obtain ⟨q61, eq61, hf⟩ := bs hf
          refine J_aald hK qd3_60.2.2.2.2.1 rfl 0 13 rfl rfl rfl eq61 ?_
          refine J_split (gs2 := [gMd d h0 a0_kept a0_tried a0_chosen r0_rows r0_line r0_good r0_work x0_shelf x0_rowSort x0_rowSize x0_moved x0_shown x0_tape x0_tapeSize x0_refused x0_lines x0_changes x0_coins x0_goods x0_works x0_years x0_gone x0_spent x0_at x0_token x0_from x0_figures x0_fault x0_numbers x0_statements x0_left x0_far x0_tons x0_way x0_steps x0_met x0_queue x0_totals, gridI d r0_line 20 7 x0_line, gridI d r0_good 8 3 x0_good, [cI d (r0_work q61) 5 (x0_work q61)], gridIx d r0_work 7 5 x0_work q61]) 3 rfl (gridI_sp (ck_ok eq61).2.2) rfl ?_
          obtain ⟨⟨v62, ⟨g64, g65, g66, g67, g68, g69⟩, g70⟩, e71, hf⟩ := bs hf
          have hf := un3 hf
          have hf := un6 hf
          refine J_callV (m := 5) (m' := 5) (ce' := 0) (sl' := 0) (gr := [gridI d r0_line 20 7 x0_line, gridI d r0_good 8 3 x0_good, gridIx d r0_work 7 5 x0_work q61]) (gs' := fun _ => [gMd d h0 a0_kept a0_tried a0_chosen r0_rows r0_line r0_good r0_work x0_shelf x0_rowSort x0_rowSize x0_moved x0_shown x0_tape x0_tapeSize x0_refused x0_lines x0_changes x0_coins x0_goods g64 x0_years x0_gone x0_spent g65 g66 g67 g68 g69 x0_numbers x0_statements x0_left x0_far x0_tons x0_way x0_steps x0_met x0_queue x0_totals, gridI d r0_line 20 7 x0_line, gridI d r0_good 8 3 x0_good, [cI d (r0_work q61) 5 g70], gridIx d r0_work 7 5 x0_work q61]) (st' := fun _ => [.int v62]) (st := []) hK qd3_60.2.2.2.2.2.1 cv_RX7_224 iv_yX7_workTold (As := [.ref (r0_work q61)]) (kX7_workTold _ d h0 r0_rows r0_line r0_good r0_work a0_kept a0_tried a0_chosen (r0_work q61) n x0_shelf x0_rowSort x0_rowSize x0_rows x0_moved x0_shown x0_tape x0_tapeSize x0_refused x0_lines x0_line x0_changes x0_coins x0_goods x0_good x0_works x0_work x0_years x0_gone x0_spent x0_at x0_token x0_from x0_figures x0_fault x0_numbers x0_statements x0_left x0_far x0_tons x0_way x0_steps x0_met x0_queue x0_totals 5 (x0_work q61) e71) rfl rfl (Nat.le_of_ble_eq_true rfl) (by decide) 0 0 rfl rfl rfl [0, 3] [1, 2, 4] rfl (by decide +kernel) rfl rfl [3, 0, 1, 4, 2] (by decide +kernel) (fun _ => rfl) (fun _ => rfl) rfl rfl rfl (fun _ => rfl) (fun _ => ?_)
          refine J_merge (gs2 := [gMd d h0 a0_kept a0_tried a0_chosen r0_rows r0_line r0_good r0_work x0_shelf x0_rowSort x0_rowSize x0_moved x0_shown x0_tape x0_tapeSize x0_refused x0_lines x0_changes x0_coins x0_goods g64 x0_years x0_gone x0_spent g65 g66 g67 g68 g69 x0_numbers x0_statements x0_left x0_far x0_tons x0_way x0_steps x0_met x0_queue x0_totals, gridI d r0_line 20 7 x0_line, gridI d r0_good 8 3 x0_good, gridI d r0_work 7 5 (va_up x0_work q61 g70)]) 3 rfl rfl (gridI_mg (ck_ok eq61).2.2) rfl ?_
          obtain ⟨v72, ev72, hf⟩ := bs hf
          obtain rfl := Option.some.inj hf
          exact J_zret hK hR qd3_60.2.2.2.2.2.2.1 () (zb_ok ev72).2 (by rw [(zb_ok ev72).1]) (by decide) (by decide)
    refine J_if_eq (tg := 182) hK qd3_57.2.2.2.2.2.1 rfl rfl (fun hc120 => ?_) (fun hc120 => ?_)
    · have hf := ip hc120 hf
      exact (j182  hf)
    · have hf := iq hc120 hf
      refine J_aload_n hK qd3_57.2.2.2.2.2.2.1 rfl 0 rfl rfl ?_
      refine J_get hK fo_RX7_125 qd3_57.2.2.2.2.2.2.2.1 rfl 0 0 rfl rfl rfl ?_
      refine J_bipush (v := 8) hK qd3_57.2.2.2.2.2.2.2.2.1 rfl (by decide) ?_
      refine J_icmp_ge (tg := 182) hK qd3_57.2.2.2.2.2.2.2.2.2.1 rfl rfl (fun hc129 => ?_) (fun hc129 => ?_)
      · have hf := ip hc129 hf
        exact (j182  hf)
      · have hf := iq hc129 hf
        refine J_aload_n hK qd3_57.2.2.2.2.2.2.2.2.2.2.1 rfl 0 rfl rfl ?_
        refine J_aload_n hK qd3_57.2.2.2.2.2.2.2.2.2.2.2.1 rfl 0 rfl rfl ?_
        refine J_get hK fo_RX7_48 qd3_57.2.2.2.2.2.2.2.2.2.2.2.2.1 rfl 0 0 rfl rfl rfl ?_
        refine J_aload_n hK qd3_57.2.2.2.2.2.2.2.2.2.2.2.2.2.1 rfl 0 rfl rfl ?_
        refine J_get hK fo_RX7_125 qd3_57.2.2.2.2.2.2.2.2.2.2.2.2.2.2.1 rfl 0 0 rfl rfl rfl ?_
        obtain ⟨q73, eq73, hf⟩ := bs hf
        refine J_aald hK qd3_57.2.2.2.2.2.2.2.2.2.2.2.2.2.2.2.1 rfl 0 12 rfl rfl rfl eq73 ?_
        refine J_split (gs2 := [gMd d h0 a0_kept a0_tried a0_chosen r0_rows r0_line r0_good r0_work x0_shelf x0_rowSort x0_rowSize x0_moved x0_shown x0_tape x0_tapeSize x0_refused x0_lines x0_changes x0_coins x0_goods x0_works x0_years x0_gone x0_spent x0_at x0_token x0_from x0_figures x0_fault x0_numbers x0_statements x0_left x0_far x0_tons x0_way x0_steps x0_met x0_queue x0_totals, gridI d r0_line 20 7 x0_line, [cI d (r0_good q73) 3 (x0_good q73)], gridIx d r0_good 8 3 x0_good q73, gridI d r0_work 7 5 x0_work]) 2 rfl (gridI_sp (ck_ok eq73).2.2) rfl ?_
        obtain ⟨⟨v74, ⟨g76, g77, g78, g79, g80⟩, g81⟩, e82, hf⟩ := bs hf
        have hf := un3 hf
        have hf := un5 hf
        refine J_callV (m := 5) (m' := 5) (ce' := 0) (sl' := 0) (gr := [gridI d r0_line 20 7 x0_line, gridIx d r0_good 8 3 x0_good q73, gridI d r0_work 7 5 x0_work]) (gs' := fun _ => [gMd d h0 a0_kept a0_tried a0_chosen r0_rows r0_line r0_good r0_work x0_shelf x0_rowSort x0_rowSize x0_moved x0_shown x0_tape x0_tapeSize x0_refused x0_lines x0_changes x0_coins x0_goods x0_works x0_years x0_gone x0_spent g76 g77 g78 g79 g80 x0_numbers x0_statements x0_left x0_far x0_tons x0_way x0_steps x0_met x0_queue x0_totals, gridI d r0_line 20 7 x0_line, [cI d (r0_good q73) 3 g81], gridIx d r0_good 8 3 x0_good q73, gridI d r0_work 7 5 x0_work]) (st' := fun _ => [.int v74]) (st := []) hK qd3_58.1 cv_RX7_207 iv_yX7_two (As := [.ref (r0_good q73)]) (kX7_two _ d h0 r0_rows r0_line r0_good r0_work a0_kept a0_tried a0_chosen (r0_good q73) n x0_shelf x0_rowSort x0_rowSize x0_rows x0_moved x0_shown x0_tape x0_tapeSize x0_refused x0_lines x0_line x0_changes x0_coins x0_goods x0_good x0_works x0_work x0_years x0_gone x0_spent x0_at x0_token x0_from x0_figures x0_fault x0_numbers x0_statements x0_left x0_far x0_tons x0_way x0_steps x0_met x0_queue x0_totals 3 (x0_good q73) e82) rfl rfl (Nat.le_of_ble_eq_true rfl) (by decide) 0 0 rfl rfl rfl [0, 2] [1, 3, 4] rfl (by decide +kernel) rfl rfl [3, 0, 4, 1, 2] (by decide +kernel) (fun _ => rfl) (fun _ => rfl) rfl rfl rfl (fun _ => rfl) (fun _ => ?_)
        refine J_merge (gs2 := [gMd d h0 a0_kept a0_tried a0_chosen r0_rows r0_line r0_good r0_work x0_shelf x0_rowSort x0_rowSize x0_moved x0_shown x0_tape x0_tapeSize x0_refused x0_lines x0_changes x0_coins x0_goods x0_works x0_years x0_gone x0_spent g76 g77 g78 g79 g80 x0_numbers x0_statements x0_left x0_far x0_tons x0_way x0_steps x0_met x0_queue x0_totals, gridI d r0_line 20 7 x0_line, gridI d r0_good 8 3 (va_up x0_good q73 g81), gridI d r0_work 7 5 x0_work]) 2 rfl rfl (gridI_mg (ck_ok eq73).2.2) rfl ?_
        refine J_if_eq (tg := 168) hK qd3_58.2.1 rfl rfl (fun hc145 => ?_) (fun hc145 => ?_)
        · have hf := ip hc145 hf
          refine J_iconst (v := 0) hK qd3_58.2.2.2.2.2.2.2.2.2.2.2.2.2.1 rfl (by decide) ?_
          obtain rfl := Option.some.inj hf
          exact J_zret hK hR qd3_58.2.2.2.2.2.2.2.2.2.2.2.2.2.2.1 () rfl rfl (by decide) (by decide)
        · have hf := iq hc145 hf
          refine J_aload_n hK qd3_58.2.2.1 rfl 0 rfl rfl ?_
          refine J_aload_n hK qd3_58.2.2.2.1 rfl 0 rfl rfl ?_
          refine J_get hK fo_RX7_48 qd3_58.2.2.2.2.1 rfl 0 0 rfl rfl rfl ?_
          refine J_aload_n hK qd3_58.2.2.2.2.2.1 rfl 0 rfl rfl ?_
          refine J_get hK fo_RX7_125 qd3_58.2.2.2.2.2.2.1 rfl 0 0 rfl rfl rfl ?_
          obtain ⟨q83, eq83, hf⟩ := bs hf
          refine J_aald hK qd3_58.2.2.2.2.2.2.2.1 rfl 0 12 rfl rfl rfl eq83 ?_
          refine J_iconst (v := 2) hK qd3_58.2.2.2.2.2.2.2.2.1 rfl (by decide) ?_
          refine J_iconst (v := 1) hK qd3_58.2.2.2.2.2.2.2.2.2.1 rfl (by decide) ?_
          refine J_bipush (v := 99) hK qd3_58.2.2.2.2.2.2.2.2.2.2.1 rfl (by decide) ?_
          refine J_split (gs2 := [gMd d h0 a0_kept a0_tried a0_chosen r0_rows r0_line r0_good r0_work x0_shelf x0_rowSort x0_rowSize x0_moved x0_shown x0_tape x0_tapeSize x0_refused x0_lines x0_changes x0_coins x0_goods x0_works x0_years x0_gone x0_spent g76 g77 g78 g79 g80 x0_numbers x0_statements x0_left x0_far x0_tons x0_way x0_steps x0_met x0_queue x0_totals, gridI d r0_line 20 7 x0_line, [cI d (r0_good q83) 3 ((va_up x0_good q73 g81) q83)], gridIx d r0_good 8 3 (va_up x0_good q73 g81) q83, gridI d r0_work 7 5 x0_work]) 2 rfl (gridI_sp (ck_ok eq83).2.2) rfl ?_
          obtain ⟨⟨v84, ⟨g86, g87, g88, g89, g90⟩, g91⟩, e92, hf⟩ := bs hf
          have hf := un3 hf
          have hf := un5 hf
          refine J_callV (m := 5) (m' := 5) (ce' := 0) (sl' := 0) (gr := [gridI d r0_line 20 7 x0_line, gridIx d r0_good 8 3 (va_up x0_good q73 g81) q83, gridI d r0_work 7 5 x0_work]) (gs' := fun _ => [gMd d h0 a0_kept a0_tried a0_chosen r0_rows r0_line r0_good r0_work x0_shelf x0_rowSort x0_rowSize x0_moved x0_shown x0_tape x0_tapeSize x0_refused x0_lines x0_changes x0_coins x0_goods x0_works x0_years x0_gone x0_spent g86 g87 g88 g89 g90 x0_numbers x0_statements x0_left x0_far x0_tons x0_way x0_steps x0_met x0_queue x0_totals, gridI d r0_line 20 7 x0_line, [cI d (r0_good q83) 3 g91], gridIx d r0_good 8 3 (va_up x0_good q73 g81) q83, gridI d r0_work 7 5 x0_work]) (st' := fun _ => [.int v84]) (st := []) hK qd3_58.2.2.2.2.2.2.2.2.2.2.2.1 cv_RX7_198 iv_yX7_number (As := [.ref (r0_good q83), .int (2), .int (1), .int (99)]) (kX7_number _ d h0 r0_rows r0_line r0_good r0_work a0_kept a0_tried a0_chosen (r0_good q83) n x0_shelf x0_rowSort x0_rowSize x0_rows x0_moved x0_shown x0_tape x0_tapeSize x0_refused x0_lines x0_line x0_changes x0_coins x0_goods (va_up x0_good q73 g81) x0_works x0_work x0_years x0_gone x0_spent g76 g77 g78 g79 g80 x0_numbers x0_statements x0_left x0_far x0_tons x0_way x0_steps x0_met x0_queue x0_totals 3 ((va_up x0_good q73 g81) q83) (2) (1) (99) e92) rfl rfl (Nat.le_of_ble_eq_true rfl) (by decide) 0 0 rfl rfl rfl [0, 2] [1, 3, 4] rfl (by decide +kernel) rfl rfl [3, 0, 4, 1, 2] (by decide +kernel) (fun _ => rfl) (fun _ => rfl) rfl rfl rfl (fun _ => rfl) (fun _ => ?_)
          refine J_merge (gs2 := [gMd d h0 a0_kept a0_tried a0_chosen r0_rows r0_line r0_good r0_work x0_shelf x0_rowSort x0_rowSize x0_moved x0_shown x0_tape x0_tapeSize x0_refused x0_lines x0_changes x0_coins x0_goods x0_works x0_years x0_gone x0_spent g86 g87 g88 g89 g90 x0_numbers x0_statements x0_left x0_far x0_tons x0_way x0_steps x0_met x0_queue x0_totals, gridI d r0_line 20 7 x0_line, gridI d r0_good 8 3 (va_up (va_up x0_good q73 g81) q83 g91), gridI d r0_work 7 5 x0_work]) 2 rfl rfl (gridI_mg (ck_ok eq83).2.2) rfl ?_
          refine J_if_ne (tg := 170) hK qd3_58.2.2.2.2.2.2.2.2.2.2.2.2.1 rfl rfl (fun hc165 => ?_) (fun hc165 => ?_)
          · have hf := iq hc165 hf
            refine J_aload_n hK qd3_58.2.2.2.2.2.2.2.2.2.2.2.2.2.2.2.1 rfl 0 rfl rfl ?_
            refine J_dup hK qd3_59.1 rfl rfl ?_
            refine J_get hK fo_RX7_125 qd3_59.2.1 rfl 0 0 rfl rfl rfl ?_
            refine J_iconst (v := 1) hK qd3_59.2.2.1 rfl (by decide) ?_
            refine J_iadd hK qd3_59.2.2.2.1 rfl ?_
            refine J_put (g' := gMd d h0 a0_kept a0_tried a0_chosen r0_rows r0_line r0_good r0_work x0_shelf x0_rowSort x0_rowSize x0_moved x0_shown x0_tape x0_tapeSize x0_refused x0_lines x0_changes x0_coins (x0_goods + 1) x0_works x0_years x0_gone x0_spent g86 g87 g88 g89 g90 x0_numbers x0_statements x0_left x0_far x0_tons x0_way x0_steps x0_met x0_queue x0_totals) (gs' := [gMd d h0 a0_kept a0_tried a0_chosen r0_rows r0_line r0_good r0_work x0_shelf x0_rowSort x0_rowSize x0_moved x0_shown x0_tape x0_tapeSize x0_refused x0_lines x0_changes x0_coins (x0_goods + 1) x0_works x0_years x0_gone x0_spent g86 g87 g88 g89 g90 x0_numbers x0_statements x0_left x0_far x0_tons x0_way x0_steps x0_met x0_queue x0_totals, gridI d r0_line 20 7 x0_line, gridI d r0_good 8 3 (va_up (va_up x0_good q73 g81) q83 g91), gridI d r0_work 7 5 x0_work]) hK fp_RX7_125 qd3_59.2.2.2.2.1 rfl 0 0 rfl rfl rfl rfl (Nat.le_of_ble_eq_true rfl) rfl rfl ?_
            refine J_iconst (v := 1) hK qd3_59.2.2.2.2.2.1 rfl (by decide) ?_
            obtain rfl := Option.some.inj hf
            exact J_zret hK hR qd3_59.2.2.2.2.2.2.1 () rfl rfl (by decide) (by decide)
          · have hf := ip hc165 hf
            refine J_iconst (v := 0) hK qd3_58.2.2.2.2.2.2.2.2.2.2.2.2.2.1 rfl (by decide) ?_
            obtain rfl := Option.some.inj hf
            exact J_zret hK hR qd3_58.2.2.2.2.2.2.2.2.2.2.2.2.2.2.1 () rfl rfl (by decide) (by decide)
  refine J_if_eq (tg := 114) hK qd3_53.2.2.2.1 rfl rfl (fun hc6 => ?_) (fun hc6 => ?_)
  · have hf := ip hc6 hf
    exact (j114  hf)
  · have hf := iq hc6 hf
    refine J_aload_n hK qd3_53.2.2.2.2.1 rfl 0 rfl rfl ?_
    refine J_get hK fo_RX7_82 qd3_53.2.2.2.2.2.1 rfl 0 0 rfl rfl rfl ?_
    refine J_bipush (v := 20) hK qd3_53.2.2.2.2.2.2.1 rfl (by decide) ?_
    refine J_icmp_ge (tg := 114) hK qd3_53.2.2.2.2.2.2.2.1 rfl rfl (fun hc15 => ?_) (fun hc15 => ?_)
    · have hf := ip hc15 hf
      exact (j114  hf)
    · have hf := iq hc15 hf
      refine J_aload_n hK qd3_53.2.2.2.2.2.2.2.2.1 rfl 0 rfl rfl ?_
      refine J_get hK fo_RX7_39 qd3_53.2.2.2.2.2.2.2.2.2.1 rfl 0 0 rfl rfl rfl ?_
      refine J_aload_n hK qd3_53.2.2.2.2.2.2.2.2.2.2.1 rfl 0 rfl rfl ?_
      refine J_get hK fo_RX7_82 qd3_53.2.2.2.2.2.2.2.2.2.2.2.1 rfl 0 0 rfl rfl rfl ?_
      obtain ⟨q93, eq93, hf⟩ := bs hf
      refine J_aald hK qd3_53.2.2.2.2.2.2.2.2.2.2.2.2.1 rfl 0 9 rfl rfl rfl eq93 ?_
      refine J_astore_n (L' := [(1, .ref (r0_line q93)), (0, .ref (h0 0))]) hK qd3_53.2.2.2.2.2.2.2.2.2.2.2.2.2.1 rfl rfl (by decide) rfl ?_
      refine J_aload_n hK qd3_53.2.2.2.2.2.2.2.2.2.2.2.2.2.2.1 rfl 1 rfl rfl ?_
      refine J_iconst (v := 0) hK qd3_53.2.2.2.2.2.2.2.2.2.2.2.2.2.2.2.1 rfl (by decide) ?_
      refine J_iconst (v := 0) hK qd3_54.1 rfl (by decide) ?_
      obtain ⟨g94, e95, hf⟩ := bs hf
      refine J_callV (m := 4) (m' := 4) (ce' := 0) (sl' := 0) (gr := [gridI d r0_good 8 3 x0_good, gridI d r0_work 7 5 x0_work]) (gs' := fun _ => [gMd d h0 a0_kept a0_tried a0_chosen r0_rows r0_line r0_good r0_work x0_shelf x0_rowSort x0_rowSize x0_moved x0_shown x0_tape x0_tapeSize x0_refused x0_lines x0_changes x0_coins x0_goods x0_works x0_years x0_gone x0_spent x0_at x0_token x0_from x0_figures x0_fault x0_numbers x0_statements x0_left x0_far x0_tons x0_way x0_steps x0_met x0_queue x0_totals, gridI d r0_line 20 7 g94, gridI d r0_good 8 3 x0_good, gridI d r0_work 7 5 x0_work]) (st' := fun _ => []) (st := []) hK qd3_54.2.1 cv_RX7_119 iv_yX7_newLine (As := [.int (0), .int (0)]) (kX7_newLine _ d h0 r0_rows r0_line r0_good r0_work a0_kept a0_tried a0_chosen x0_shelf x0_rowSort x0_rowSize x0_rows x0_moved x0_shown x0_tape x0_tapeSize x0_refused x0_lines x0_line x0_changes x0_coins x0_goods x0_good x0_works x0_work x0_years x0_gone x0_spent x0_at x0_token x0_from x0_figures x0_fault x0_numbers x0_statements x0_left x0_far x0_tons x0_way x0_steps x0_met x0_queue x0_totals (0) (0) e95) rfl rfl (Nat.le_of_ble_eq_true rfl) (by decide) 0 0 rfl rfl rfl [0, 1] [2, 3] rfl (by decide +kernel) rfl rfl [2, 3, 0, 1] (by decide +kernel) (fun _ => rfl) (fun _ => rfl) rfl rfl rfl (fun _ => rfl) (fun _ => ?_)
      refine J_aload_n hK qd3_54.2.2.1 rfl 1 rfl rfl ?_
      refine J_aload_n hK qd3_54.2.2.2.1 rfl 0 rfl rfl ?_
      refine J_split (gs2 := [gMd d h0 a0_kept a0_tried a0_chosen r0_rows r0_line r0_good r0_work x0_shelf x0_rowSort x0_rowSize x0_moved x0_shown x0_tape x0_tapeSize x0_refused x0_lines x0_changes x0_coins x0_goods x0_works x0_years x0_gone x0_spent x0_at x0_token x0_from x0_figures x0_fault x0_numbers x0_statements x0_left x0_far x0_tons x0_way x0_steps x0_met x0_queue x0_totals, [cI d (r0_line q93) 7 (g94 q93)], gridIx d r0_line 20 7 g94 q93, gridI d r0_good 8 3 x0_good, gridI d r0_work 7 5 x0_work]) 1 rfl (gridI_sp (ck_ok eq93).2.2) rfl ?_
      obtain ⟨⟨v96, ⟨g98, g99, g100, g101, g102⟩, g103⟩, e104, hf⟩ := bs hf
      have hf := un3 hf
      have hf := un5 hf
      refine J_callV (m := 5) (m' := 5) (ce' := 0) (sl' := 0) (gr := [gridIx d r0_line 20 7 g94 q93, gridI d r0_good 8 3 x0_good, gridI d r0_work 7 5 x0_work]) (gs' := fun _ => [gMd d h0 a0_kept a0_tried a0_chosen r0_rows r0_line r0_good r0_work x0_shelf x0_rowSort x0_rowSize x0_moved x0_shown x0_tape x0_tapeSize x0_refused x0_lines x0_changes x0_coins x0_goods x0_works x0_years x0_gone x0_spent g98 g99 g100 g101 g102 x0_numbers x0_statements x0_left x0_far x0_tons x0_way x0_steps x0_met x0_queue x0_totals, [cI d (r0_line q93) 7 g103], gridIx d r0_line 20 7 g94 q93, gridI d r0_good 8 3 x0_good, gridI d r0_work 7 5 x0_work]) (st' := fun _ => [.int v96]) (st := []) hK qd3_54.2.2.2.2.1 cv_RX7_207 iv_yX7_two (As := [.ref (r0_line q93)]) (kX7_two _ d h0 r0_rows r0_line r0_good r0_work a0_kept a0_tried a0_chosen (r0_line q93) n x0_shelf x0_rowSort x0_rowSize x0_rows x0_moved x0_shown x0_tape x0_tapeSize x0_refused x0_lines g94 x0_changes x0_coins x0_goods x0_good x0_works x0_work x0_years x0_gone x0_spent x0_at x0_token x0_from x0_figures x0_fault x0_numbers x0_statements x0_left x0_far x0_tons x0_way x0_steps x0_met x0_queue x0_totals 7 (g94 q93) e104) rfl rfl (Nat.le_of_ble_eq_true rfl) (by decide) 0 0 rfl rfl rfl [0, 1] [2, 3, 4] rfl (by decide +kernel) rfl rfl [3, 4, 0, 1, 2] (by decide +kernel) (fun _ => rfl) (fun _ => rfl) rfl rfl rfl (fun _ => rfl) (fun _ => ?_)
      refine J_merge (gs2 := [gMd d h0 a0_kept a0_tried a0_chosen r0_rows r0_line r0_good r0_work x0_shelf x0_rowSort x0_rowSize x0_moved x0_shown x0_tape x0_tapeSize x0_refused x0_lines x0_changes x0_coins x0_goods x0_works x0_years x0_gone x0_spent g98 g99 g100 g101 g102 x0_numbers x0_statements x0_left x0_far x0_tons x0_way x0_steps x0_met x0_queue x0_totals, gridI d r0_line 20 7 (va_up g94 q93 g103), gridI d r0_good 8 3 x0_good, gridI d r0_work 7 5 x0_work]) 1 rfl rfl (gridI_mg (ck_ok eq93).2.2) rfl ?_
      refine J_if_eq (tg := 70) hK qd3_54.2.2.2.2.2.1 rfl rfl (fun hc39 => ?_) (fun hc39 => ?_)
      · have hf := ip hc39 hf
        refine J_iconst (v := 0) hK qd3_55.2.2.2.2.2.2.1 rfl (by decide) ?_
        obtain rfl := Option.some.inj hf
        exact J_zret hK hR qd3_55.2.2.2.2.2.2.2.1 () rfl rfl (by decide) (by decide)
      · have hf := iq hc39 hf
        refine J_aload_n hK qd3_54.2.2.2.2.2.2.1 rfl 1 rfl rfl ?_
        refine J_str hK qd3_54.2.2.2.2.2.2.2.1 rfl 11 rfl rfl rfl ?_
        refine J_aload_n hK qd3_54.2.2.2.2.2.2.2.2.1 rfl 0 rfl rfl ?_
        refine J_iconst (v := 2) hK qd3_54.2.2.2.2.2.2.2.2.2.1 rfl (by decide) ?_
        refine J_iconst (v := 1) hK qd3_54.2.2.2.2.2.2.2.2.2.2.1 rfl (by decide) ?_
        refine J_bipush (v := 7) hK qd3_54.2.2.2.2.2.2.2.2.2.2.2.1 rfl (by decide) ?_
        refine J_split (gs2 := [gMd d h0 a0_kept a0_tried a0_chosen r0_rows r0_line r0_good r0_work x0_shelf x0_rowSort x0_rowSize x0_moved x0_shown x0_tape x0_tapeSize x0_refused x0_lines x0_changes x0_coins x0_goods x0_works x0_years x0_gone x0_spent g98 g99 g100 g101 g102 x0_numbers x0_statements x0_left x0_far x0_tons x0_way x0_steps x0_met x0_queue x0_totals, [cI d (r0_line q93) 7 ((va_up g94 q93 g103) q93)], gridIx d r0_line 20 7 (va_up g94 q93 g103) q93, gridI d r0_good 8 3 x0_good, gridI d r0_work 7 5 x0_work]) 1 rfl (gridI_sp (ck_ok eq93).2.2) rfl ?_
        obtain ⟨⟨v105, ⟨g107, g108, g109, g110, g111⟩, g112⟩, e113, hf⟩ := bs hf
        have hf := un3 hf
        have hf := un5 hf
        refine J_callV (m := 5) (m' := 5) (ce' := 0) (sl' := 0) (gr := [gridIx d r0_line 20 7 (va_up g94 q93 g103) q93, gridI d r0_good 8 3 x0_good, gridI d r0_work 7 5 x0_work]) (gs' := fun _ => [gMd d h0 a0_kept a0_tried a0_chosen r0_rows r0_line r0_good r0_work x0_shelf x0_rowSort x0_rowSize x0_moved x0_shown x0_tape x0_tapeSize x0_refused x0_lines x0_changes x0_coins x0_goods x0_works x0_years x0_gone x0_spent g107 g108 g109 g110 g111 x0_numbers x0_statements x0_left x0_far x0_tons x0_way x0_steps x0_met x0_queue x0_totals, [cI d (r0_line q93) 7 g112], gridIx d r0_line 20 7 (va_up g94 q93 g103) q93, gridI d r0_good 8 3 x0_good, gridI d r0_work 7 5 x0_work]) (st' := fun _ => [.int v105]) (st := []) hK qd3_54.2.2.2.2.2.2.2.2.2.2.2.2.1 cv_RX7_202 iv_yX7_told (As := [.ref (d.2.2.2.1 11), .ref (r0_line q93), .int (2), .int (1), .int (7)]) (kX7_told _ d h0 r0_rows r0_line r0_good r0_work a0_kept a0_tried a0_chosen (r0_line q93) n x0_shelf x0_rowSort x0_rowSize x0_rows x0_moved x0_shown x0_tape x0_tapeSize x0_refused x0_lines (va_up g94 q93 g103) x0_changes x0_coins x0_goods x0_good x0_works x0_work x0_years x0_gone x0_spent g98 g99 g100 g101 g102 x0_numbers x0_statements x0_left x0_far x0_tons x0_way x0_steps x0_met x0_queue x0_totals 11 7 ((va_up g94 q93 g103) q93) (2) (1) (7) e113) rfl rfl (Nat.le_of_ble_eq_true rfl) (by decide) 0 0 rfl rfl rfl [0, 1] [2, 3, 4] rfl (by decide +kernel) rfl rfl [3, 4, 0, 1, 2] (by decide +kernel) (fun _ => rfl) (fun _ => rfl) rfl rfl rfl (fun _ => rfl) (fun _ => ?_)
        refine J_merge (gs2 := [gMd d h0 a0_kept a0_tried a0_chosen r0_rows r0_line r0_good r0_work x0_shelf x0_rowSort x0_rowSize x0_moved x0_shown x0_tape x0_tapeSize x0_refused x0_lines x0_changes x0_coins x0_goods x0_works x0_years x0_gone x0_spent g107 g108 g109 g110 g111 x0_numbers x0_statements x0_left x0_far x0_tons x0_way x0_steps x0_met x0_queue x0_totals, gridI d r0_line 20 7 (va_up (va_up g94 q93 g103) q93 g112), gridI d r0_good 8 3 x0_good, gridI d r0_work 7 5 x0_work]) 1 rfl rfl (gridI_mg (ck_ok eq93).2.2) rfl ?_
        refine J_if_eq (tg := 70) hK qd3_54.2.2.2.2.2.2.2.2.2.2.2.2.2.1 rfl rfl (fun hc53 => ?_) (fun hc53 => ?_)
        · have hf := ip hc53 hf
          refine J_iconst (v := 0) hK qd3_55.2.2.2.2.2.2.1 rfl (by decide) ?_
          obtain rfl := Option.some.inj hf
          exact J_zret hK hR qd3_55.2.2.2.2.2.2.2.1 () rfl rfl (by decide) (by decide)
        · have hf := iq hc53 hf
          refine J_aload_n hK qd3_54.2.2.2.2.2.2.2.2.2.2.2.2.2.2.1 rfl 1 rfl rfl ?_
          refine J_str hK qd3_54.2.2.2.2.2.2.2.2.2.2.2.2.2.2.2.1 rfl 12 rfl rfl rfl ?_
          refine J_aload_n hK qd3_55.1 rfl 0 rfl rfl ?_
          refine J_iconst (v := 3) hK qd3_55.2.1 rfl (by decide) ?_
          refine J_iconst (v := 1) hK qd3_55.2.2.1 rfl (by decide) ?_
          refine J_bipush (v := 60) hK qd3_55.2.2.2.1 rfl (by decide) ?_
          refine J_split (gs2 := [gMd d h0 a0_kept a0_tried a0_chosen r0_rows r0_line r0_good r0_work x0_shelf x0_rowSort x0_rowSize x0_moved x0_shown x0_tape x0_tapeSize x0_refused x0_lines x0_changes x0_coins x0_goods x0_works x0_years x0_gone x0_spent g107 g108 g109 g110 g111 x0_numbers x0_statements x0_left x0_far x0_tons x0_way x0_steps x0_met x0_queue x0_totals, [cI d (r0_line q93) 7 ((va_up (va_up g94 q93 g103) q93 g112) q93)], gridIx d r0_line 20 7 (va_up (va_up g94 q93 g103) q93 g112) q93, gridI d r0_good 8 3 x0_good, gridI d r0_work 7 5 x0_work]) 1 rfl (gridI_sp (ck_ok eq93).2.2) rfl ?_
          obtain ⟨⟨v114, ⟨g116, g117, g118, g119, g120⟩, g121⟩, e122, hf⟩ := bs hf
          have hf := un3 hf
          have hf := un5 hf
          refine J_callV (m := 5) (m' := 5) (ce' := 0) (sl' := 0) (gr := [gridIx d r0_line 20 7 (va_up (va_up g94 q93 g103) q93 g112) q93, gridI d r0_good 8 3 x0_good, gridI d r0_work 7 5 x0_work]) (gs' := fun _ => [gMd d h0 a0_kept a0_tried a0_chosen r0_rows r0_line r0_good r0_work x0_shelf x0_rowSort x0_rowSize x0_moved x0_shown x0_tape x0_tapeSize x0_refused x0_lines x0_changes x0_coins x0_goods x0_works x0_years x0_gone x0_spent g116 g117 g118 g119 g120 x0_numbers x0_statements x0_left x0_far x0_tons x0_way x0_steps x0_met x0_queue x0_totals, [cI d (r0_line q93) 7 g121], gridIx d r0_line 20 7 (va_up (va_up g94 q93 g103) q93 g112) q93, gridI d r0_good 8 3 x0_good, gridI d r0_work 7 5 x0_work]) (st' := fun _ => [.int v114]) (st := []) hK qd3_55.2.2.2.2.1 cv_RX7_202 iv_yX7_told (As := [.ref (d.2.2.2.1 12), .ref (r0_line q93), .int (3), .int (1), .int (60)]) (kX7_told _ d h0 r0_rows r0_line r0_good r0_work a0_kept a0_tried a0_chosen (r0_line q93) n x0_shelf x0_rowSort x0_rowSize x0_rows x0_moved x0_shown x0_tape x0_tapeSize x0_refused x0_lines (va_up (va_up g94 q93 g103) q93 g112) x0_changes x0_coins x0_goods x0_good x0_works x0_work x0_years x0_gone x0_spent g107 g108 g109 g110 g111 x0_numbers x0_statements x0_left x0_far x0_tons x0_way x0_steps x0_met x0_queue x0_totals 12 7 ((va_up (va_up g94 q93 g103) q93 g112) q93) (3) (1) (60) e122) rfl rfl (Nat.le_of_ble_eq_true rfl) (by decide) 0 0 rfl rfl rfl [0, 1] [2, 3, 4] rfl (by decide +kernel) rfl rfl [3, 4, 0, 1, 2] (by decide +kernel) (fun _ => rfl) (fun _ => rfl) rfl rfl rfl (fun _ => rfl) (fun _ => ?_)
          refine J_merge (gs2 := [gMd d h0 a0_kept a0_tried a0_chosen r0_rows r0_line r0_good r0_work x0_shelf x0_rowSort x0_rowSize x0_moved x0_shown x0_tape x0_tapeSize x0_refused x0_lines x0_changes x0_coins x0_goods x0_works x0_years x0_gone x0_spent g116 g117 g118 g119 g120 x0_numbers x0_statements x0_left x0_far x0_tons x0_way x0_steps x0_met x0_queue x0_totals, gridI d r0_line 20 7 (va_up (va_up (va_up g94 q93 g103) q93 g112) q93 g121), gridI d r0_good 8 3 x0_good, gridI d r0_work 7 5 x0_work]) 1 rfl rfl (gridI_mg (ck_ok eq93).2.2) rfl ?_
          refine J_if_ne (tg := 72) hK qd3_55.2.2.2.2.2.1 rfl rfl (fun hc67 => ?_) (fun hc67 => ?_)
          · have hf := iq hc67 hf
            refine J_aload_n hK qd3_55.2.2.2.2.2.2.2.2.1 rfl 1 rfl rfl ?_
            refine J_str hK qd3_55.2.2.2.2.2.2.2.2.2.1 rfl 13 rfl rfl rfl ?_
            refine J_aload_n hK qd3_55.2.2.2.2.2.2.2.2.2.2.1 rfl 0 rfl rfl ?_
            refine J_iconst (v := 4) hK qd3_55.2.2.2.2.2.2.2.2.2.2.2.1 rfl (by decide) ?_
            refine J_iconst (v := 1) hK qd3_55.2.2.2.2.2.2.2.2.2.2.2.2.1 rfl (by decide) ?_
            refine J_sipush (v := 999) hK qd3_55.2.2.2.2.2.2.2.2.2.2.2.2.2.1 rfl (by decide) ?_
            refine J_split (gs2 := [gMd d h0 a0_kept a0_tried a0_chosen r0_rows r0_line r0_good r0_work x0_shelf x0_rowSort x0_rowSize x0_moved x0_shown x0_tape x0_tapeSize x0_refused x0_lines x0_changes x0_coins x0_goods x0_works x0_years x0_gone x0_spent g116 g117 g118 g119 g120 x0_numbers x0_statements x0_left x0_far x0_tons x0_way x0_steps x0_met x0_queue x0_totals, [cI d (r0_line q93) 7 ((va_up (va_up (va_up g94 q93 g103) q93 g112) q93 g121) q93)], gridIx d r0_line 20 7 (va_up (va_up (va_up g94 q93 g103) q93 g112) q93 g121) q93, gridI d r0_good 8 3 x0_good, gridI d r0_work 7 5 x0_work]) 1 rfl (gridI_sp (ck_ok eq93).2.2) rfl ?_
            obtain ⟨⟨v123, ⟨g125, g126, g127, g128, g129⟩, g130⟩, e131, hf⟩ := bs hf
            have hf := un3 hf
            have hf := un5 hf
            refine J_callV (m := 5) (m' := 5) (ce' := 0) (sl' := 0) (gr := [gridIx d r0_line 20 7 (va_up (va_up (va_up g94 q93 g103) q93 g112) q93 g121) q93, gridI d r0_good 8 3 x0_good, gridI d r0_work 7 5 x0_work]) (gs' := fun _ => [gMd d h0 a0_kept a0_tried a0_chosen r0_rows r0_line r0_good r0_work x0_shelf x0_rowSort x0_rowSize x0_moved x0_shown x0_tape x0_tapeSize x0_refused x0_lines x0_changes x0_coins x0_goods x0_works x0_years x0_gone x0_spent g125 g126 g127 g128 g129 x0_numbers x0_statements x0_left x0_far x0_tons x0_way x0_steps x0_met x0_queue x0_totals, [cI d (r0_line q93) 7 g130], gridIx d r0_line 20 7 (va_up (va_up (va_up g94 q93 g103) q93 g112) q93 g121) q93, gridI d r0_good 8 3 x0_good, gridI d r0_work 7 5 x0_work]) (st' := fun _ => [.int v123]) (st := []) hK qd3_55.2.2.2.2.2.2.2.2.2.2.2.2.2.2.1 cv_RX7_217 iv_yX7_perhaps (As := [.ref (d.2.2.2.1 13), .ref (r0_line q93), .int (4), .int (1), .int (999)]) (kX7_perhaps _ d h0 r0_rows r0_line r0_good r0_work a0_kept a0_tried a0_chosen (r0_line q93) n x0_shelf x0_rowSort x0_rowSize x0_rows x0_moved x0_shown x0_tape x0_tapeSize x0_refused x0_lines (va_up (va_up (va_up g94 q93 g103) q93 g112) q93 g121) x0_changes x0_coins x0_goods x0_good x0_works x0_work x0_years x0_gone x0_spent g116 g117 g118 g119 g120 x0_numbers x0_statements x0_left x0_far x0_tons x0_way x0_steps x0_met x0_queue x0_totals 13 7 ((va_up (va_up (va_up g94 q93 g103) q93 g112) q93 g121) q93) (4) (1) (999) e131) rfl rfl (Nat.le_of_ble_eq_true rfl) (by decide) 0 0 rfl rfl rfl [0, 1] [2, 3, 4] rfl (by decide +kernel) rfl rfl [3, 4, 0, 1, 2] (by decide +kernel) (fun _ => rfl) (fun _ => rfl) rfl rfl rfl (fun _ => rfl) (fun _ => ?_)
            refine J_merge (gs2 := [gMd d h0 a0_kept a0_tried a0_chosen r0_rows r0_line r0_good r0_work x0_shelf x0_rowSort x0_rowSize x0_moved x0_shown x0_tape x0_tapeSize x0_refused x0_lines x0_changes x0_coins x0_goods x0_works x0_years x0_gone x0_spent g125 g126 g127 g128 g129 x0_numbers x0_statements x0_left x0_far x0_tons x0_way x0_steps x0_met x0_queue x0_totals, gridI d r0_line 20 7 (va_up (va_up (va_up (va_up g94 q93 g103) q93 g112) q93 g121) q93 g130), gridI d r0_good 8 3 x0_good, gridI d r0_work 7 5 x0_work]) 1 rfl rfl (gridI_mg (ck_ok eq93).2.2) rfl ?_
            refine J_if_eq (tg := 100) hK qd3_55.2.2.2.2.2.2.2.2.2.2.2.2.2.2.2.1 rfl rfl (fun hc84 => ?_) (fun hc84 => ?_)
            · have hf := ip hc84 hf
              refine J_iconst (v := 0) hK qd3_56.2.2.2.2.2.2.2.2.1 rfl (by decide) ?_
              obtain rfl := Option.some.inj hf
              exact J_zret hK hR qd3_56.2.2.2.2.2.2.2.2.2.1 () rfl rfl (by decide) (by decide)
            · have hf := iq hc84 hf
              refine J_aload_n hK qd3_56.1 rfl 1 rfl rfl ?_
              refine J_str hK qd3_56.2.1 rfl 14 rfl rfl rfl ?_
              refine J_aload_n hK qd3_56.2.2.1 rfl 0 rfl rfl ?_
              refine J_iconst (v := 5) hK qd3_56.2.2.2.1 rfl (by decide) ?_
              refine J_iconst (v := 0) hK qd3_56.2.2.2.2.1 rfl (by decide) ?_
              refine J_iconst (v := 5) hK qd3_56.2.2.2.2.2.1 rfl (by decide) ?_
              refine J_split (gs2 := [gMd d h0 a0_kept a0_tried a0_chosen r0_rows r0_line r0_good r0_work x0_shelf x0_rowSort x0_rowSize x0_moved x0_shown x0_tape x0_tapeSize x0_refused x0_lines x0_changes x0_coins x0_goods x0_works x0_years x0_gone x0_spent g125 g126 g127 g128 g129 x0_numbers x0_statements x0_left x0_far x0_tons x0_way x0_steps x0_met x0_queue x0_totals, [cI d (r0_line q93) 7 ((va_up (va_up (va_up (va_up g94 q93 g103) q93 g112) q93 g121) q93 g130) q93)], gridIx d r0_line 20 7 (va_up (va_up (va_up (va_up g94 q93 g103) q93 g112) q93 g121) q93 g130) q93, gridI d r0_good 8 3 x0_good, gridI d r0_work 7 5 x0_work]) 1 rfl (gridI_sp (ck_ok eq93).2.2) rfl ?_
              obtain ⟨⟨v132, ⟨g134, g135, g136, g137, g138⟩, g139⟩, e140, hf⟩ := bs hf
              have hf := un3 hf
              have hf := un5 hf
              refine J_callV (m := 5) (m' := 5) (ce' := 0) (sl' := 0) (gr := [gridIx d r0_line 20 7 (va_up (va_up (va_up (va_up g94 q93 g103) q93 g112) q93 g121) q93 g130) q93, gridI d r0_good 8 3 x0_good, gridI d r0_work 7 5 x0_work]) (gs' := fun _ => [gMd d h0 a0_kept a0_tried a0_chosen r0_rows r0_line r0_good r0_work x0_shelf x0_rowSort x0_rowSize x0_moved x0_shown x0_tape x0_tapeSize x0_refused x0_lines x0_changes x0_coins x0_goods x0_works x0_years x0_gone x0_spent g134 g135 g136 g137 g138 x0_numbers x0_statements x0_left x0_far x0_tons x0_way x0_steps x0_met x0_queue x0_totals, [cI d (r0_line q93) 7 g139], gridIx d r0_line 20 7 (va_up (va_up (va_up (va_up g94 q93 g103) q93 g112) q93 g121) q93 g130) q93, gridI d r0_good 8 3 x0_good, gridI d r0_work 7 5 x0_work]) (st' := fun _ => [.int v132]) (st := []) hK qd3_56.2.2.2.2.2.2.1 cv_RX7_217 iv_yX7_perhaps (As := [.ref (d.2.2.2.1 14), .ref (r0_line q93), .int (5), .int (0), .int (5)]) (kX7_perhaps _ d h0 r0_rows r0_line r0_good r0_work a0_kept a0_tried a0_chosen (r0_line q93) n x0_shelf x0_rowSort x0_rowSize x0_rows x0_moved x0_shown x0_tape x0_tapeSize x0_refused x0_lines (va_up (va_up (va_up (va_up g94 q93 g103) q93 g112) q93 g121) q93 g130) x0_changes x0_coins x0_goods x0_good x0_works x0_work x0_years x0_gone x0_spent g125 g126 g127 g128 g129 x0_numbers x0_statements x0_left x0_far x0_tons x0_way x0_steps x0_met x0_queue x0_totals 14 7 ((va_up (va_up (va_up (va_up g94 q93 g103) q93 g112) q93 g121) q93 g130) q93) (5) (0) (5) e140) rfl rfl (Nat.le_of_ble_eq_true rfl) (by decide) 0 0 rfl rfl rfl [0, 1] [2, 3, 4] rfl (by decide +kernel) rfl rfl [3, 4, 0, 1, 2] (by decide +kernel) (fun _ => rfl) (fun _ => rfl) rfl rfl rfl (fun _ => rfl) (fun _ => ?_)
              refine J_merge (gs2 := [gMd d h0 a0_kept a0_tried a0_chosen r0_rows r0_line r0_good r0_work x0_shelf x0_rowSort x0_rowSize x0_moved x0_shown x0_tape x0_tapeSize x0_refused x0_lines x0_changes x0_coins x0_goods x0_works x0_years x0_gone x0_spent g134 g135 g136 g137 g138 x0_numbers x0_statements x0_left x0_far x0_tons x0_way x0_steps x0_met x0_queue x0_totals, gridI d r0_line 20 7 (va_up (va_up (va_up (va_up (va_up g94 q93 g103) q93 g112) q93 g121) q93 g130) q93 g139), gridI d r0_good 8 3 x0_good, gridI d r0_work 7 5 x0_work]) 1 rfl rfl (gridI_mg (ck_ok eq93).2.2) rfl ?_
              refine J_if_ne (tg := 102) hK qd3_56.2.2.2.2.2.2.2.1 rfl rfl (fun hc97 => ?_) (fun hc97 => ?_)
              · have hf := iq hc97 hf
                refine J_aload_n hK qd3_56.2.2.2.2.2.2.2.2.2.2.1 rfl 1 rfl rfl ?_
                refine J_dup hK qd3_56.2.2.2.2.2.2.2.2.2.2.2.1 rfl rfl ?_
                refine J_get hK fo_RX7_82 qd3_56.2.2.2.2.2.2.2.2.2.2.2.2.1 rfl 0 0 rfl rfl rfl ?_
                refine J_iconst (v := 1) hK qd3_56.2.2.2.2.2.2.2.2.2.2.2.2.2.1 rfl (by decide) ?_
                refine J_iadd hK qd3_56.2.2.2.2.2.2.2.2.2.2.2.2.2.2.1 rfl ?_
                refine J_put (g' := gMd d h0 a0_kept a0_tried a0_chosen r0_rows r0_line r0_good r0_work x0_shelf x0_rowSort x0_rowSize x0_moved x0_shown x0_tape x0_tapeSize x0_refused (x0_lines + 1) x0_changes x0_coins x0_goods x0_works x0_years x0_gone x0_spent g134 g135 g136 g137 g138 x0_numbers x0_statements x0_left x0_far x0_tons x0_way x0_steps x0_met x0_queue x0_totals) (gs' := [gMd d h0 a0_kept a0_tried a0_chosen r0_rows r0_line r0_good r0_work x0_shelf x0_rowSort x0_rowSize x0_moved x0_shown x0_tape x0_tapeSize x0_refused (x0_lines + 1) x0_changes x0_coins x0_goods x0_works x0_years x0_gone x0_spent g134 g135 g136 g137 g138 x0_numbers x0_statements x0_left x0_far x0_tons x0_way x0_steps x0_met x0_queue x0_totals, gridI d r0_line 20 7 (va_up (va_up (va_up (va_up (va_up g94 q93 g103) q93 g112) q93 g121) q93 g130) q93 g139), gridI d r0_good 8 3 x0_good, gridI d r0_work 7 5 x0_work]) hK fp_RX7_82 qd3_56.2.2.2.2.2.2.2.2.2.2.2.2.2.2.2.1 rfl 0 0 rfl rfl rfl rfl (Nat.le_of_ble_eq_true rfl) rfl rfl ?_
                refine J_iconst (v := 1) hK qd3_57.1 rfl (by decide) ?_
                obtain rfl := Option.some.inj hf
                exact J_zret hK hR qd3_57.2.1 () rfl rfl (by decide) (by decide)
              · have hf := ip hc97 hf
                refine J_iconst (v := 0) hK qd3_56.2.2.2.2.2.2.2.2.1 rfl (by decide) ?_
                obtain rfl := Option.some.inj hf
                exact J_zret hK hR qd3_56.2.2.2.2.2.2.2.2.2.1 () rfl rfl (by decide) (by decide)
          · have hf := ip hc67 hf
            refine J_iconst (v := 0) hK qd3_55.2.2.2.2.2.2.1 rfl (by decide) ?_
            obtain rfl := Option.some.inj hf
            exact J_zret hK hR qd3_55.2.2.2.2.2.2.2.1 () rfl rfl (by decide) (by decide)

def fX7_read_s23 (n : Nat) (x0_shelf : (Nat → Int32)) (x0_rowSort : (Nat → Int32)) (x0_rowSize : (Nat → Int32)) (x0_rows : (Nat → Nat → Int64)) (x0_moved : (Nat → Int64)) (x0_shown : (Nat → Int32)) (x0_tape : (Nat → Int32)) (x0_tapeSize : Int32) (x0_refused : (Nat → Int32)) (x0_gone : Int32) (x0_spent : Int32) (x0_left : (Nat → Int32)) (x0_far : (Nat → Int32)) (x0_tons : Int32) (x0_way : (Nat → Int32)) (x0_steps : Int32) (x0_met : Int64) (x0_queue : (Nat → Int32)) (x0_totals : (Nat → Int32)) (z25 : Int32) (z26 : (Nat → Nat → Int32)) (z27 : (Nat → Int32)) (z28 : (Nat → Int32)) (z29 : Int32) (z30 : (Nat → Nat → Int32)) (z31 : Int32) (z32 : (Nat → Nat → Int32)) (z33 : Int32) (z34 : Int32) (z35 : Int32) (z36 : Int32) (z37 : Int64) (z38 : Int32) (z39 : (Nat → Int32)) (z40 : Int32) : Option ((Int32 × (Nat → Nat → Int32) × (Nat → Int32) × (Nat → Int32) × Int32 × (Nat → Nat → Int32) × Int32 × (Nat → Nat → Int32) × Int32 × Int32 × Int32 × Int32 × Int64 × Int32 × (Nat → Int32) × Int32) ⊕ (((Int32 × (Nat → Nat → Int32) × (Nat → Int32) × (Nat → Int32) × Int32 × (Nat → Nat → Int32) × Int32 × (Nat → Nat → Int32) × Int32 × Int32 × Int32 × Int32 × Int64 × Int32 × (Nat → Int32) × Int32) ⊕ ((Int32 × (Nat → Nat → Int32) × (Nat → Int32) × (Nat → Int32) × Int32 × (Nat → Nat → Int32) × Int32 × (Nat → Nat → Int32) × Int32 × Int32 × Int32 × Int32 × Int64 × Int32 × (Nat → Int32) × Int32) ⊕ (Int32 × (Nat → Nat → Int32) × (Nat → Int32) × (Nat → Int32) × Int32 × (Nat → Nat → Int32) × Int32 × (Nat → Nat → Int32) × Int32 × Int32 × Int32 × Int32 × Int64 × Int32 × (Nat → Int32) × Int32))))) :=
  if z35 = 0 then (some (.inr (.inr (.inr (z25, z26, z27, z28, z29, z30, z31, z32, z33, z34, z35, z36, z37, z38, z39, z40))))) else (if z35 = 3 then ((fX7_look n (x0_shelf, x0_rowSort, x0_rowSize, x0_rows, x0_moved, x0_shown, x0_tape, x0_tapeSize, x0_refused, z25, z26, z27, z28, z29, z30, z31, z32, z33, x0_gone, x0_spent, z34, z35, z36, z37, z38, z39, z40, x0_left, x0_far, x0_tons, x0_way, x0_steps, x0_met, x0_queue, x0_totals)).bind (u4 fun g94 g95 g96 g97 => (fX7_statement n (x0_shelf, x0_rowSort, x0_rowSize, x0_rows, x0_moved, x0_shown, x0_tape, x0_tapeSize, x0_refused, z25, z26, z27, z28, z29, z30, z31, z32, z33, x0_gone, x0_spent, g94, g95, g96, g97, z38, z39, z40, x0_left, x0_far, x0_tons, x0_way, x0_steps, x0_met, x0_queue, x0_totals)).bind (u2 fun v99 G100 => u15 (fun g101 g102 g103 g104 g105 g106 g107 g108 g109 g110 g111 g112 g113 g114 g115 => if v99 = 0 then (some (.inr (.inr (.inl (g101, g102, g103, g104, g105, g106, g107, g108, g109, g110, g111, g112, g113, g114, g115, z40))))) else (some (.inl (g101, g102, g103, g104, g105, g106, g107, g108, g109, g110, g111, g112, g113, g114, g115, (z40 + 1))))) G100))) else (some (.inr (.inl (z25, z26, z27, z28, z29, z30, z31, z32, z33, z34, z35, z36, z37, z38, z39, z40)))))
def fX7_read (n : Nat) (X0 : MdT) : Option (Int32 × (Int32 × (Nat → Nat → Int32) × (Nat → Int32) × (Nat → Int32) × Int32 × (Nat → Nat → Int32) × Int32 × (Nat → Nat → Int32) × Int32 × Int32 × Int32 × Int32 × Int64 × Int32 × (Nat → Int32) × Int32)) :=
  u35 (fun (x0_shelf : (Nat → Int32)) (x0_rowSort : (Nat → Int32)) (x0_rowSize : (Nat → Int32)) (x0_rows : (Nat → Nat → Int64)) (x0_moved : (Nat → Int64)) (x0_shown : (Nat → Int32)) (x0_tape : (Nat → Int32)) (x0_tapeSize : Int32) (x0_refused : (Nat → Int32)) (x0_lines : Int32) (x0_line : (Nat → Nat → Int32)) (x0_changes : (Nat → Int32)) (x0_coins : (Nat → Int32)) (x0_goods : Int32) (x0_good : (Nat → Nat → Int32)) (x0_works : Int32) (x0_work : (Nat → Nat → Int32)) (x0_years : Int32) (x0_gone : Int32) (x0_spent : Int32) (x0_at : Int32) (x0_token : Int32) (x0_from : Int32) (x0_figures : Int64) (x0_fault : Int32) (x0_numbers : (Nat → Int32)) (x0_statements : Int32) (x0_left : (Nat → Int32)) (x0_far : (Nat → Int32)) (x0_tons : Int32) (x0_way : (Nat → Int32)) (x0_steps : Int32) (x0_met : Int64) (x0_queue : (Nat → Int32)) (x0_totals : (Nat → Int32)) => (fX7_look n (x0_shelf, x0_rowSort, x0_rowSize, x0_rows, x0_moved, x0_shown, x0_tape, x0_tapeSize, x0_refused, x0_lines, x0_line, x0_changes, x0_coins, x0_goods, x0_good, x0_works, x0_work, x0_years, x0_gone, x0_spent, 0, x0_token, x0_from, x0_figures, x0_fault, x0_numbers, 1, x0_left, x0_far, x0_tons, x0_way, x0_steps, x0_met, x0_queue, x0_totals)).bind (u4 fun g1 g2 g3 g4 => (fX7_statement n (x0_shelf, x0_rowSort, x0_rowSize, x0_rows, x0_moved, x0_shown, x0_tape, x0_tapeSize, x0_refused, x0_lines, x0_line, x0_changes, x0_coins, x0_goods, x0_good, x0_works, x0_work, x0_years, x0_gone, x0_spent, g1, g2, g3, g4, x0_fault, x0_numbers, 1, x0_left, x0_far, x0_tons, x0_way, x0_steps, x0_met, x0_queue, x0_totals)).bind (u2 fun v6 G7 => u15 (fun g8 g9 g10 g11 g12 g13 g14 g15 g16 g17 g18 g19 g20 g21 g22 => if v6 = 0 then (some (0, (g8, g9, g10, g11, g12, g13, g14, g15, g16, g17, g18, g19, g20, g21, g22, 1))) else ((lp (u16 (fX7_read_s23 n x0_shelf x0_rowSort x0_rowSize x0_rows x0_moved x0_shown x0_tape x0_tapeSize x0_refused x0_gone x0_spent x0_left x0_far x0_tons x0_way x0_steps x0_met x0_queue x0_totals)) n (g8, g9, g10, g11, g12, g13, g14, g15, g16, g17, g18, g19, g20, g21, g22, 1)).bind (Sum.elim (u16 fun w42 w43 w44 w45 w46 w47 w48 w49 w50 w51 w52 w53 w54 w55 w56 w57 => (fX7_wrong (x0_shelf, x0_rowSort, x0_rowSize, x0_rows, x0_moved, x0_shown, x0_tape, x0_tapeSize, x0_refused, w42, w43, w44, w45, w46, w47, w48, w49, w50, x0_gone, x0_spent, w51, w52, w53, w54, w55, w56, w57, x0_left, x0_far, x0_tons, x0_way, x0_steps, x0_met, x0_queue, x0_totals)).bind (u2 fun v58 g59 => (zb v58).bind fun v61 => some (v61, (w42, w43, w44, w45, w46, w47, w48, w49, w50, w51, w52, w53, w54, g59, w56, w57)))) (Sum.elim (u16 fun w62 w63 w64 w65 w66 w67 w68 w69 w70 w71 w72 w73 w74 w75 w76 w77 => some (0, (w62, w63, w64, w65, w66, w67, w68, w69, w70, w71, w72, w73, w74, w75, w76, w77))) (u16 fun w78 w79 w80 w81 w82 w83 w84 w85 w86 w87 w88 w89 w90 w91 w92 w93 => some (1, (w78, w79, w80, w81, w82, w83, w84, w85, w86, w87, w88, w89, w90, w91, w92, w93))))))) G7))) X0
set_option maxHeartbeats 4000000 in
set_option maxRecDepth 100000 in
theorem kX7_read (l : Launch) (d : DT) (h0 : Nat → Nat) (r0_rows : Nat → Nat) (r0_line : Nat → Nat) (r0_good : Nat → Nat) (r0_work : Nat → Nat) (a0_kept : Option Nat) (a0_tried : Option Nat) (a0_chosen : Option Nat) (n : Nat) (x0_shelf : (Nat → Int32)) (x0_rowSort : (Nat → Int32)) (x0_rowSize : (Nat → Int32)) (x0_rows : (Nat → Nat → Int64)) (x0_moved : (Nat → Int64)) (x0_shown : (Nat → Int32)) (x0_tape : (Nat → Int32)) (x0_tapeSize : Int32) (x0_refused : (Nat → Int32)) (x0_lines : Int32) (x0_line : (Nat → Nat → Int32)) (x0_changes : (Nat → Int32)) (x0_coins : (Nat → Int32)) (x0_goods : Int32) (x0_good : (Nat → Nat → Int32)) (x0_works : Int32) (x0_work : (Nat → Nat → Int32)) (x0_years : Int32) (x0_gone : Int32) (x0_spent : Int32) (x0_at : Int32) (x0_token : Int32) (x0_from : Int32) (x0_figures : Int64) (x0_fault : Int32) (x0_numbers : (Nat → Int32)) (x0_statements : Int32) (x0_left : (Nat → Int32)) (x0_far : (Nat → Int32)) (x0_tons : Int32) (x0_way : (Nat → Int32)) (x0_steps : Int32) (x0_met : Int64) (x0_queue : (Nat → Int32)) (x0_totals : (Nat → Int32))  {out : Int32 × (Int32 × (Nat → Nat → Int32) × (Nat → Int32) × (Nat → Int32) × Int32 × (Nat → Nat → Int32) × Int32 × (Nat → Nat → Int32) × Int32 × Int32 × Int32 × Int32 × Int64 × Int32 × (Nat → Int32) × Int32)} (hf : fX7_read n (x0_shelf, x0_rowSort, x0_rowSize, x0_rows, x0_moved, x0_shown, x0_tape, x0_tapeSize, x0_refused, x0_lines, x0_line, x0_changes, x0_coins, x0_goods, x0_good, x0_works, x0_work, x0_years, x0_gone, x0_spent, x0_at, x0_token, x0_from, x0_figures, x0_fault, x0_numbers, x0_statements, x0_left, x0_far, x0_tons, x0_way, x0_steps, x0_met, x0_queue, x0_totals) = some out) : Ct l d yX7_read cX7_read 1 (some .boolean) { frames := 8, cells := 0, slots := 0, locals := 178 } [.ref (h0 0)] [gMd d h0 a0_kept a0_tried a0_chosen r0_rows r0_line r0_good r0_work x0_shelf x0_rowSort x0_rowSize x0_moved x0_shown x0_tape x0_tapeSize x0_refused x0_lines x0_changes x0_coins x0_goods x0_works x0_years x0_gone x0_spent x0_at x0_token x0_from x0_figures x0_fault x0_numbers x0_statements x0_left x0_far x0_tons x0_way x0_steps x0_met x0_queue x0_totals, gridI d r0_line 20 7 x0_line, gridI d r0_good 8 3 x0_good, gridI d r0_work 7 5 x0_work] (fun _ : Unit => (some (.int out.1), [gMd d h0 a0_kept a0_tried a0_chosen r0_rows r0_line r0_good r0_work x0_shelf x0_rowSort x0_rowSize x0_moved x0_shown x0_tape x0_tapeSize x0_refused (out.2.1) (out.2.2.2.1) (out.2.2.2.2.1) (out.2.2.2.2.2.1) (out.2.2.2.2.2.2.2.1) (out.2.2.2.2.2.2.2.2.2.1) x0_gone x0_spent (out.2.2.2.2.2.2.2.2.2.2.1) (out.2.2.2.2.2.2.2.2.2.2.2.1) (out.2.2.2.2.2.2.2.2.2.2.2.2.1) (out.2.2.2.2.2.2.2.2.2.2.2.2.2.1) (out.2.2.2.2.2.2.2.2.2.2.2.2.2.2.1) (out.2.2.2.2.2.2.2.2.2.2.2.2.2.2.2.1) (out.2.2.2.2.2.2.2.2.2.2.2.2.2.2.2.2) x0_left x0_far x0_tons x0_way x0_steps x0_met x0_queue x0_totals, gridI d r0_line 20 7 (out.2.2.1), gridI d r0_good 8 3 (out.2.2.2.2.2.2.1), gridI d r0_work 7 5 (out.2.2.2.2.2.2.2.2.1)])) := by
  refine Ct.of (by decide) (Nat.le_of_ble_eq_true rfl) ?_
  intro Φ hl hK hR
  subst hl
  have hK : Ok d Φ RX7 "read" cX7_read 1 (some .boolean) { frames := 8, cells := 0, slots := 0, locals := 178 } := hK
  unfold fX7_read at hf
  have hf := un35 hf
  show J d Φ 1 [gMd d h0 a0_kept a0_tried a0_chosen r0_rows r0_line r0_good r0_work x0_shelf x0_rowSort x0_rowSize x0_moved x0_shown x0_tape x0_tapeSize x0_refused x0_lines x0_changes x0_coins x0_goods x0_works x0_years x0_gone x0_spent x0_at x0_token x0_from x0_figures x0_fault x0_numbers x0_statements x0_left x0_far x0_tons x0_way x0_steps x0_met x0_queue x0_totals, gridI d r0_line 20 7 x0_line, gridI d r0_good 8 3 x0_good, gridI d r0_work 7 5 x0_work] 0 0 0 [(0, .ref (h0 0))] []
  refine J_aload_n hK qd3_72.1 rfl 0 rfl rfl ?_
  refine J_iconst (v := 1) hK qd3_72.2.1 rfl (by decide) ?_
  refine J_put (g' := gMd d h0 a0_kept a0_tried a0_chosen r0_rows r0_line r0_good r0_work x0_shelf x0_rowSort x0_rowSize x0_moved x0_shown x0_tape x0_tapeSize x0_refused x0_lines x0_changes x0_coins x0_goods x0_works x0_years x0_gone x0_spent x0_at x0_token x0_from x0_figures x0_fault x0_numbers (1) x0_left x0_far x0_tons x0_way x0_steps x0_met x0_queue x0_totals) (gs' := [gMd d h0 a0_kept a0_tried a0_chosen r0_rows r0_line r0_good r0_work x0_shelf x0_rowSort x0_rowSize x0_moved x0_shown x0_tape x0_tapeSize x0_refused x0_lines x0_changes x0_coins x0_goods x0_works x0_years x0_gone x0_spent x0_at x0_token x0_from x0_figures x0_fault x0_numbers (1) x0_left x0_far x0_tons x0_way x0_steps x0_met x0_queue x0_totals, gridI d r0_line 20 7 x0_line, gridI d r0_good 8 3 x0_good, gridI d r0_work 7 5 x0_work]) hK fp_RX7_232 qd3_72.2.2.1 rfl 0 0 rfl rfl rfl rfl (Nat.le_of_ble_eq_true rfl) rfl rfl ?_
  refine J_aload_n hK qd3_72.2.2.2.1 rfl 0 rfl rfl ?_
  refine J_iconst (v := 0) hK qd3_72.2.2.2.2.1 rfl (by decide) ?_
  refine J_put (g' := gMd d h0 a0_kept a0_tried a0_chosen r0_rows r0_line r0_good r0_work x0_shelf x0_rowSort x0_rowSize x0_moved x0_shown x0_tape x0_tapeSize x0_refused x0_lines x0_changes x0_coins x0_goods x0_works x0_years x0_gone x0_spent (0) x0_token x0_from x0_figures x0_fault x0_numbers (1) x0_left x0_far x0_tons x0_way x0_steps x0_met x0_queue x0_totals) (gs' := [gMd d h0 a0_kept a0_tried a0_chosen r0_rows r0_line r0_good r0_work x0_shelf x0_rowSort x0_rowSize x0_moved x0_shown x0_tape x0_tapeSize x0_refused x0_lines x0_changes x0_coins x0_goods x0_works x0_years x0_gone x0_spent (0) x0_token x0_from x0_figures x0_fault x0_numbers (1) x0_left x0_far x0_tons x0_way x0_steps x0_met x0_queue x0_totals, gridI d r0_line 20 7 x0_line, gridI d r0_good 8 3 x0_good, gridI d r0_work 7 5 x0_work]) hK fp_RX7_149 qd3_72.2.2.2.2.2.1 rfl 0 0 rfl rfl rfl rfl (Nat.le_of_ble_eq_true rfl) rfl rfl ?_
  refine J_aload_n hK qd3_72.2.2.2.2.2.2.1 rfl 0 rfl rfl ?_
  obtain ⟨⟨g1, g2, g3, g4⟩, e5, hf⟩ := bs hf
  have hf := un4 hf
  refine J_callV (m := 4) (m' := 4) (ce' := 0) (sl' := 0) (gr := [gridI d r0_line 20 7 x0_line, gridI d r0_good 8 3 x0_good, gridI d r0_work 7 5 x0_work]) (gs' := fun _ => [gMd d h0 a0_kept a0_tried a0_chosen r0_rows r0_line r0_good r0_work x0_shelf x0_rowSort x0_rowSize x0_moved x0_shown x0_tape x0_tapeSize x0_refused x0_lines x0_changes x0_coins x0_goods x0_works x0_years x0_gone x0_spent g1 g2 g3 g4 x0_fault x0_numbers (1) x0_left x0_far x0_tons x0_way x0_steps x0_met x0_queue x0_totals, gridI d r0_line 20 7 x0_line, gridI d r0_good 8 3 x0_good, gridI d r0_work 7 5 x0_work]) (st' := fun _ => []) (st := []) hK qd3_72.2.2.2.2.2.2.2.1 cv_RX7_191 iv_yX7_look (As := []) (kX7_look _ d h0 r0_rows r0_line r0_good r0_work a0_kept a0_tried a0_chosen n x0_shelf x0_rowSort x0_rowSize x0_rows x0_moved x0_shown x0_tape x0_tapeSize x0_refused x0_lines x0_line x0_changes x0_coins x0_goods x0_good x0_works x0_work x0_years x0_gone x0_spent (0) x0_token x0_from x0_figures x0_fault x0_numbers (1) x0_left x0_far x0_tons x0_way x0_steps x0_met x0_queue x0_totals e5) rfl rfl (Nat.le_of_ble_eq_true rfl) (by decide) 0 0 rfl rfl rfl [0] [1, 2, 3] rfl (by decide +kernel) rfl rfl [3, 0, 1, 2] (by decide +kernel) (fun _ => rfl) (fun _ => rfl) rfl rfl rfl (fun _ => rfl) (fun _ => ?_)
  refine J_aload_n hK qd3_72.2.2.2.2.2.2.2.2.1 rfl 0 rfl rfl ?_
  obtain ⟨⟨v6, ⟨g8, g9, g10, g11, g12, g13, g14, g15, g16, g17, g18, g19, g20, g21, g22⟩⟩, e23, hf⟩ := bs hf
  have hf := un2 hf
  have hf := un15 hf
  refine J_callV (m := 4) (m' := 4) (ce' := 0) (sl' := 0) (gr := []) (gs' := fun _ => [gMd d h0 a0_kept a0_tried a0_chosen r0_rows r0_line r0_good r0_work x0_shelf x0_rowSort x0_rowSize x0_moved x0_shown x0_tape x0_tapeSize x0_refused g8 g10 g11 g12 g14 g16 x0_gone x0_spent g17 g18 g19 g20 g21 g22 (1) x0_left x0_far x0_tons x0_way x0_steps x0_met x0_queue x0_totals, gridI d r0_line 20 7 g9, gridI d r0_good 8 3 g13, gridI d r0_work 7 5 g15]) (st' := fun _ => [.int v6]) (st := []) hK qd3_72.2.2.2.2.2.2.2.2.2.1 cv_RX7_235 iv_yX7_statement (As := []) (kX7_statement _ d h0 r0_rows r0_line r0_good r0_work a0_kept a0_tried a0_chosen n x0_shelf x0_rowSort x0_rowSize x0_rows x0_moved x0_shown x0_tape x0_tapeSize x0_refused x0_lines x0_line x0_changes x0_coins x0_goods x0_good x0_works x0_work x0_years x0_gone x0_spent g1 g2 g3 g4 x0_fault x0_numbers (1) x0_left x0_far x0_tons x0_way x0_steps x0_met x0_queue x0_totals e23) rfl rfl (Nat.le_of_ble_eq_true rfl) (by decide) 0 0 rfl rfl rfl [0, 1, 2, 3] [] rfl (by decide +kernel) rfl rfl [0, 1, 2, 3] (by decide +kernel) (fun _ => rfl) (fun _ => rfl) rfl rfl rfl (fun _ => rfl) (fun _ => ?_)
  refine J_if_ne (tg := 23) hK qd3_72.2.2.2.2.2.2.2.2.2.2.1 rfl rfl (fun hc18 => ?_) (fun hc18 => ?_)
  · have hf := iq hc18 hf
    obtain ⟨e41, hl24, hf⟩ := bs hf
    have hx24_38 : ∀ (w42 : Int32) (w43 : (Nat → Nat → Int32)) (w44 : (Nat → Int32)) (w45 : (Nat → Int32)) (w46 : Int32) (w47 : (Nat → Nat → Int32)) (w48 : Int32) (w49 : (Nat → Nat → Int32)) (w50 : Int32) (w51 : Int32) (w52 : Int32) (w53 : Int32) (w54 : Int64) (w55 : Int32) (w56 : (Nat → Int32)) (w57 : Int32), (.inl (w42, w43, w44, w45, w46, w47, w48, w49, w50, w51, w52, w53, w54, w55, w56, w57)) = e41 → J d Φ 1 [gMd d h0 a0_kept a0_tried a0_chosen r0_rows r0_line r0_good r0_work x0_shelf x0_rowSort x0_rowSize x0_moved x0_shown x0_tape x0_tapeSize x0_refused w42 w44 w45 w46 w48 w50 x0_gone x0_spent w51 w52 w53 w54 w55 w56 w57 x0_left x0_far x0_tons x0_way x0_steps x0_met x0_queue x0_totals, gridI d r0_line 20 7 w43, gridI d r0_good 8 3 w47, gridI d r0_work 7 5 w49] 0 0 38 [(0, .ref (h0 0))] [] := by
      intro w42 w43 w44 w45 w46 w47 w48 w49 w50 w51 w52 w53 w54 w55 w56 w57 he
      rw [← he] at hf
      simp only [Sum.elim_inl, Sum.elim_inr] at hf
      have hf := un16 hf
      refine J_aload_n hK qd3_73.2.2.2.2.1 rfl 0 rfl rfl ?_
      obtain ⟨⟨v58, g59⟩, e60, hf⟩ := bs hf
      have hf := un2 hf
      refine J_callV (m := 4) (m' := 4) (ce' := 0) (sl' := 0) (gr := [gridI d r0_line 20 7 w43, gridI d r0_good 8 3 w47, gridI d r0_work 7 5 w49]) (gs' := fun _ => [gMd d h0 a0_kept a0_tried a0_chosen r0_rows r0_line r0_good r0_work x0_shelf x0_rowSort x0_rowSize x0_moved x0_shown x0_tape x0_tapeSize x0_refused w42 w44 w45 w46 w48 w50 x0_gone x0_spent w51 w52 w53 w54 g59 w56 w57 x0_left x0_far x0_tons x0_way x0_steps x0_met x0_queue x0_totals, gridI d r0_line 20 7 w43, gridI d r0_good 8 3 w47, gridI d r0_work 7 5 w49]) (st' := fun _ => [.int v58]) (st := []) hK qd3_73.2.2.2.2.2.1 cv_RX7_187 iv_yX7_wrong (As := []) (kX7_wrong _ d h0 r0_rows r0_line r0_good r0_work a0_kept a0_tried a0_chosen x0_shelf x0_rowSort x0_rowSize x0_rows x0_moved x0_shown x0_tape x0_tapeSize x0_refused w42 w43 w44 w45 w46 w47 w48 w49 w50 x0_gone x0_spent w51 w52 w53 w54 w55 w56 w57 x0_left x0_far x0_tons x0_way x0_steps x0_met x0_queue x0_totals e60) rfl rfl (Nat.le_of_ble_eq_true rfl) (by decide) 0 0 rfl rfl rfl [0] [1, 2, 3] rfl (by decide +kernel) rfl rfl [3, 0, 1, 2] (by decide +kernel) (fun _ => rfl) (fun _ => rfl) rfl rfl rfl (fun _ => rfl) (fun _ => ?_)
      obtain ⟨v61, ev61, hf⟩ := bs hf
      obtain rfl := Option.some.inj hf
      exact J_zret hK hR qd3_73.2.2.2.2.2.2.1 () (zb_ok ev61).2 (by rw [(zb_ok ev61).1]) (by decide) (by decide)
    have hx24_54 : ∀ (w62 : Int32) (w63 : (Nat → Nat → Int32)) (w64 : (Nat → Int32)) (w65 : (Nat → Int32)) (w66 : Int32) (w67 : (Nat → Nat → Int32)) (w68 : Int32) (w69 : (Nat → Nat → Int32)) (w70 : Int32) (w71 : Int32) (w72 : Int32) (w73 : Int32) (w74 : Int64) (w75 : Int32) (w76 : (Nat → Int32)) (w77 : Int32), (.inr (.inl (w62, w63, w64, w65, w66, w67, w68, w69, w70, w71, w72, w73, w74, w75, w76, w77))) = e41 → J d Φ 1 [gMd d h0 a0_kept a0_tried a0_chosen r0_rows r0_line r0_good r0_work x0_shelf x0_rowSort x0_rowSize x0_moved x0_shown x0_tape x0_tapeSize x0_refused w62 w64 w65 w66 w68 w70 x0_gone x0_spent w71 w72 w73 w74 w75 w76 w77 x0_left x0_far x0_tons x0_way x0_steps x0_met x0_queue x0_totals, gridI d r0_line 20 7 w63, gridI d r0_good 8 3 w67, gridI d r0_work 7 5 w69] 0 0 54 [] [] := by
      intro w62 w63 w64 w65 w66 w67 w68 w69 w70 w71 w72 w73 w74 w75 w76 w77 he
      rw [← he] at hf
      simp only [Sum.elim_inl, Sum.elim_inr] at hf
      have hf := un16 hf
      refine J_iconst (v := 0) hK qd3_73.2.2.2.2.2.2.2.2.2.2.2.2.1 rfl (by decide) ?_
      obtain rfl := Option.some.inj hf
      exact J_zret hK hR qd3_73.2.2.2.2.2.2.2.2.2.2.2.2.2.1 () rfl rfl (by decide) (by decide)
    have hx24_69 : ∀ (w78 : Int32) (w79 : (Nat → Nat → Int32)) (w80 : (Nat → Int32)) (w81 : (Nat → Int32)) (w82 : Int32) (w83 : (Nat → Nat → Int32)) (w84 : Int32) (w85 : (Nat → Nat → Int32)) (w86 : Int32) (w87 : Int32) (w88 : Int32) (w89 : Int32) (w90 : Int64) (w91 : Int32) (w92 : (Nat → Int32)) (w93 : Int32), (.inr (.inr (w78, w79, w80, w81, w82, w83, w84, w85, w86, w87, w88, w89, w90, w91, w92, w93))) = e41 → J d Φ 1 [gMd d h0 a0_kept a0_tried a0_chosen r0_rows r0_line r0_good r0_work x0_shelf x0_rowSort x0_rowSize x0_moved x0_shown x0_tape x0_tapeSize x0_refused w78 w80 w81 w82 w84 w86 x0_gone x0_spent w87 w88 w89 w90 w91 w92 w93 x0_left x0_far x0_tons x0_way x0_steps x0_met x0_queue x0_totals, gridI d r0_line 20 7 w79, gridI d r0_good 8 3 w83, gridI d r0_work 7 5 w85] 0 0 69 [] [] := by
      intro w78 w79 w80 w81 w82 w83 w84 w85 w86 w87 w88 w89 w90 w91 w92 w93 he
      rw [← he] at hf
      simp only [Sum.elim_inl, Sum.elim_inr] at hf
      have hf := un16 hf
      refine J_iconst (v := 1) hK qd3_74.2.2.2.2.2.1 rfl (by decide) ?_
      obtain rfl := Option.some.inj hf
      exact J_zret hK hR qd3_74.2.2.2.2.2.2.1 () rfl rfl (by decide) (by decide)
    have lo24 : ∀ (k : Nat) (z25 : Int32) (z26 : (Nat → Nat → Int32)) (z27 : (Nat → Int32)) (z28 : (Nat → Int32)) (z29 : Int32) (z30 : (Nat → Nat → Int32)) (z31 : Int32) (z32 : (Nat → Nat → Int32)) (z33 : Int32) (z34 : Int32) (z35 : Int32) (z36 : Int32) (z37 : Int64) (z38 : Int32) (z39 : (Nat → Int32)) (z40 : Int32), lp (u16 (fX7_read_s23 n x0_shelf x0_rowSort x0_rowSize x0_rows x0_moved x0_shown x0_tape x0_tapeSize x0_refused x0_gone x0_spent x0_left x0_far x0_tons x0_way x0_steps x0_met x0_queue x0_totals)) k (z25, z26, z27, z28, z29, z30, z31, z32, z33, z34, z35, z36, z37, z38, z39, z40) = some e41 → J d Φ 1 [gMd d h0 a0_kept a0_tried a0_chosen r0_rows r0_line r0_good r0_work x0_shelf x0_rowSort x0_rowSize x0_moved x0_shown x0_tape x0_tapeSize x0_refused z25 z27 z28 z29 z31 z33 x0_gone x0_spent z34 z35 z36 z37 z38 z39 z40 x0_left x0_far x0_tons x0_way x0_steps x0_met x0_queue x0_totals, gridI d r0_line 20 7 z26, gridI d r0_good 8 3 z30, gridI d r0_work 7 5 z32] 0 0 23 [(0, .ref (h0 0))] [] := by
      intro k
      induction k with
      | zero => intro z25 z26 z27 z28 z29 z30 z31 z32 z33 z34 z35 z36 z37 z38 z39 z40 h; cases h
      | succ k ih24 =>
        intro z25 z26 z27 z28 z29 z30 z31 z32 z33 z34 z35 z36 z37 z38 z39 z40 h
        obtain ⟨k2, rr24, hk2, hs24, hr24⟩ := lp_ok h
        cases hk2
        have hs24 : fX7_read_s23 n x0_shelf x0_rowSort x0_rowSize x0_rows x0_moved x0_shown x0_tape x0_tapeSize x0_refused x0_gone x0_spent x0_left x0_far x0_tons x0_way x0_steps x0_met x0_queue x0_totals z25 z26 z27 z28 z29 z30 z31 z32 z33 z34 z35 z36 z37 z38 z39 z40 = some rr24 := hs24
        unfold fX7_read_s23 at hs24
        refine J_aload_n hK qd3_72.2.2.2.2.2.2.2.2.2.2.2.2.2.1 rfl 0 rfl rfl ?_
        refine J_get hK fo_RX7_159 qd3_72.2.2.2.2.2.2.2.2.2.2.2.2.2.2.1 rfl 0 0 rfl rfl rfl ?_
        refine J_if_eq (tg := 69) hK qd3_72.2.2.2.2.2.2.2.2.2.2.2.2.2.2.2.1 rfl rfl (fun hc27 => ?_) (fun hc27 => ?_)
        · have hs24 := ip hc27 hs24
          exact J_loc [] rfl (hx24_69 z25 z26 z27 z28 z29 z30 z31 z32 z33 z34 z35 z36 z37 z38 z39 z40 (lpx hs24 hr24))
        · have hs24 := iq hc27 hs24
          refine J_aload_n hK qd3_73.1 rfl 0 rfl rfl ?_
          refine J_get hK fo_RX7_159 qd3_73.2.1 rfl 0 0 rfl rfl rfl ?_
          refine J_iconst (v := 3) hK qd3_73.2.2.1 rfl (by decide) ?_
          refine J_icmp_eq (tg := 43) hK qd3_73.2.2.2.1 rfl rfl (fun hc35 => ?_) (fun hc35 => ?_)
          · have hs24 := ip hc35 hs24
            refine J_aload_n hK qd3_73.2.2.2.2.2.2.2.1 rfl 0 rfl rfl ?_
            obtain ⟨⟨g94, g95, g96, g97⟩, e98, hs24⟩ := bs hs24
            have hs24 := un4 hs24
            refine J_callV (m := 4) (m' := 4) (ce' := 0) (sl' := 0) (gr := [gridI d r0_line 20 7 z26, gridI d r0_good 8 3 z30, gridI d r0_work 7 5 z32]) (gs' := fun _ => [gMd d h0 a0_kept a0_tried a0_chosen r0_rows r0_line r0_good r0_work x0_shelf x0_rowSort x0_rowSize x0_moved x0_shown x0_tape x0_tapeSize x0_refused z25 z27 z28 z29 z31 z33 x0_gone x0_spent g94 g95 g96 g97 z38 z39 z40 x0_left x0_far x0_tons x0_way x0_steps x0_met x0_queue x0_totals, gridI d r0_line 20 7 z26, gridI d r0_good 8 3 z30, gridI d r0_work 7 5 z32]) (st' := fun _ => []) (st := []) hK qd3_73.2.2.2.2.2.2.2.2.1 cv_RX7_191 iv_yX7_look (As := []) (kX7_look _ d h0 r0_rows r0_line r0_good r0_work a0_kept a0_tried a0_chosen n x0_shelf x0_rowSort x0_rowSize x0_rows x0_moved x0_shown x0_tape x0_tapeSize x0_refused z25 z26 z27 z28 z29 z30 z31 z32 z33 x0_gone x0_spent z34 z35 z36 z37 z38 z39 z40 x0_left x0_far x0_tons x0_way x0_steps x0_met x0_queue x0_totals e98) rfl rfl (Nat.le_of_ble_eq_true rfl) (by decide) 0 0 rfl rfl rfl [0] [1, 2, 3] rfl (by decide +kernel) rfl rfl [3, 0, 1, 2] (by decide +kernel) (fun _ => rfl) (fun _ => rfl) rfl rfl rfl (fun _ => rfl) (fun _ => ?_)
            refine J_aload_n hK qd3_73.2.2.2.2.2.2.2.2.2.1 rfl 0 rfl rfl ?_
            obtain ⟨⟨v99, ⟨g101, g102, g103, g104, g105, g106, g107, g108, g109, g110, g111, g112, g113, g114, g115⟩⟩, e116, hs24⟩ := bs hs24
            have hs24 := un2 hs24
            have hs24 := un15 hs24
            refine J_callV (m := 4) (m' := 4) (ce' := 0) (sl' := 0) (gr := []) (gs' := fun _ => [gMd d h0 a0_kept a0_tried a0_chosen r0_rows r0_line r0_good r0_work x0_shelf x0_rowSort x0_rowSize x0_moved x0_shown x0_tape x0_tapeSize x0_refused g101 g103 g104 g105 g107 g109 x0_gone x0_spent g110 g111 g112 g113 g114 g115 z40 x0_left x0_far x0_tons x0_way x0_steps x0_met x0_queue x0_totals, gridI d r0_line 20 7 g102, gridI d r0_good 8 3 g106, gridI d r0_work 7 5 g108]) (st' := fun _ => [.int v99]) (st := []) hK qd3_73.2.2.2.2.2.2.2.2.2.2.1 cv_RX7_235 iv_yX7_statement (As := []) (kX7_statement _ d h0 r0_rows r0_line r0_good r0_work a0_kept a0_tried a0_chosen n x0_shelf x0_rowSort x0_rowSize x0_rows x0_moved x0_shown x0_tape x0_tapeSize x0_refused z25 z26 z27 z28 z29 z30 z31 z32 z33 x0_gone x0_spent g94 g95 g96 g97 z38 z39 z40 x0_left x0_far x0_tons x0_way x0_steps x0_met x0_queue x0_totals e116) rfl rfl (Nat.le_of_ble_eq_true rfl) (by decide) 0 0 rfl rfl rfl [0, 1, 2, 3] [] rfl (by decide +kernel) rfl rfl [0, 1, 2, 3] (by decide +kernel) (fun _ => rfl) (fun _ => rfl) rfl rfl rfl (fun _ => rfl) (fun _ => ?_)
            refine J_if_ne (tg := 56) hK qd3_73.2.2.2.2.2.2.2.2.2.2.2.1 rfl rfl (fun hc51 => ?_) (fun hc51 => ?_)
            · have hs24 := iq hc51 hs24
              refine J_aload_n hK qd3_73.2.2.2.2.2.2.2.2.2.2.2.2.2.2.1 rfl 0 rfl rfl ?_
              refine J_dup hK qd3_73.2.2.2.2.2.2.2.2.2.2.2.2.2.2.2.1 rfl rfl ?_
              refine J_get hK fo_RX7_232 qd3_74.1 rfl 0 0 rfl rfl rfl ?_
              refine J_iconst (v := 1) hK qd3_74.2.1 rfl (by decide) ?_
              refine J_iadd hK qd3_74.2.2.1 rfl ?_
              refine J_put (g' := gMd d h0 a0_kept a0_tried a0_chosen r0_rows r0_line r0_good r0_work x0_shelf x0_rowSort x0_rowSize x0_moved x0_shown x0_tape x0_tapeSize x0_refused g101 g103 g104 g105 g107 g109 x0_gone x0_spent g110 g111 g112 g113 g114 g115 (z40 + 1) x0_left x0_far x0_tons x0_way x0_steps x0_met x0_queue x0_totals) (gs' := [gMd d h0 a0_kept a0_tried a0_chosen r0_rows r0_line r0_good r0_work x0_shelf x0_rowSort x0_rowSize x0_moved x0_shown x0_tape x0_tapeSize x0_refused g101 g103 g104 g105 g107 g109 x0_gone x0_spent g110 g111 g112 g113 g114 g115 (z40 + 1) x0_left x0_far x0_tons x0_way x0_steps x0_met x0_queue x0_totals, gridI d r0_line 20 7 g102, gridI d r0_good 8 3 g106, gridI d r0_work 7 5 g108]) hK fp_RX7_232 qd3_74.2.2.2.1 rfl 0 0 rfl rfl rfl rfl (Nat.le_of_ble_eq_true rfl) rfl rfl ?_
              refine J_goto hK qd3_74.2.2.2.2.1 (n := 23) rfl ?_
              exact (ih24 g101 g102 g103 g104 g105 g106 g107 g108 g109 g110 g111 g112 g113 g114 g115 (z40 + 1) (lpc hs24 hr24))
            · have hs24 := ip hc51 hs24
              exact J_loc [] rfl (hx24_54 g101 g102 g103 g104 g105 g106 g107 g108 g109 g110 g111 g112 g113 g114 g115 z40 (lpx hs24 hr24))
          · have hs24 := iq hc35 hs24
            exact (hx24_38 z25 z26 z27 z28 z29 z30 z31 z32 z33 z34 z35 z36 z37 z38 z39 z40 (lpx hs24 hr24))
    exact (lo24 n g8 g9 g10 g11 g12 g13 g14 g15 g16 g17 g18 g19 g20 g21 g22 (1) hl24)
  · have hf := ip hc18 hf
    refine J_iconst (v := 0) hK qd3_72.2.2.2.2.2.2.2.2.2.2.2.1 rfl (by decide) ?_
    obtain rfl := Option.some.inj hf
    exact J_zret hK hR qd3_72.2.2.2.2.2.2.2.2.2.2.2.2.1 () rfl rfl (by decide) (by decide)

def fX7_over_s2 (m0 : Nat) (p0 : (Nat → Int32)) (m1 : Nat) (z2 : Int32) (z3 : (Nat → Int32)) : Option ((Int32 × (Nat → Int32)) ⊕ ((Nat → Int32))) :=
  if (Int32.ofNat m0) ≤ z2 then (some (.inr z3)) else ((rd m0 p0 z2).bind fun v6 => (wr m1 z3 z2 v6).bind fun f7 => some (.inl ((z2 + 1), f7)))
def fX7_over (n : Nat) (m0 : Nat) (p0 : (Nat → Int32)) (m1 : Nat) (p1 : (Nat → Int32)) : Option ((Nat → Int32)) :=
  (lp (u2 (fX7_over_s2 m0 p0 m1)) n (0, p1)).bind (fun w5 => some w5)
set_option maxHeartbeats 4000000 in
set_option maxRecDepth 100000 in
theorem kX7_over (l : Launch) (d : DT) (b0 : Nat) (b1 : Nat) (n : Nat) (m0 : Nat) (p0 : (Nat → Int32)) (m1 : Nat) (p1 : (Nat → Int32))  {out : (Nat → Int32)} (hf : fX7_over n m0 p0 m1 p1 = some out) : Ct l d yX7_over cX7_over 3 none { frames := 0, cells := 0, slots := 0, locals := 0 } [.ref b0, .ref b1] [[cI d b0 m0 p0], [cI d b1 m1 p1]] (fun _ : Unit => (none, [[cI d b0 m0 p0], [cI d b1 m1 out]])) := by
  refine Ct.of (by decide) (Nat.le_of_ble_eq_true rfl) ?_
  intro Φ hl hK hR
  subst hl
  have hK : Ok d Φ RX7 "over" cX7_over 3 none { frames := 0, cells := 0, slots := 0, locals := 0 } := hK
  unfold fX7_over at hf
  show J d Φ 3 [[cI d b0 m0 p0], [cI d b1 m1 p1]] 0 0 0 [(0, .ref b0), (1, .ref b1)] []
  refine J_iconst (v := 0) hK qd4_103.1 rfl (by decide) ?_
  refine J_istore_n (L' := [(2, .int (0)), (0, .ref b0), (1, .ref b1)]) hK qd4_103.2.1 rfl rfl (by decide) rfl ?_
  obtain ⟨e4, hl1, hf⟩ := bs hf
  have hx1_20 : ∀ (w5 : (Nat → Int32)), w5 = e4 → J d Φ 3 [[cI d b0 m0 p0], [cI d b1 m1 w5]] 0 0 20 [] [] := by
    intro w5 he
    rw [← he] at hf
    obtain rfl := Option.some.inj hf
    exact J_vret hK hR qd4_103.2.2.2.2.2.2.2.2.2.2.2.2.2.2.1 () rfl (by decide) (by decide)
  have lo1 : ∀ (k : Nat) (z2 : Int32) (z3 : (Nat → Int32)), lp (u2 (fX7_over_s2 m0 p0 m1)) k (z2, z3) = some e4 → J d Φ 3 [[cI d b0 m0 p0], [cI d b1 m1 z3]] 0 0 2 [(0, .ref b0), (1, .ref b1), (2, .int z2)] [] := by
    intro k
    induction k with
    | zero => intro z2 z3 h; cases h
    | succ k ih1 =>
      intro z2 z3 h
      obtain ⟨k2, rr1, hk2, hs1, hr1⟩ := lp_ok h
      cases hk2
      have hs1 : fX7_over_s2 m0 p0 m1 z2 z3 = some rr1 := hs1
      unfold fX7_over_s2 at hs1
      refine J_iload_n hK qd4_103.2.2.1 rfl 2 rfl rfl ?_
      refine J_aload_n hK qd4_103.2.2.2.1 rfl 0 rfl rfl ?_
      refine J_alen (v := (Int32.ofNat m0)) hK qd4_103.2.2.2.2.1 rfl 0 0 rfl rfl 0 rfl rfl ?_
      refine J_icmp_ge (tg := 20) hK qd4_103.2.2.2.2.2.1 rfl rfl (fun hc5 => ?_) (fun hc5 => ?_)
      · have hs1 := ip hc5 hs1
        exact J_loc [] rfl (hx1_20 z3 (lpx hs1 hr1))
      · have hs1 := iq hc5 hs1
        refine J_aload_n hK qd4_103.2.2.2.2.2.2.1 rfl 1 rfl rfl ?_
        refine J_iload_n hK qd4_103.2.2.2.2.2.2.2.1 rfl 2 rfl rfl ?_
        refine J_aload_n hK qd4_103.2.2.2.2.2.2.2.2.1 rfl 0 rfl rfl ?_
        refine J_iload_n hK qd4_103.2.2.2.2.2.2.2.2.2.1 rfl 2 rfl rfl ?_
        obtain ⟨v6, ev6, hs1⟩ := bs hs1
        refine J_iald hK qd4_103.2.2.2.2.2.2.2.2.2.2.1 rfl 0 0 rfl rfl ev6 ?_
        obtain ⟨f7, ef7, hs1⟩ := bs hs1
        refine J_iast (g' := [cI d b1 m1 f7]) (gs' := [[cI d b0 m0 p0], [cI d b1 m1 f7]]) hK qd4_103.2.2.2.2.2.2.2.2.2.2.2.1 rfl 1 0 rfl rfl ef7 rfl rfl ?_
        refine J_iinc (L' := [(2, .int (z2 + 1)), (0, .ref b0), (1, .ref b1)]) (v := (z2 + 1)) hK qd4_103.2.2.2.2.2.2.2.2.2.2.2.2.1 rfl 2 rfl rfl (by decide) rfl ?_
        refine J_goto hK qd4_103.2.2.2.2.2.2.2.2.2.2.2.2.2.1 (n := 2) rfl ?_
        exact J_loc [1, 2, 0] rfl (ih1 (z2 + 1) f7 (lpc hs1 hr1))
  exact J_loc [1, 2, 0] rfl (lo1 n (0) p1 hl1)

def fX7_overAll_s2 (n : Nat) (m0 : Nat) (w0 : Nat) (p0 : (Nat → Nat → Int32)) (m1 : Nat) (w1 : Nat) (z2 : Int32) (z3 : (Nat → Nat → Int32)) : Option ((Int32 × (Nat → Nat → Int32)) ⊕ ((Nat → Nat → Int32))) :=
  if (Int32.ofNat m0) ≤ z2 then (some (.inr z3)) else ((ck z2 m0).bind fun q6 => (ck z2 m1).bind fun q7 => (fX7_over n w0 (p0 q6) w1 (z3 q7)).bind (fun g8 => some (.inl ((z2 + 1), (va_up z3 q7 g8)))))
def fX7_overAll (n : Nat) (m0 : Nat) (w0 : Nat) (p0 : (Nat → Nat → Int32)) (m1 : Nat) (w1 : Nat) (p1 : (Nat → Nat → Int32)) : Option ((Nat → Nat → Int32)) :=
  (lp (u2 (fX7_overAll_s2 n m0 w0 p0 m1 w1)) n (0, p1)).bind (fun w5 => some w5)
set_option maxHeartbeats 4000000 in
set_option maxRecDepth 100000 in
theorem kX7_overAll (l : Launch) (d : DT) (b0 : Nat) (br0 : Nat → Nat) (b1 : Nat) (br1 : Nat → Nat) (n : Nat) (m0 : Nat) (w0 : Nat) (p0 : (Nat → Nat → Int32)) (m1 : Nat) (w1 : Nat) (p1 : (Nat → Nat → Int32))  {out : (Nat → Nat → Int32)} (hf : fX7_overAll n m0 w0 p0 m1 w1 p1 = some out) : Ct l d yX7_overAll cX7_overAll 3 none { frames := 1, cells := 0, slots := 0, locals := 22 } [.ref b0, .ref b1] [[cR d 2 b0 m0 (rowsF m0 br0)], gridI d br0 m0 w0 p0, [cR d 2 b1 m1 (rowsF m1 br1)], gridI d br1 m1 w1 p1] (fun _ : Unit => (none, [[cR d 2 b0 m0 (rowsF m0 br0)], gridI d br0 m0 w0 p0, [cR d 2 b1 m1 (rowsF m1 br1)], gridI d br1 m1 w1 out])) := by
  refine Ct.of (by decide) (Nat.le_of_ble_eq_true rfl) ?_
  intro Φ hl hK hR
  subst hl
  have hK : Ok d Φ RX7 "overAll" cX7_overAll 3 none { frames := 1, cells := 0, slots := 0, locals := 22 } := hK
  unfold fX7_overAll at hf
  show J d Φ 3 [[cR d 2 b0 m0 (rowsF m0 br0)], gridI d br0 m0 w0 p0, [cR d 2 b1 m1 (rowsF m1 br1)], gridI d br1 m1 w1 p1] 0 0 0 [(0, .ref b0), (1, .ref b1)] []
  refine J_iconst (v := 0) hK qd4_104.1 rfl (by decide) ?_
  refine J_istore_n (L' := [(2, .int (0)), (0, .ref b0), (1, .ref b1)]) hK qd4_104.2.1 rfl rfl (by decide) rfl ?_
  obtain ⟨e4, hl1, hf⟩ := bs hf
  have hx1_23 : ∀ (w5 : (Nat → Nat → Int32)), w5 = e4 → J d Φ 3 [[cR d 2 b0 m0 (rowsF m0 br0)], gridI d br0 m0 w0 p0, [cR d 2 b1 m1 (rowsF m1 br1)], gridI d br1 m1 w1 w5] 0 0 23 [] [] := by
    intro w5 he
    rw [← he] at hf
    obtain rfl := Option.some.inj hf
    exact J_vret hK hR qd4_104.2.2.2.2.2.2.2.2.2.2.2.2.2.2.2.1 () rfl (by decide) (by decide)
  have lo1 : ∀ (k : Nat) (z2 : Int32) (z3 : (Nat → Nat → Int32)), lp (u2 (fX7_overAll_s2 n m0 w0 p0 m1 w1)) k (z2, z3) = some e4 → J d Φ 3 [[cR d 2 b0 m0 (rowsF m0 br0)], gridI d br0 m0 w0 p0, [cR d 2 b1 m1 (rowsF m1 br1)], gridI d br1 m1 w1 z3] 0 0 2 [(0, .ref b0), (1, .ref b1), (2, .int z2)] [] := by
    intro k
    induction k with
    | zero => intro z2 z3 h; cases h
    | succ k ih1 =>
      intro z2 z3 h
      obtain ⟨k2, rr1, hk2, hs1, hr1⟩ := lp_ok h
      cases hk2
      have hs1 : fX7_overAll_s2 n m0 w0 p0 m1 w1 z2 z3 = some rr1 := hs1
      unfold fX7_overAll_s2 at hs1
      refine J_iload_n hK qd4_104.2.2.1 rfl 2 rfl rfl ?_
      refine J_aload_n hK qd4_104.2.2.2.1 rfl 0 rfl rfl ?_
      refine J_alen (v := (Int32.ofNat m0)) hK qd4_104.2.2.2.2.1 rfl 0 0 rfl rfl 2 rfl rfl ?_
      refine J_icmp_ge (tg := 23) hK qd4_104.2.2.2.2.2.1 rfl rfl (fun hc5 => ?_) (fun hc5 => ?_)
      · have hs1 := ip hc5 hs1
        exact J_loc [] rfl (hx1_23 z3 (lpx hs1 hr1))
      · have hs1 := iq hc5 hs1
        refine J_aload_n hK qd4_104.2.2.2.2.2.2.1 rfl 0 rfl rfl ?_
        refine J_iload_n hK qd4_104.2.2.2.2.2.2.2.1 rfl 2 rfl rfl ?_
        obtain ⟨q6, eq6, hs1⟩ := bs hs1
        refine J_aald hK qd4_104.2.2.2.2.2.2.2.2.1 rfl 0 0 rfl rfl rfl eq6 ?_
        refine J_aload_n hK qd4_104.2.2.2.2.2.2.2.2.2.1 rfl 1 rfl rfl ?_
        refine J_iload_n hK qd4_104.2.2.2.2.2.2.2.2.2.2.1 rfl 2 rfl rfl ?_
        obtain ⟨q7, eq7, hs1⟩ := bs hs1
        refine J_aald hK qd4_104.2.2.2.2.2.2.2.2.2.2.2.1 rfl 2 0 rfl rfl rfl eq7 ?_
        refine J_split (gs2 := [[cR d 2 b0 m0 (rowsF m0 br0)], [cI d (br0 q6) w0 (p0 q6)], gridIx d br0 m0 w0 p0 q6, [cR d 2 b1 m1 (rowsF m1 br1)], gridI d br1 m1 w1 z3]) 1 rfl (gridI_sp (ck_ok eq6).2.2) rfl ?_
        refine J_split (gs2 := [[cR d 2 b0 m0 (rowsF m0 br0)], [cI d (br0 q6) w0 (p0 q6)], gridIx d br0 m0 w0 p0 q6, [cR d 2 b1 m1 (rowsF m1 br1)], [cI d (br1 q7) w1 (z3 q7)], gridIx d br1 m1 w1 z3 q7]) 4 rfl (gridI_sp (ck_ok eq7).2.2) rfl ?_
        obtain ⟨g8, e9, hs1⟩ := bs hs1
        refine J_callS (m := 6) (m' := 6) (ce' := 0) (sl' := 0) (gr := [[cR d 2 b0 m0 (rowsF m0 br0)], gridIx d br0 m0 w0 p0 q6, [cR d 2 b1 m1 (rowsF m1 br1)], gridIx d br1 m1 w1 z3 q7]) (gs' := fun _ => [[cR d 2 b0 m0 (rowsF m0 br0)], [cI d (br0 q6) w0 (p0 q6)], gridIx d br0 m0 w0 p0 q6, [cR d 2 b1 m1 (rowsF m1 br1)], [cI d (br1 q7) w1 g8], gridIx d br1 m1 w1 z3 q7]) (st' := fun _ => []) (st := []) hK qd4_104.2.2.2.2.2.2.2.2.2.2.2.2.1 cv_RX7_345 ws_yX7_over (As := [.ref (br0 q6), .ref (br1 q7)]) (kX7_over _ d (br0 q6) (br1 q7) n w0 (p0 q6) w1 (z3 q7) e9) rfl rfl (Nat.le_of_ble_eq_true rfl) (by decide) [1, 4] [0, 2, 3, 5] rfl (by decide +kernel) rfl rfl [0, 4, 1, 2, 5, 3] (by decide +kernel) (fun _ => rfl) (fun _ => rfl) rfl rfl rfl (fun _ => rfl) (fun _ => ?_)
        refine J_merge (gs2 := [[cR d 2 b0 m0 (rowsF m0 br0)], gridI d br0 m0 w0 p0, [cR d 2 b1 m1 (rowsF m1 br1)], [cI d (br1 q7) w1 g8], gridIx d br1 m1 w1 z3 q7]) 1 rfl rfl (gridI_sp (ck_ok eq6).2.2).symm rfl ?_
        refine J_merge (gs2 := [[cR d 2 b0 m0 (rowsF m0 br0)], gridI d br0 m0 w0 p0, [cR d 2 b1 m1 (rowsF m1 br1)], gridI d br1 m1 w1 (va_up z3 q7 g8)]) 3 rfl rfl (gridI_mg (ck_ok eq7).2.2) rfl ?_
        refine J_iinc (L' := [(2, .int (z2 + 1)), (0, .ref b0), (1, .ref b1)]) (v := (z2 + 1)) hK qd4_104.2.2.2.2.2.2.2.2.2.2.2.2.2.1 rfl 2 rfl rfl (by decide) rfl ?_
        refine J_goto hK qd4_104.2.2.2.2.2.2.2.2.2.2.2.2.2.2.1 (n := 2) rfl ?_
        exact J_loc [1, 2, 0] rfl (ih1 (z2 + 1) (va_up z3 q7 g8) (lpc hs1 hr1))
  exact J_loc [1, 2, 0] rfl (lo1 n (0) p1 hl1)

def fX7_takeFrom (n : Nat) (X0 : MdT) (X1 : MdT) : Option ((Int32 × (Nat → Nat → Int32) × (Nat → Int32) × (Nat → Int32) × Int32 × (Nat → Nat → Int32) × Int32 × (Nat → Nat → Int32) × Int32 × Int32 × Int32)) :=
  u35 (fun (x0_shelf : (Nat → Int32)) (x0_rowSort : (Nat → Int32)) (x0_rowSize : (Nat → Int32)) (x0_rows : (Nat → Nat → Int64)) (x0_moved : (Nat → Int64)) (x0_shown : (Nat → Int32)) (x0_tape : (Nat → Int32)) (x0_tapeSize : Int32) (x0_refused : (Nat → Int32)) (x0_lines : Int32) (x0_line : (Nat → Nat → Int32)) (x0_changes : (Nat → Int32)) (x0_coins : (Nat → Int32)) (x0_goods : Int32) (x0_good : (Nat → Nat → Int32)) (x0_works : Int32) (x0_work : (Nat → Nat → Int32)) (x0_years : Int32) (x0_gone : Int32) (x0_spent : Int32) (x0_at : Int32) (x0_token : Int32) (x0_from : Int32) (x0_figures : Int64) (x0_fault : Int32) (x0_numbers : (Nat → Int32)) (x0_statements : Int32) (x0_left : (Nat → Int32)) (x0_far : (Nat → Int32)) (x0_tons : Int32) (x0_way : (Nat → Int32)) (x0_steps : Int32) (x0_met : Int64) (x0_queue : (Nat → Int32)) (x0_totals : (Nat → Int32)) => u35 (fun (x1_shelf : (Nat → Int32)) (x1_rowSort : (Nat → Int32)) (x1_rowSize : (Nat → Int32)) (x1_rows : (Nat → Nat → Int64)) (x1_moved : (Nat → Int64)) (x1_shown : (Nat → Int32)) (x1_tape : (Nat → Int32)) (x1_tapeSize : Int32) (x1_refused : (Nat → Int32)) (x1_lines : Int32) (x1_line : (Nat → Nat → Int32)) (x1_changes : (Nat → Int32)) (x1_coins : (Nat → Int32)) (x1_goods : Int32) (x1_good : (Nat → Nat → Int32)) (x1_works : Int32) (x1_work : (Nat → Nat → Int32)) (x1_years : Int32) (x1_gone : Int32) (x1_spent : Int32) (x1_at : Int32) (x1_token : Int32) (x1_from : Int32) (x1_figures : Int64) (x1_fault : Int32) (x1_numbers : (Nat → Int32)) (x1_statements : Int32) (x1_left : (Nat → Int32)) (x1_far : (Nat → Int32)) (x1_tons : Int32) (x1_way : (Nat → Int32)) (x1_steps : Int32) (x1_met : Int64) (x1_queue : (Nat → Int32)) (x1_totals : (Nat → Int32)) => (fX7_overAll n 20 7 x1_line 20 7 x0_line).bind (fun g1 => (fX7_over n 12 x1_changes 12 x0_changes).bind (fun g3 => (fX7_over n 3 x1_coins 3 x0_coins).bind (fun g5 => (fX7_overAll n 8 3 x1_good 8 3 x0_good).bind (fun g7 => (fX7_overAll n 7 5 x1_work 7 5 x0_work).bind (fun g9 => some (x1_lines, g1, g3, g5, x1_goods, g7, x1_works, g9, x1_years, x1_gone, x1_spent))))))) X1) X0
set_option maxHeartbeats 4000000 in
set_option maxRecDepth 100000 in
theorem kX7_takeFrom (l : Launch) (d : DT) (h0 : Nat → Nat) (r0_rows : Nat → Nat) (r0_line : Nat → Nat) (r0_good : Nat → Nat) (r0_work : Nat → Nat) (a0_kept : Option Nat) (a0_tried : Option Nat) (a0_chosen : Option Nat) (h1 : Nat → Nat) (r1_rows : Nat → Nat) (r1_line : Nat → Nat) (r1_good : Nat → Nat) (r1_work : Nat → Nat) (a1_kept : Option Nat) (a1_tried : Option Nat) (a1_chosen : Option Nat) (n : Nat) (x0_shelf : (Nat → Int32)) (x0_rowSort : (Nat → Int32)) (x0_rowSize : (Nat → Int32)) (x0_rows : (Nat → Nat → Int64)) (x0_moved : (Nat → Int64)) (x0_shown : (Nat → Int32)) (x0_tape : (Nat → Int32)) (x0_tapeSize : Int32) (x0_refused : (Nat → Int32)) (x0_lines : Int32) (x0_line : (Nat → Nat → Int32)) (x0_changes : (Nat → Int32)) (x0_coins : (Nat → Int32)) (x0_goods : Int32) (x0_good : (Nat → Nat → Int32)) (x0_works : Int32) (x0_work : (Nat → Nat → Int32)) (x0_years : Int32) (x0_gone : Int32) (x0_spent : Int32) (x0_at : Int32) (x0_token : Int32) (x0_from : Int32) (x0_figures : Int64) (x0_fault : Int32) (x0_numbers : (Nat → Int32)) (x0_statements : Int32) (x0_left : (Nat → Int32)) (x0_far : (Nat → Int32)) (x0_tons : Int32) (x0_way : (Nat → Int32)) (x0_steps : Int32) (x0_met : Int64) (x0_queue : (Nat → Int32)) (x0_totals : (Nat → Int32)) (x1_shelf : (Nat → Int32)) (x1_rowSort : (Nat → Int32)) (x1_rowSize : (Nat → Int32)) (x1_rows : (Nat → Nat → Int64)) (x1_moved : (Nat → Int64)) (x1_shown : (Nat → Int32)) (x1_tape : (Nat → Int32)) (x1_tapeSize : Int32) (x1_refused : (Nat → Int32)) (x1_lines : Int32) (x1_line : (Nat → Nat → Int32)) (x1_changes : (Nat → Int32)) (x1_coins : (Nat → Int32)) (x1_goods : Int32) (x1_good : (Nat → Nat → Int32)) (x1_works : Int32) (x1_work : (Nat → Nat → Int32)) (x1_years : Int32) (x1_gone : Int32) (x1_spent : Int32) (x1_at : Int32) (x1_token : Int32) (x1_from : Int32) (x1_figures : Int64) (x1_fault : Int32) (x1_numbers : (Nat → Int32)) (x1_statements : Int32) (x1_left : (Nat → Int32)) (x1_far : (Nat → Int32)) (x1_tons : Int32) (x1_way : (Nat → Int32)) (x1_steps : Int32) (x1_met : Int64) (x1_queue : (Nat → Int32)) (x1_totals : (Nat → Int32))  {out : (Int32 × (Nat → Nat → Int32) × (Nat → Int32) × (Nat → Int32) × Int32 × (Nat → Nat → Int32) × Int32 × (Nat → Nat → Int32) × Int32 × Int32 × Int32)} (hf : fX7_takeFrom n (x0_shelf, x0_rowSort, x0_rowSize, x0_rows, x0_moved, x0_shown, x0_tape, x0_tapeSize, x0_refused, x0_lines, x0_line, x0_changes, x0_coins, x0_goods, x0_good, x0_works, x0_work, x0_years, x0_gone, x0_spent, x0_at, x0_token, x0_from, x0_figures, x0_fault, x0_numbers, x0_statements, x0_left, x0_far, x0_tons, x0_way, x0_steps, x0_met, x0_queue, x0_totals) (x1_shelf, x1_rowSort, x1_rowSize, x1_rows, x1_moved, x1_shown, x1_tape, x1_tapeSize, x1_refused, x1_lines, x1_line, x1_changes, x1_coins, x1_goods, x1_good, x1_works, x1_work, x1_years, x1_gone, x1_spent, x1_at, x1_token, x1_from, x1_figures, x1_fault, x1_numbers, x1_statements, x1_left, x1_far, x1_tons, x1_way, x1_steps, x1_met, x1_queue, x1_totals) = some out) : Ct l d yX7_takeFrom cX7_takeFrom 2 none { frames := 2, cells := 0, slots := 0, locals := 44 } [.ref (h0 0), .ref (h1 0)] [gMd d h0 a0_kept a0_tried a0_chosen r0_rows r0_line r0_good r0_work x0_shelf x0_rowSort x0_rowSize x0_moved x0_shown x0_tape x0_tapeSize x0_refused x0_lines x0_changes x0_coins x0_goods x0_works x0_years x0_gone x0_spent x0_at x0_token x0_from x0_figures x0_fault x0_numbers x0_statements x0_left x0_far x0_tons x0_way x0_steps x0_met x0_queue x0_totals, gridI d r0_line 20 7 x0_line, gridI d r0_good 8 3 x0_good, gridI d r0_work 7 5 x0_work, gMd d h1 a1_kept a1_tried a1_chosen r1_rows r1_line r1_good r1_work x1_shelf x1_rowSort x1_rowSize x1_moved x1_shown x1_tape x1_tapeSize x1_refused x1_lines x1_changes x1_coins x1_goods x1_works x1_years x1_gone x1_spent x1_at x1_token x1_from x1_figures x1_fault x1_numbers x1_statements x1_left x1_far x1_tons x1_way x1_steps x1_met x1_queue x1_totals, gridI d r1_line 20 7 x1_line, gridI d r1_good 8 3 x1_good, gridI d r1_work 7 5 x1_work] (fun _ : Unit => (none, [gMd d h0 a0_kept a0_tried a0_chosen r0_rows r0_line r0_good r0_work x0_shelf x0_rowSort x0_rowSize x0_moved x0_shown x0_tape x0_tapeSize x0_refused (out.1) (out.2.2.1) (out.2.2.2.1) (out.2.2.2.2.1) (out.2.2.2.2.2.2.1) (out.2.2.2.2.2.2.2.2.1) (out.2.2.2.2.2.2.2.2.2.1) (out.2.2.2.2.2.2.2.2.2.2) x0_at x0_token x0_from x0_figures x0_fault x0_numbers x0_statements x0_left x0_far x0_tons x0_way x0_steps x0_met x0_queue x0_totals, gridI d r0_line 20 7 (out.2.1), gridI d r0_good 8 3 (out.2.2.2.2.2.1), gridI d r0_work 7 5 (out.2.2.2.2.2.2.2.1), gMd d h1 a1_kept a1_tried a1_chosen r1_rows r1_line r1_good r1_work x1_shelf x1_rowSort x1_rowSize x1_moved x1_shown x1_tape x1_tapeSize x1_refused x1_lines x1_changes x1_coins x1_goods x1_works x1_years x1_gone x1_spent x1_at x1_token x1_from x1_figures x1_fault x1_numbers x1_statements x1_left x1_far x1_tons x1_way x1_steps x1_met x1_queue x1_totals, gridI d r1_line 20 7 x1_line, gridI d r1_good 8 3 x1_good, gridI d r1_work 7 5 x1_work])) := by
  refine Ct.of (by decide) (Nat.le_of_ble_eq_true rfl) ?_
  intro Φ hl hK hR
  subst hl
  have hK : Ok d Φ RX7 "takeFrom" cX7_takeFrom 2 none { frames := 2, cells := 0, slots := 0, locals := 44 } := hK
  unfold fX7_takeFrom at hf
  have hf := un35 hf
  have hf := un35 hf
  show J d Φ 2 [gMd d h0 a0_kept a0_tried a0_chosen r0_rows r0_line r0_good r0_work x0_shelf x0_rowSort x0_rowSize x0_moved x0_shown x0_tape x0_tapeSize x0_refused x0_lines x0_changes x0_coins x0_goods x0_works x0_years x0_gone x0_spent x0_at x0_token x0_from x0_figures x0_fault x0_numbers x0_statements x0_left x0_far x0_tons x0_way x0_steps x0_met x0_queue x0_totals, gridI d r0_line 20 7 x0_line, gridI d r0_good 8 3 x0_good, gridI d r0_work 7 5 x0_work, gMd d h1 a1_kept a1_tried a1_chosen r1_rows r1_line r1_good r1_work x1_shelf x1_rowSort x1_rowSize x1_moved x1_shown x1_tape x1_tapeSize x1_refused x1_lines x1_changes x1_coins x1_goods x1_works x1_years x1_gone x1_spent x1_at x1_token x1_from x1_figures x1_fault x1_numbers x1_statements x1_left x1_far x1_tons x1_way x1_steps x1_met x1_queue x1_totals, gridI d r1_line 20 7 x1_line, gridI d r1_good 8 3 x1_good, gridI d r1_work 7 5 x1_work] 0 0 0 [(0, .ref (h0 0)), (1, .ref (h1 0))] []
  refine J_aload_n hK qd4_105.1 rfl 0 rfl rfl ?_
  refine J_aload_n hK qd4_105.2.1 rfl 1 rfl rfl ?_
  refine J_get hK fo_RX7_82 qd4_105.2.2.1 rfl 4 0 rfl rfl rfl ?_
  refine J_put (g' := gMd d h0 a0_kept a0_tried a0_chosen r0_rows r0_line r0_good r0_work x0_shelf x0_rowSort x0_rowSize x0_moved x0_shown x0_tape x0_tapeSize x0_refused x1_lines x0_changes x0_coins x0_goods x0_works x0_years x0_gone x0_spent x0_at x0_token x0_from x0_figures x0_fault x0_numbers x0_statements x0_left x0_far x0_tons x0_way x0_steps x0_met x0_queue x0_totals) (gs' := [gMd d h0 a0_kept a0_tried a0_chosen r0_rows r0_line r0_good r0_work x0_shelf x0_rowSort x0_rowSize x0_moved x0_shown x0_tape x0_tapeSize x0_refused x1_lines x0_changes x0_coins x0_goods x0_works x0_years x0_gone x0_spent x0_at x0_token x0_from x0_figures x0_fault x0_numbers x0_statements x0_left x0_far x0_tons x0_way x0_steps x0_met x0_queue x0_totals, gridI d r0_line 20 7 x0_line, gridI d r0_good 8 3 x0_good, gridI d r0_work 7 5 x0_work, gMd d h1 a1_kept a1_tried a1_chosen r1_rows r1_line r1_good r1_work x1_shelf x1_rowSort x1_rowSize x1_moved x1_shown x1_tape x1_tapeSize x1_refused x1_lines x1_changes x1_coins x1_goods x1_works x1_years x1_gone x1_spent x1_at x1_token x1_from x1_figures x1_fault x1_numbers x1_statements x1_left x1_far x1_tons x1_way x1_steps x1_met x1_queue x1_totals, gridI d r1_line 20 7 x1_line, gridI d r1_good 8 3 x1_good, gridI d r1_work 7 5 x1_work]) hK fp_RX7_82 qd4_105.2.2.2.1 rfl 0 0 rfl rfl rfl rfl (Nat.le_of_ble_eq_true rfl) rfl rfl ?_
  refine J_aload_n hK qd4_105.2.2.2.2.1 rfl 1 rfl rfl ?_
  refine J_get hK fo_RX7_39 qd4_105.2.2.2.2.2.1 rfl 4 0 rfl rfl rfl ?_
  refine J_aload_n hK qd4_105.2.2.2.2.2.2.1 rfl 0 rfl rfl ?_
  refine J_get hK fo_RX7_39 qd4_105.2.2.2.2.2.2.2.1 rfl 0 0 rfl rfl rfl ?_
  refine J_fl (gs2 := [gMd d h0 a0_kept a0_tried a0_chosen r0_rows r0_line r0_good r0_work x0_shelf x0_rowSort x0_rowSize x0_moved x0_shown x0_tape x0_tapeSize x0_refused x1_lines x0_changes x0_coins x0_goods x0_works x0_years x0_gone x0_spent x0_at x0_token x0_from x0_figures x0_fault x0_numbers x0_statements x0_left x0_far x0_tons x0_way x0_steps x0_met x0_queue x0_totals, gridI d r0_line 20 7 x0_line, gridI d r0_good 8 3 x0_good, gridI d r0_work 7 5 x0_work, (gMd d h1 a1_kept a1_tried a1_chosen r1_rows r1_line r1_good r1_work x1_shelf x1_rowSort x1_rowSize x1_moved x1_shown x1_tape x1_tapeSize x1_refused x1_lines x1_changes x1_coins x1_goods x1_works x1_years x1_gone x1_spent x1_at x1_token x1_from x1_figures x1_fault x1_numbers x1_statements x1_left x1_far x1_tons x1_way x1_steps x1_met x1_queue x1_totals).take 9, [cR d 2 (h1 9) 20 (rowsF 20 r1_line)], (gMd d h1 a1_kept a1_tried a1_chosen r1_rows r1_line r1_good r1_work x1_shelf x1_rowSort x1_rowSize x1_moved x1_shown x1_tape x1_tapeSize x1_refused x1_lines x1_changes x1_coins x1_goods x1_works x1_years x1_gone x1_spent x1_at x1_token x1_from x1_figures x1_fault x1_numbers x1_statements x1_left x1_far x1_tons x1_way x1_steps x1_met x1_queue x1_totals).drop 10, gridI d r1_line 20 7 x1_line, gridI d r1_good 8 3 x1_good, gridI d r1_work 7 5 x1_work]) rfl ?_
  refine J_fl (gs2 := [(gMd d h0 a0_kept a0_tried a0_chosen r0_rows r0_line r0_good r0_work x0_shelf x0_rowSort x0_rowSize x0_moved x0_shown x0_tape x0_tapeSize x0_refused x1_lines x0_changes x0_coins x0_goods x0_works x0_years x0_gone x0_spent x0_at x0_token x0_from x0_figures x0_fault x0_numbers x0_statements x0_left x0_far x0_tons x0_way x0_steps x0_met x0_queue x0_totals).take 9, [cR d 2 (h0 9) 20 (rowsF 20 r0_line)], (gMd d h0 a0_kept a0_tried a0_chosen r0_rows r0_line r0_good r0_work x0_shelf x0_rowSort x0_rowSize x0_moved x0_shown x0_tape x0_tapeSize x0_refused x1_lines x0_changes x0_coins x0_goods x0_works x0_years x0_gone x0_spent x0_at x0_token x0_from x0_figures x0_fault x0_numbers x0_statements x0_left x0_far x0_tons x0_way x0_steps x0_met x0_queue x0_totals).drop 10, gridI d r0_line 20 7 x0_line, gridI d r0_good 8 3 x0_good, gridI d r0_work 7 5 x0_work, (gMd d h1 a1_kept a1_tried a1_chosen r1_rows r1_line r1_good r1_work x1_shelf x1_rowSort x1_rowSize x1_moved x1_shown x1_tape x1_tapeSize x1_refused x1_lines x1_changes x1_coins x1_goods x1_works x1_years x1_gone x1_spent x1_at x1_token x1_from x1_figures x1_fault x1_numbers x1_statements x1_left x1_far x1_tons x1_way x1_steps x1_met x1_queue x1_totals).take 9, [cR d 2 (h1 9) 20 (rowsF 20 r1_line)], (gMd d h1 a1_kept a1_tried a1_chosen r1_rows r1_line r1_good r1_work x1_shelf x1_rowSort x1_rowSize x1_moved x1_shown x1_tape x1_tapeSize x1_refused x1_lines x1_changes x1_coins x1_goods x1_works x1_years x1_gone x1_spent x1_at x1_token x1_from x1_figures x1_fault x1_numbers x1_statements x1_left x1_far x1_tons x1_way x1_steps x1_met x1_queue x1_totals).drop 10, gridI d r1_line 20 7 x1_line, gridI d r1_good 8 3 x1_good, gridI d r1_work 7 5 x1_work]) rfl ?_
  obtain ⟨g1, e2, hf⟩ := bs hf
  refine J_callS (m := 12) (m' := 12) (ce' := 0) (sl' := 0) (gr := [(gMd d h0 a0_kept a0_tried a0_chosen r0_rows r0_line r0_good r0_work x0_shelf x0_rowSort x0_rowSize x0_moved x0_shown x0_tape x0_tapeSize x0_refused x1_lines x0_changes x0_coins x0_goods x0_works x0_years x0_gone x0_spent x0_at x0_token x0_from x0_figures x0_fault x0_numbers x0_statements x0_left x0_far x0_tons x0_way x0_steps x0_met x0_queue x0_totals).take 9, (gMd d h0 a0_kept a0_tried a0_chosen r0_rows r0_line r0_good r0_work x0_shelf x0_rowSort x0_rowSize x0_moved x0_shown x0_tape x0_tapeSize x0_refused x1_lines x0_changes x0_coins x0_goods x0_works x0_years x0_gone x0_spent x0_at x0_token x0_from x0_figures x0_fault x0_numbers x0_statements x0_left x0_far x0_tons x0_way x0_steps x0_met x0_queue x0_totals).drop 10, gridI d r0_good 8 3 x0_good, gridI d r0_work 7 5 x0_work, (gMd d h1 a1_kept a1_tried a1_chosen r1_rows r1_line r1_good r1_work x1_shelf x1_rowSort x1_rowSize x1_moved x1_shown x1_tape x1_tapeSize x1_refused x1_lines x1_changes x1_coins x1_goods x1_works x1_years x1_gone x1_spent x1_at x1_token x1_from x1_figures x1_fault x1_numbers x1_statements x1_left x1_far x1_tons x1_way x1_steps x1_met x1_queue x1_totals).take 9, (gMd d h1 a1_kept a1_tried a1_chosen r1_rows r1_line r1_good r1_work x1_shelf x1_rowSort x1_rowSize x1_moved x1_shown x1_tape x1_tapeSize x1_refused x1_lines x1_changes x1_coins x1_goods x1_works x1_years x1_gone x1_spent x1_at x1_token x1_from x1_figures x1_fault x1_numbers x1_statements x1_left x1_far x1_tons x1_way x1_steps x1_met x1_queue x1_totals).drop 10, gridI d r1_good 8 3 x1_good, gridI d r1_work 7 5 x1_work]) (gs' := fun _ => [(gMd d h0 a0_kept a0_tried a0_chosen r0_rows r0_line r0_good r0_work x0_shelf x0_rowSort x0_rowSize x0_moved x0_shown x0_tape x0_tapeSize x0_refused x1_lines x0_changes x0_coins x0_goods x0_works x0_years x0_gone x0_spent x0_at x0_token x0_from x0_figures x0_fault x0_numbers x0_statements x0_left x0_far x0_tons x0_way x0_steps x0_met x0_queue x0_totals).take 9, [cR d 2 (h0 9) 20 (rowsF 20 r0_line)], (gMd d h0 a0_kept a0_tried a0_chosen r0_rows r0_line r0_good r0_work x0_shelf x0_rowSort x0_rowSize x0_moved x0_shown x0_tape x0_tapeSize x0_refused x1_lines x0_changes x0_coins x0_goods x0_works x0_years x0_gone x0_spent x0_at x0_token x0_from x0_figures x0_fault x0_numbers x0_statements x0_left x0_far x0_tons x0_way x0_steps x0_met x0_queue x0_totals).drop 10, gridI d r0_line 20 7 g1, gridI d r0_good 8 3 x0_good, gridI d r0_work 7 5 x0_work, (gMd d h1 a1_kept a1_tried a1_chosen r1_rows r1_line r1_good r1_work x1_shelf x1_rowSort x1_rowSize x1_moved x1_shown x1_tape x1_tapeSize x1_refused x1_lines x1_changes x1_coins x1_goods x1_works x1_years x1_gone x1_spent x1_at x1_token x1_from x1_figures x1_fault x1_numbers x1_statements x1_left x1_far x1_tons x1_way x1_steps x1_met x1_queue x1_totals).take 9, [cR d 2 (h1 9) 20 (rowsF 20 r1_line)], (gMd d h1 a1_kept a1_tried a1_chosen r1_rows r1_line r1_good r1_work x1_shelf x1_rowSort x1_rowSize x1_moved x1_shown x1_tape x1_tapeSize x1_refused x1_lines x1_changes x1_coins x1_goods x1_works x1_years x1_gone x1_spent x1_at x1_token x1_from x1_figures x1_fault x1_numbers x1_statements x1_left x1_far x1_tons x1_way x1_steps x1_met x1_queue x1_totals).drop 10, gridI d r1_line 20 7 x1_line, gridI d r1_good 8 3 x1_good, gridI d r1_work 7 5 x1_work]) (st' := fun _ => []) (st := []) hK qd4_105.2.2.2.2.2.2.2.2.1 cv_RX7_349 ws_yX7_overAll (As := [.ref (h1 9), .ref (h0 9)]) (kX7_overAll _ d (h1 9) r1_line (h0 9) r0_line n 20 7 x1_line 20 7 x0_line e2) rfl rfl (Nat.le_of_ble_eq_true rfl) (by decide) [7, 9, 1, 3] [0, 2, 4, 5, 6, 8, 10, 11] rfl (by decide +kernel) rfl rfl [0, 10, 1, 11, 2, 3, 4, 8, 5, 9, 6, 7] (by decide +kernel) (fun _ => rfl) (fun _ => rfl) rfl rfl rfl (fun _ => rfl) (fun _ => ?_)
  refine J_fl (gs2 := [gMd d h0 a0_kept a0_tried a0_chosen r0_rows r0_line r0_good r0_work x0_shelf x0_rowSort x0_rowSize x0_moved x0_shown x0_tape x0_tapeSize x0_refused x1_lines x0_changes x0_coins x0_goods x0_works x0_years x0_gone x0_spent x0_at x0_token x0_from x0_figures x0_fault x0_numbers x0_statements x0_left x0_far x0_tons x0_way x0_steps x0_met x0_queue x0_totals, gridI d r0_line 20 7 g1, gridI d r0_good 8 3 x0_good, gridI d r0_work 7 5 x0_work, gMd d h1 a1_kept a1_tried a1_chosen r1_rows r1_line r1_good r1_work x1_shelf x1_rowSort x1_rowSize x1_moved x1_shown x1_tape x1_tapeSize x1_refused x1_lines x1_changes x1_coins x1_goods x1_works x1_years x1_gone x1_spent x1_at x1_token x1_from x1_figures x1_fault x1_numbers x1_statements x1_left x1_far x1_tons x1_way x1_steps x1_met x1_queue x1_totals, gridI d r1_line 20 7 x1_line, gridI d r1_good 8 3 x1_good, gridI d r1_work 7 5 x1_work]) rfl ?_
  refine J_aload_n hK qd4_105.2.2.2.2.2.2.2.2.2.1 rfl 1 rfl rfl ?_
  refine J_get hK fo_RX7_42 qd4_105.2.2.2.2.2.2.2.2.2.2.1 rfl 4 0 rfl rfl rfl ?_
  refine J_aload_n hK qd4_105.2.2.2.2.2.2.2.2.2.2.2.1 rfl 0 rfl rfl ?_
  refine J_get hK fo_RX7_42 qd4_105.2.2.2.2.2.2.2.2.2.2.2.2.1 rfl 0 0 rfl rfl rfl ?_
  refine J_fl (gs2 := [gMd d h0 a0_kept a0_tried a0_chosen r0_rows r0_line r0_good r0_work x0_shelf x0_rowSort x0_rowSize x0_moved x0_shown x0_tape x0_tapeSize x0_refused x1_lines x0_changes x0_coins x0_goods x0_works x0_years x0_gone x0_spent x0_at x0_token x0_from x0_figures x0_fault x0_numbers x0_statements x0_left x0_far x0_tons x0_way x0_steps x0_met x0_queue x0_totals, gridI d r0_line 20 7 g1, gridI d r0_good 8 3 x0_good, gridI d r0_work 7 5 x0_work, (gMd d h1 a1_kept a1_tried a1_chosen r1_rows r1_line r1_good r1_work x1_shelf x1_rowSort x1_rowSize x1_moved x1_shown x1_tape x1_tapeSize x1_refused x1_lines x1_changes x1_coins x1_goods x1_works x1_years x1_gone x1_spent x1_at x1_token x1_from x1_figures x1_fault x1_numbers x1_statements x1_left x1_far x1_tons x1_way x1_steps x1_met x1_queue x1_totals).take 10, [cI d (h1 10) 12 x1_changes], (gMd d h1 a1_kept a1_tried a1_chosen r1_rows r1_line r1_good r1_work x1_shelf x1_rowSort x1_rowSize x1_moved x1_shown x1_tape x1_tapeSize x1_refused x1_lines x1_changes x1_coins x1_goods x1_works x1_years x1_gone x1_spent x1_at x1_token x1_from x1_figures x1_fault x1_numbers x1_statements x1_left x1_far x1_tons x1_way x1_steps x1_met x1_queue x1_totals).drop 11, gridI d r1_line 20 7 x1_line, gridI d r1_good 8 3 x1_good, gridI d r1_work 7 5 x1_work]) rfl ?_
  refine J_fl (gs2 := [(gMd d h0 a0_kept a0_tried a0_chosen r0_rows r0_line r0_good r0_work x0_shelf x0_rowSort x0_rowSize x0_moved x0_shown x0_tape x0_tapeSize x0_refused x1_lines x0_changes x0_coins x0_goods x0_works x0_years x0_gone x0_spent x0_at x0_token x0_from x0_figures x0_fault x0_numbers x0_statements x0_left x0_far x0_tons x0_way x0_steps x0_met x0_queue x0_totals).take 10, [cI d (h0 10) 12 x0_changes], (gMd d h0 a0_kept a0_tried a0_chosen r0_rows r0_line r0_good r0_work x0_shelf x0_rowSort x0_rowSize x0_moved x0_shown x0_tape x0_tapeSize x0_refused x1_lines x0_changes x0_coins x0_goods x0_works x0_years x0_gone x0_spent x0_at x0_token x0_from x0_figures x0_fault x0_numbers x0_statements x0_left x0_far x0_tons x0_way x0_steps x0_met x0_queue x0_totals).drop 11, gridI d r0_line 20 7 g1, gridI d r0_good 8 3 x0_good, gridI d r0_work 7 5 x0_work, (gMd d h1 a1_kept a1_tried a1_chosen r1_rows r1_line r1_good r1_work x1_shelf x1_rowSort x1_rowSize x1_moved x1_shown x1_tape x1_tapeSize x1_refused x1_lines x1_changes x1_coins x1_goods x1_works x1_years x1_gone x1_spent x1_at x1_token x1_from x1_figures x1_fault x1_numbers x1_statements x1_left x1_far x1_tons x1_way x1_steps x1_met x1_queue x1_totals).take 10, [cI d (h1 10) 12 x1_changes], (gMd d h1 a1_kept a1_tried a1_chosen r1_rows r1_line r1_good r1_work x1_shelf x1_rowSort x1_rowSize x1_moved x1_shown x1_tape x1_tapeSize x1_refused x1_lines x1_changes x1_coins x1_goods x1_works x1_years x1_gone x1_spent x1_at x1_token x1_from x1_figures x1_fault x1_numbers x1_statements x1_left x1_far x1_tons x1_way x1_steps x1_met x1_queue x1_totals).drop 11, gridI d r1_line 20 7 x1_line, gridI d r1_good 8 3 x1_good, gridI d r1_work 7 5 x1_work]) rfl ?_
  obtain ⟨g3, e4, hf⟩ := bs hf
  refine J_callS (m := 12) (m' := 12) (ce' := 0) (sl' := 0) (gr := [(gMd d h0 a0_kept a0_tried a0_chosen r0_rows r0_line r0_good r0_work x0_shelf x0_rowSort x0_rowSize x0_moved x0_shown x0_tape x0_tapeSize x0_refused x1_lines x0_changes x0_coins x0_goods x0_works x0_years x0_gone x0_spent x0_at x0_token x0_from x0_figures x0_fault x0_numbers x0_statements x0_left x0_far x0_tons x0_way x0_steps x0_met x0_queue x0_totals).take 10, (gMd d h0 a0_kept a0_tried a0_chosen r0_rows r0_line r0_good r0_work x0_shelf x0_rowSort x0_rowSize x0_moved x0_shown x0_tape x0_tapeSize x0_refused x1_lines x0_changes x0_coins x0_goods x0_works x0_years x0_gone x0_spent x0_at x0_token x0_from x0_figures x0_fault x0_numbers x0_statements x0_left x0_far x0_tons x0_way x0_steps x0_met x0_queue x0_totals).drop 11, gridI d r0_line 20 7 g1, gridI d r0_good 8 3 x0_good, gridI d r0_work 7 5 x0_work, (gMd d h1 a1_kept a1_tried a1_chosen r1_rows r1_line r1_good r1_work x1_shelf x1_rowSort x1_rowSize x1_moved x1_shown x1_tape x1_tapeSize x1_refused x1_lines x1_changes x1_coins x1_goods x1_works x1_years x1_gone x1_spent x1_at x1_token x1_from x1_figures x1_fault x1_numbers x1_statements x1_left x1_far x1_tons x1_way x1_steps x1_met x1_queue x1_totals).take 10, (gMd d h1 a1_kept a1_tried a1_chosen r1_rows r1_line r1_good r1_work x1_shelf x1_rowSort x1_rowSize x1_moved x1_shown x1_tape x1_tapeSize x1_refused x1_lines x1_changes x1_coins x1_goods x1_works x1_years x1_gone x1_spent x1_at x1_token x1_from x1_figures x1_fault x1_numbers x1_statements x1_left x1_far x1_tons x1_way x1_steps x1_met x1_queue x1_totals).drop 11, gridI d r1_line 20 7 x1_line, gridI d r1_good 8 3 x1_good, gridI d r1_work 7 5 x1_work]) (gs' := fun _ => [(gMd d h0 a0_kept a0_tried a0_chosen r0_rows r0_line r0_good r0_work x0_shelf x0_rowSort x0_rowSize x0_moved x0_shown x0_tape x0_tapeSize x0_refused x1_lines x0_changes x0_coins x0_goods x0_works x0_years x0_gone x0_spent x0_at x0_token x0_from x0_figures x0_fault x0_numbers x0_statements x0_left x0_far x0_tons x0_way x0_steps x0_met x0_queue x0_totals).take 10, [cI d (h0 10) 12 g3], (gMd d h0 a0_kept a0_tried a0_chosen r0_rows r0_line r0_good r0_work x0_shelf x0_rowSort x0_rowSize x0_moved x0_shown x0_tape x0_tapeSize x0_refused x1_lines x0_changes x0_coins x0_goods x0_works x0_years x0_gone x0_spent x0_at x0_token x0_from x0_figures x0_fault x0_numbers x0_statements x0_left x0_far x0_tons x0_way x0_steps x0_met x0_queue x0_totals).drop 11, gridI d r0_line 20 7 g1, gridI d r0_good 8 3 x0_good, gridI d r0_work 7 5 x0_work, (gMd d h1 a1_kept a1_tried a1_chosen r1_rows r1_line r1_good r1_work x1_shelf x1_rowSort x1_rowSize x1_moved x1_shown x1_tape x1_tapeSize x1_refused x1_lines x1_changes x1_coins x1_goods x1_works x1_years x1_gone x1_spent x1_at x1_token x1_from x1_figures x1_fault x1_numbers x1_statements x1_left x1_far x1_tons x1_way x1_steps x1_met x1_queue x1_totals).take 10, [cI d (h1 10) 12 x1_changes], (gMd d h1 a1_kept a1_tried a1_chosen r1_rows r1_line r1_good r1_work x1_shelf x1_rowSort x1_rowSize x1_moved x1_shown x1_tape x1_tapeSize x1_refused x1_lines x1_changes x1_coins x1_goods x1_works x1_years x1_gone x1_spent x1_at x1_token x1_from x1_figures x1_fault x1_numbers x1_statements x1_left x1_far x1_tons x1_way x1_steps x1_met x1_queue x1_totals).drop 11, gridI d r1_line 20 7 x1_line, gridI d r1_good 8 3 x1_good, gridI d r1_work 7 5 x1_work]) (st' := fun _ => []) (st := []) hK qd4_105.2.2.2.2.2.2.2.2.2.2.2.2.2.1 cv_RX7_345 ws_yX7_over (As := [.ref (h1 10), .ref (h0 10)]) (kX7_over _ d (h1 10) (h0 10) n 12 x1_changes 12 x0_changes e4) rfl rfl (Nat.le_of_ble_eq_true rfl) (by decide) [7, 1] [0, 2, 3, 4, 5, 6, 8, 9, 10, 11] rfl (by decide +kernel) rfl rfl [0, 11, 1, 2, 3, 4, 5, 10, 6, 7, 8, 9] (by decide +kernel) (fun _ => rfl) (fun _ => rfl) rfl rfl rfl (fun _ => rfl) (fun _ => ?_)
  refine J_fl (gs2 := [gMd d h0 a0_kept a0_tried a0_chosen r0_rows r0_line r0_good r0_work x0_shelf x0_rowSort x0_rowSize x0_moved x0_shown x0_tape x0_tapeSize x0_refused x1_lines g3 x0_coins x0_goods x0_works x0_years x0_gone x0_spent x0_at x0_token x0_from x0_figures x0_fault x0_numbers x0_statements x0_left x0_far x0_tons x0_way x0_steps x0_met x0_queue x0_totals, gridI d r0_line 20 7 g1, gridI d r0_good 8 3 x0_good, gridI d r0_work 7 5 x0_work, gMd d h1 a1_kept a1_tried a1_chosen r1_rows r1_line r1_good r1_work x1_shelf x1_rowSort x1_rowSize x1_moved x1_shown x1_tape x1_tapeSize x1_refused x1_lines x1_changes x1_coins x1_goods x1_works x1_years x1_gone x1_spent x1_at x1_token x1_from x1_figures x1_fault x1_numbers x1_statements x1_left x1_far x1_tons x1_way x1_steps x1_met x1_queue x1_totals, gridI d r1_line 20 7 x1_line, gridI d r1_good 8 3 x1_good, gridI d r1_work 7 5 x1_work]) rfl ?_
  refine J_aload_n hK qd4_105.2.2.2.2.2.2.2.2.2.2.2.2.2.2.1 rfl 1 rfl rfl ?_
  refine J_get hK fo_RX7_45 qd4_105.2.2.2.2.2.2.2.2.2.2.2.2.2.2.2.1 rfl 4 0 rfl rfl rfl ?_
  refine J_aload_n hK qd4_106.1 rfl 0 rfl rfl ?_
  refine J_get hK fo_RX7_45 qd4_106.2.1 rfl 0 0 rfl rfl rfl ?_
  refine J_fl (gs2 := [gMd d h0 a0_kept a0_tried a0_chosen r0_rows r0_line r0_good r0_work x0_shelf x0_rowSort x0_rowSize x0_moved x0_shown x0_tape x0_tapeSize x0_refused x1_lines g3 x0_coins x0_goods x0_works x0_years x0_gone x0_spent x0_at x0_token x0_from x0_figures x0_fault x0_numbers x0_statements x0_left x0_far x0_tons x0_way x0_steps x0_met x0_queue x0_totals, gridI d r0_line 20 7 g1, gridI d r0_good 8 3 x0_good, gridI d r0_work 7 5 x0_work, (gMd d h1 a1_kept a1_tried a1_chosen r1_rows r1_line r1_good r1_work x1_shelf x1_rowSort x1_rowSize x1_moved x1_shown x1_tape x1_tapeSize x1_refused x1_lines x1_changes x1_coins x1_goods x1_works x1_years x1_gone x1_spent x1_at x1_token x1_from x1_figures x1_fault x1_numbers x1_statements x1_left x1_far x1_tons x1_way x1_steps x1_met x1_queue x1_totals).take 11, [cI d (h1 11) 3 x1_coins], (gMd d h1 a1_kept a1_tried a1_chosen r1_rows r1_line r1_good r1_work x1_shelf x1_rowSort x1_rowSize x1_moved x1_shown x1_tape x1_tapeSize x1_refused x1_lines x1_changes x1_coins x1_goods x1_works x1_years x1_gone x1_spent x1_at x1_token x1_from x1_figures x1_fault x1_numbers x1_statements x1_left x1_far x1_tons x1_way x1_steps x1_met x1_queue x1_totals).drop 12, gridI d r1_line 20 7 x1_line, gridI d r1_good 8 3 x1_good, gridI d r1_work 7 5 x1_work]) rfl ?_
  refine J_fl (gs2 := [(gMd d h0 a0_kept a0_tried a0_chosen r0_rows r0_line r0_good r0_work x0_shelf x0_rowSort x0_rowSize x0_moved x0_shown x0_tape x0_tapeSize x0_refused x1_lines g3 x0_coins x0_goods x0_works x0_years x0_gone x0_spent x0_at x0_token x0_from x0_figures x0_fault x0_numbers x0_statements x0_left x0_far x0_tons x0_way x0_steps x0_met x0_queue x0_totals).take 11, [cI d (h0 11) 3 x0_coins], (gMd d h0 a0_kept a0_tried a0_chosen r0_rows r0_line r0_good r0_work x0_shelf x0_rowSort x0_rowSize x0_moved x0_shown x0_tape x0_tapeSize x0_refused x1_lines g3 x0_coins x0_goods x0_works x0_years x0_gone x0_spent x0_at x0_token x0_from x0_figures x0_fault x0_numbers x0_statements x0_left x0_far x0_tons x0_way x0_steps x0_met x0_queue x0_totals).drop 12, gridI d r0_line 20 7 g1, gridI d r0_good 8 3 x0_good, gridI d r0_work 7 5 x0_work, (gMd d h1 a1_kept a1_tried a1_chosen r1_rows r1_line r1_good r1_work x1_shelf x1_rowSort x1_rowSize x1_moved x1_shown x1_tape x1_tapeSize x1_refused x1_lines x1_changes x1_coins x1_goods x1_works x1_years x1_gone x1_spent x1_at x1_token x1_from x1_figures x1_fault x1_numbers x1_statements x1_left x1_far x1_tons x1_way x1_steps x1_met x1_queue x1_totals).take 11, [cI d (h1 11) 3 x1_coins], (gMd d h1 a1_kept a1_tried a1_chosen r1_rows r1_line r1_good r1_work x1_shelf x1_rowSort x1_rowSize x1_moved x1_shown x1_tape x1_tapeSize x1_refused x1_lines x1_changes x1_coins x1_goods x1_works x1_years x1_gone x1_spent x1_at x1_token x1_from x1_figures x1_fault x1_numbers x1_statements x1_left x1_far x1_tons x1_way x1_steps x1_met x1_queue x1_totals).drop 12, gridI d r1_line 20 7 x1_line, gridI d r1_good 8 3 x1_good, gridI d r1_work 7 5 x1_work]) rfl ?_
  obtain ⟨g5, e6, hf⟩ := bs hf
  refine J_callS (m := 12) (m' := 12) (ce' := 0) (sl' := 0) (gr := [(gMd d h0 a0_kept a0_tried a0_chosen r0_rows r0_line r0_good r0_work x0_shelf x0_rowSort x0_rowSize x0_moved x0_shown x0_tape x0_tapeSize x0_refused x1_lines g3 x0_coins x0_goods x0_works x0_years x0_gone x0_spent x0_at x0_token x0_from x0_figures x0_fault x0_numbers x0_statements x0_left x0_far x0_tons x0_way x0_steps x0_met x0_queue x0_totals).take 11, (gMd d h0 a0_kept a0_tried a0_chosen r0_rows r0_line r0_good r0_work x0_shelf x0_rowSort x0_rowSize x0_moved x0_shown x0_tape x0_tapeSize x0_refused x1_lines g3 x0_coins x0_goods x0_works x0_years x0_gone x0_spent x0_at x0_token x0_from x0_figures x0_fault x0_numbers x0_statements x0_left x0_far x0_tons x0_way x0_steps x0_met x0_queue x0_totals).drop 12, gridI d r0_line 20 7 g1, gridI d r0_good 8 3 x0_good, gridI d r0_work 7 5 x0_work, (gMd d h1 a1_kept a1_tried a1_chosen r1_rows r1_line r1_good r1_work x1_shelf x1_rowSort x1_rowSize x1_moved x1_shown x1_tape x1_tapeSize x1_refused x1_lines x1_changes x1_coins x1_goods x1_works x1_years x1_gone x1_spent x1_at x1_token x1_from x1_figures x1_fault x1_numbers x1_statements x1_left x1_far x1_tons x1_way x1_steps x1_met x1_queue x1_totals).take 11, (gMd d h1 a1_kept a1_tried a1_chosen r1_rows r1_line r1_good r1_work x1_shelf x1_rowSort x1_rowSize x1_moved x1_shown x1_tape x1_tapeSize x1_refused x1_lines x1_changes x1_coins x1_goods x1_works x1_years x1_gone x1_spent x1_at x1_token x1_from x1_figures x1_fault x1_numbers x1_statements x1_left x1_far x1_tons x1_way x1_steps x1_met x1_queue x1_totals).drop 12, gridI d r1_line 20 7 x1_line, gridI d r1_good 8 3 x1_good, gridI d r1_work 7 5 x1_work]) (gs' := fun _ => [(gMd d h0 a0_kept a0_tried a0_chosen r0_rows r0_line r0_good r0_work x0_shelf x0_rowSort x0_rowSize x0_moved x0_shown x0_tape x0_tapeSize x0_refused x1_lines g3 x0_coins x0_goods x0_works x0_years x0_gone x0_spent x0_at x0_token x0_from x0_figures x0_fault x0_numbers x0_statements x0_left x0_far x0_tons x0_way x0_steps x0_met x0_queue x0_totals).take 11, [cI d (h0 11) 3 g5], (gMd d h0 a0_kept a0_tried a0_chosen r0_rows r0_line r0_good r0_work x0_shelf x0_rowSort x0_rowSize x0_moved x0_shown x0_tape x0_tapeSize x0_refused x1_lines g3 x0_coins x0_goods x0_works x0_years x0_gone x0_spent x0_at x0_token x0_from x0_figures x0_fault x0_numbers x0_statements x0_left x0_far x0_tons x0_way x0_steps x0_met x0_queue x0_totals).drop 12, gridI d r0_line 20 7 g1, gridI d r0_good 8 3 x0_good, gridI d r0_work 7 5 x0_work, (gMd d h1 a1_kept a1_tried a1_chosen r1_rows r1_line r1_good r1_work x1_shelf x1_rowSort x1_rowSize x1_moved x1_shown x1_tape x1_tapeSize x1_refused x1_lines x1_changes x1_coins x1_goods x1_works x1_years x1_gone x1_spent x1_at x1_token x1_from x1_figures x1_fault x1_numbers x1_statements x1_left x1_far x1_tons x1_way x1_steps x1_met x1_queue x1_totals).take 11, [cI d (h1 11) 3 x1_coins], (gMd d h1 a1_kept a1_tried a1_chosen r1_rows r1_line r1_good r1_work x1_shelf x1_rowSort x1_rowSize x1_moved x1_shown x1_tape x1_tapeSize x1_refused x1_lines x1_changes x1_coins x1_goods x1_works x1_years x1_gone x1_spent x1_at x1_token x1_from x1_figures x1_fault x1_numbers x1_statements x1_left x1_far x1_tons x1_way x1_steps x1_met x1_queue x1_totals).drop 12, gridI d r1_line 20 7 x1_line, gridI d r1_good 8 3 x1_good, gridI d r1_work 7 5 x1_work]) (st' := fun _ => []) (st := []) hK qd4_106.2.2.1 cv_RX7_345 ws_yX7_over (As := [.ref (h1 11), .ref (h0 11)]) (kX7_over _ d (h1 11) (h0 11) n 3 x1_coins 3 x0_coins e6) rfl rfl (Nat.le_of_ble_eq_true rfl) (by decide) [7, 1] [0, 2, 3, 4, 5, 6, 8, 9, 10, 11] rfl (by decide +kernel) rfl rfl [0, 11, 1, 2, 3, 4, 5, 10, 6, 7, 8, 9] (by decide +kernel) (fun _ => rfl) (fun _ => rfl) rfl rfl rfl (fun _ => rfl) (fun _ => ?_)
  refine J_fl (gs2 := [gMd d h0 a0_kept a0_tried a0_chosen r0_rows r0_line r0_good r0_work x0_shelf x0_rowSort x0_rowSize x0_moved x0_shown x0_tape x0_tapeSize x0_refused x1_lines g3 g5 x0_goods x0_works x0_years x0_gone x0_spent x0_at x0_token x0_from x0_figures x0_fault x0_numbers x0_statements x0_left x0_far x0_tons x0_way x0_steps x0_met x0_queue x0_totals, gridI d r0_line 20 7 g1, gridI d r0_good 8 3 x0_good, gridI d r0_work 7 5 x0_work, gMd d h1 a1_kept a1_tried a1_chosen r1_rows r1_line r1_good r1_work x1_shelf x1_rowSort x1_rowSize x1_moved x1_shown x1_tape x1_tapeSize x1_refused x1_lines x1_changes x1_coins x1_goods x1_works x1_years x1_gone x1_spent x1_at x1_token x1_from x1_figures x1_fault x1_numbers x1_statements x1_left x1_far x1_tons x1_way x1_steps x1_met x1_queue x1_totals, gridI d r1_line 20 7 x1_line, gridI d r1_good 8 3 x1_good, gridI d r1_work 7 5 x1_work]) rfl ?_
  refine J_aload_n hK qd4_106.2.2.2.1 rfl 0 rfl rfl ?_
  refine J_aload_n hK qd4_106.2.2.2.2.1 rfl 1 rfl rfl ?_
  refine J_get hK fo_RX7_125 qd4_106.2.2.2.2.2.1 rfl 4 0 rfl rfl rfl ?_
  refine J_put (g' := gMd d h0 a0_kept a0_tried a0_chosen r0_rows r0_line r0_good r0_work x0_shelf x0_rowSort x0_rowSize x0_moved x0_shown x0_tape x0_tapeSize x0_refused x1_lines g3 g5 x1_goods x0_works x0_years x0_gone x0_spent x0_at x0_token x0_from x0_figures x0_fault x0_numbers x0_statements x0_left x0_far x0_tons x0_way x0_steps x0_met x0_queue x0_totals) (gs' := [gMd d h0 a0_kept a0_tried a0_chosen r0_rows r0_line r0_good r0_work x0_shelf x0_rowSort x0_rowSize x0_moved x0_shown x0_tape x0_tapeSize x0_refused x1_lines g3 g5 x1_goods x0_works x0_years x0_gone x0_spent x0_at x0_token x0_from x0_figures x0_fault x0_numbers x0_statements x0_left x0_far x0_tons x0_way x0_steps x0_met x0_queue x0_totals, gridI d r0_line 20 7 g1, gridI d r0_good 8 3 x0_good, gridI d r0_work 7 5 x0_work, gMd d h1 a1_kept a1_tried a1_chosen r1_rows r1_line r1_good r1_work x1_shelf x1_rowSort x1_rowSize x1_moved x1_shown x1_tape x1_tapeSize x1_refused x1_lines x1_changes x1_coins x1_goods x1_works x1_years x1_gone x1_spent x1_at x1_token x1_from x1_figures x1_fault x1_numbers x1_statements x1_left x1_far x1_tons x1_way x1_steps x1_met x1_queue x1_totals, gridI d r1_line 20 7 x1_line, gridI d r1_good 8 3 x1_good, gridI d r1_work 7 5 x1_work]) hK fp_RX7_125 qd4_106.2.2.2.2.2.2.1 rfl 0 0 rfl rfl rfl rfl (Nat.le_of_ble_eq_true rfl) rfl rfl ?_
  refine J_aload_n hK qd4_106.2.2.2.2.2.2.2.1 rfl 1 rfl rfl ?_
  refine J_get hK fo_RX7_48 qd4_106.2.2.2.2.2.2.2.2.1 rfl 4 0 rfl rfl rfl ?_
  refine J_aload_n hK qd4_106.2.2.2.2.2.2.2.2.2.1 rfl 0 rfl rfl ?_
  refine J_get hK fo_RX7_48 qd4_106.2.2.2.2.2.2.2.2.2.2.1 rfl 0 0 rfl rfl rfl ?_
  refine J_fl (gs2 := [gMd d h0 a0_kept a0_tried a0_chosen r0_rows r0_line r0_good r0_work x0_shelf x0_rowSort x0_rowSize x0_moved x0_shown x0_tape x0_tapeSize x0_refused x1_lines g3 g5 x1_goods x0_works x0_years x0_gone x0_spent x0_at x0_token x0_from x0_figures x0_fault x0_numbers x0_statements x0_left x0_far x0_tons x0_way x0_steps x0_met x0_queue x0_totals, gridI d r0_line 20 7 g1, gridI d r0_good 8 3 x0_good, gridI d r0_work 7 5 x0_work, (gMd d h1 a1_kept a1_tried a1_chosen r1_rows r1_line r1_good r1_work x1_shelf x1_rowSort x1_rowSize x1_moved x1_shown x1_tape x1_tapeSize x1_refused x1_lines x1_changes x1_coins x1_goods x1_works x1_years x1_gone x1_spent x1_at x1_token x1_from x1_figures x1_fault x1_numbers x1_statements x1_left x1_far x1_tons x1_way x1_steps x1_met x1_queue x1_totals).take 12, [cR d 2 (h1 12) 8 (rowsF 8 r1_good)], (gMd d h1 a1_kept a1_tried a1_chosen r1_rows r1_line r1_good r1_work x1_shelf x1_rowSort x1_rowSize x1_moved x1_shown x1_tape x1_tapeSize x1_refused x1_lines x1_changes x1_coins x1_goods x1_works x1_years x1_gone x1_spent x1_at x1_token x1_from x1_figures x1_fault x1_numbers x1_statements x1_left x1_far x1_tons x1_way x1_steps x1_met x1_queue x1_totals).drop 13, gridI d r1_line 20 7 x1_line, gridI d r1_good 8 3 x1_good, gridI d r1_work 7 5 x1_work]) rfl ?_
  refine J_fl (gs2 := [(gMd d h0 a0_kept a0_tried a0_chosen r0_rows r0_line r0_good r0_work x0_shelf x0_rowSort x0_rowSize x0_moved x0_shown x0_tape x0_tapeSize x0_refused x1_lines g3 g5 x1_goods x0_works x0_years x0_gone x0_spent x0_at x0_token x0_from x0_figures x0_fault x0_numbers x0_statements x0_left x0_far x0_tons x0_way x0_steps x0_met x0_queue x0_totals).take 12, [cR d 2 (h0 12) 8 (rowsF 8 r0_good)], (gMd d h0 a0_kept a0_tried a0_chosen r0_rows r0_line r0_good r0_work x0_shelf x0_rowSort x0_rowSize x0_moved x0_shown x0_tape x0_tapeSize x0_refused x1_lines g3 g5 x1_goods x0_works x0_years x0_gone x0_spent x0_at x0_token x0_from x0_figures x0_fault x0_numbers x0_statements x0_left x0_far x0_tons x0_way x0_steps x0_met x0_queue x0_totals).drop 13, gridI d r0_line 20 7 g1, gridI d r0_good 8 3 x0_good, gridI d r0_work 7 5 x0_work, (gMd d h1 a1_kept a1_tried a1_chosen r1_rows r1_line r1_good r1_work x1_shelf x1_rowSort x1_rowSize x1_moved x1_shown x1_tape x1_tapeSize x1_refused x1_lines x1_changes x1_coins x1_goods x1_works x1_years x1_gone x1_spent x1_at x1_token x1_from x1_figures x1_fault x1_numbers x1_statements x1_left x1_far x1_tons x1_way x1_steps x1_met x1_queue x1_totals).take 12, [cR d 2 (h1 12) 8 (rowsF 8 r1_good)], (gMd d h1 a1_kept a1_tried a1_chosen r1_rows r1_line r1_good r1_work x1_shelf x1_rowSort x1_rowSize x1_moved x1_shown x1_tape x1_tapeSize x1_refused x1_lines x1_changes x1_coins x1_goods x1_works x1_years x1_gone x1_spent x1_at x1_token x1_from x1_figures x1_fault x1_numbers x1_statements x1_left x1_far x1_tons x1_way x1_steps x1_met x1_queue x1_totals).drop 13, gridI d r1_line 20 7 x1_line, gridI d r1_good 8 3 x1_good, gridI d r1_work 7 5 x1_work]) rfl ?_
  obtain ⟨g7, e8, hf⟩ := bs hf
  refine J_callS (m := 12) (m' := 12) (ce' := 0) (sl' := 0) (gr := [(gMd d h0 a0_kept a0_tried a0_chosen r0_rows r0_line r0_good r0_work x0_shelf x0_rowSort x0_rowSize x0_moved x0_shown x0_tape x0_tapeSize x0_refused x1_lines g3 g5 x1_goods x0_works x0_years x0_gone x0_spent x0_at x0_token x0_from x0_figures x0_fault x0_numbers x0_statements x0_left x0_far x0_tons x0_way x0_steps x0_met x0_queue x0_totals).take 12, (gMd d h0 a0_kept a0_tried a0_chosen r0_rows r0_line r0_good r0_work x0_shelf x0_rowSort x0_rowSize x0_moved x0_shown x0_tape x0_tapeSize x0_refused x1_lines g3 g5 x1_goods x0_works x0_years x0_gone x0_spent x0_at x0_token x0_from x0_figures x0_fault x0_numbers x0_statements x0_left x0_far x0_tons x0_way x0_steps x0_met x0_queue x0_totals).drop 13, gridI d r0_line 20 7 g1, gridI d r0_work 7 5 x0_work, (gMd d h1 a1_kept a1_tried a1_chosen r1_rows r1_line r1_good r1_work x1_shelf x1_rowSort x1_rowSize x1_moved x1_shown x1_tape x1_tapeSize x1_refused x1_lines x1_changes x1_coins x1_goods x1_works x1_years x1_gone x1_spent x1_at x1_token x1_from x1_figures x1_fault x1_numbers x1_statements x1_left x1_far x1_tons x1_way x1_steps x1_met x1_queue x1_totals).take 12, (gMd d h1 a1_kept a1_tried a1_chosen r1_rows r1_line r1_good r1_work x1_shelf x1_rowSort x1_rowSize x1_moved x1_shown x1_tape x1_tapeSize x1_refused x1_lines x1_changes x1_coins x1_goods x1_works x1_years x1_gone x1_spent x1_at x1_token x1_from x1_figures x1_fault x1_numbers x1_statements x1_left x1_far x1_tons x1_way x1_steps x1_met x1_queue x1_totals).drop 13, gridI d r1_line 20 7 x1_line, gridI d r1_work 7 5 x1_work]) (gs' := fun _ => [(gMd d h0 a0_kept a0_tried a0_chosen r0_rows r0_line r0_good r0_work x0_shelf x0_rowSort x0_rowSize x0_moved x0_shown x0_tape x0_tapeSize x0_refused x1_lines g3 g5 x1_goods x0_works x0_years x0_gone x0_spent x0_at x0_token x0_from x0_figures x0_fault x0_numbers x0_statements x0_left x0_far x0_tons x0_way x0_steps x0_met x0_queue x0_totals).take 12, [cR d 2 (h0 12) 8 (rowsF 8 r0_good)], (gMd d h0 a0_kept a0_tried a0_chosen r0_rows r0_line r0_good r0_work x0_shelf x0_rowSort x0_rowSize x0_moved x0_shown x0_tape x0_tapeSize x0_refused x1_lines g3 g5 x1_goods x0_works x0_years x0_gone x0_spent x0_at x0_token x0_from x0_figures x0_fault x0_numbers x0_statements x0_left x0_far x0_tons x0_way x0_steps x0_met x0_queue x0_totals).drop 13, gridI d r0_line 20 7 g1, gridI d r0_good 8 3 g7, gridI d r0_work 7 5 x0_work, (gMd d h1 a1_kept a1_tried a1_chosen r1_rows r1_line r1_good r1_work x1_shelf x1_rowSort x1_rowSize x1_moved x1_shown x1_tape x1_tapeSize x1_refused x1_lines x1_changes x1_coins x1_goods x1_works x1_years x1_gone x1_spent x1_at x1_token x1_from x1_figures x1_fault x1_numbers x1_statements x1_left x1_far x1_tons x1_way x1_steps x1_met x1_queue x1_totals).take 12, [cR d 2 (h1 12) 8 (rowsF 8 r1_good)], (gMd d h1 a1_kept a1_tried a1_chosen r1_rows r1_line r1_good r1_work x1_shelf x1_rowSort x1_rowSize x1_moved x1_shown x1_tape x1_tapeSize x1_refused x1_lines x1_changes x1_coins x1_goods x1_works x1_years x1_gone x1_spent x1_at x1_token x1_from x1_figures x1_fault x1_numbers x1_statements x1_left x1_far x1_tons x1_way x1_steps x1_met x1_queue x1_totals).drop 13, gridI d r1_line 20 7 x1_line, gridI d r1_good 8 3 x1_good, gridI d r1_work 7 5 x1_work]) (st' := fun _ => []) (st := []) hK qd4_106.2.2.2.2.2.2.2.2.2.2.2.1 cv_RX7_349 ws_yX7_overAll (As := [.ref (h1 12), .ref (h0 12)]) (kX7_overAll _ d (h1 12) r1_good (h0 12) r0_good n 8 3 x1_good 8 3 x0_good e8) rfl rfl (Nat.le_of_ble_eq_true rfl) (by decide) [7, 10, 1, 4] [0, 2, 3, 5, 6, 8, 9, 11] rfl (by decide +kernel) rfl rfl [0, 10, 1, 2, 11, 3, 4, 8, 5, 6, 9, 7] (by decide +kernel) (fun _ => rfl) (fun _ => rfl) rfl rfl rfl (fun _ => rfl) (fun _ => ?_)
  refine J_fl (gs2 := [gMd d h0 a0_kept a0_tried a0_chosen r0_rows r0_line r0_good r0_work x0_shelf x0_rowSort x0_rowSize x0_moved x0_shown x0_tape x0_tapeSize x0_refused x1_lines g3 g5 x1_goods x0_works x0_years x0_gone x0_spent x0_at x0_token x0_from x0_figures x0_fault x0_numbers x0_statements x0_left x0_far x0_tons x0_way x0_steps x0_met x0_queue x0_totals, gridI d r0_line 20 7 g1, gridI d r0_good 8 3 g7, gridI d r0_work 7 5 x0_work, gMd d h1 a1_kept a1_tried a1_chosen r1_rows r1_line r1_good r1_work x1_shelf x1_rowSort x1_rowSize x1_moved x1_shown x1_tape x1_tapeSize x1_refused x1_lines x1_changes x1_coins x1_goods x1_works x1_years x1_gone x1_spent x1_at x1_token x1_from x1_figures x1_fault x1_numbers x1_statements x1_left x1_far x1_tons x1_way x1_steps x1_met x1_queue x1_totals, gridI d r1_line 20 7 x1_line, gridI d r1_good 8 3 x1_good, gridI d r1_work 7 5 x1_work]) rfl ?_
  refine J_aload_n hK qd4_106.2.2.2.2.2.2.2.2.2.2.2.2.1 rfl 0 rfl rfl ?_
  refine J_aload_n hK qd4_106.2.2.2.2.2.2.2.2.2.2.2.2.2.1 rfl 1 rfl rfl ?_
  refine J_get hK fo_RX7_85 qd4_106.2.2.2.2.2.2.2.2.2.2.2.2.2.2.1 rfl 4 0 rfl rfl rfl ?_
  refine J_put (g' := gMd d h0 a0_kept a0_tried a0_chosen r0_rows r0_line r0_good r0_work x0_shelf x0_rowSort x0_rowSize x0_moved x0_shown x0_tape x0_tapeSize x0_refused x1_lines g3 g5 x1_goods x1_works x0_years x0_gone x0_spent x0_at x0_token x0_from x0_figures x0_fault x0_numbers x0_statements x0_left x0_far x0_tons x0_way x0_steps x0_met x0_queue x0_totals) (gs' := [gMd d h0 a0_kept a0_tried a0_chosen r0_rows r0_line r0_good r0_work x0_shelf x0_rowSort x0_rowSize x0_moved x0_shown x0_tape x0_tapeSize x0_refused x1_lines g3 g5 x1_goods x1_works x0_years x0_gone x0_spent x0_at x0_token x0_from x0_figures x0_fault x0_numbers x0_statements x0_left x0_far x0_tons x0_way x0_steps x0_met x0_queue x0_totals, gridI d r0_line 20 7 g1, gridI d r0_good 8 3 g7, gridI d r0_work 7 5 x0_work, gMd d h1 a1_kept a1_tried a1_chosen r1_rows r1_line r1_good r1_work x1_shelf x1_rowSort x1_rowSize x1_moved x1_shown x1_tape x1_tapeSize x1_refused x1_lines x1_changes x1_coins x1_goods x1_works x1_years x1_gone x1_spent x1_at x1_token x1_from x1_figures x1_fault x1_numbers x1_statements x1_left x1_far x1_tons x1_way x1_steps x1_met x1_queue x1_totals, gridI d r1_line 20 7 x1_line, gridI d r1_good 8 3 x1_good, gridI d r1_work 7 5 x1_work]) hK fp_RX7_85 qd4_106.2.2.2.2.2.2.2.2.2.2.2.2.2.2.2.1 rfl 0 0 rfl rfl rfl rfl (Nat.le_of_ble_eq_true rfl) rfl rfl ?_
  refine J_aload_n hK qd4_107.1 rfl 1 rfl rfl ?_
  refine J_get hK fo_RX7_51 qd4_107.2.1 rfl 4 0 rfl rfl rfl ?_
  refine J_aload_n hK qd4_107.2.2.1 rfl 0 rfl rfl ?_
  refine J_get hK fo_RX7_51 qd4_107.2.2.2.1 rfl 0 0 rfl rfl rfl ?_
  refine J_fl (gs2 := [gMd d h0 a0_kept a0_tried a0_chosen r0_rows r0_line r0_good r0_work x0_shelf x0_rowSort x0_rowSize x0_moved x0_shown x0_tape x0_tapeSize x0_refused x1_lines g3 g5 x1_goods x1_works x0_years x0_gone x0_spent x0_at x0_token x0_from x0_figures x0_fault x0_numbers x0_statements x0_left x0_far x0_tons x0_way x0_steps x0_met x0_queue x0_totals, gridI d r0_line 20 7 g1, gridI d r0_good 8 3 g7, gridI d r0_work 7 5 x0_work, (gMd d h1 a1_kept a1_tried a1_chosen r1_rows r1_line r1_good r1_work x1_shelf x1_rowSort x1_rowSize x1_moved x1_shown x1_tape x1_tapeSize x1_refused x1_lines x1_changes x1_coins x1_goods x1_works x1_years x1_gone x1_spent x1_at x1_token x1_from x1_figures x1_fault x1_numbers x1_statements x1_left x1_far x1_tons x1_way x1_steps x1_met x1_queue x1_totals).take 13, [cR d 2 (h1 13) 7 (rowsF 7 r1_work)], (gMd d h1 a1_kept a1_tried a1_chosen r1_rows r1_line r1_good r1_work x1_shelf x1_rowSort x1_rowSize x1_moved x1_shown x1_tape x1_tapeSize x1_refused x1_lines x1_changes x1_coins x1_goods x1_works x1_years x1_gone x1_spent x1_at x1_token x1_from x1_figures x1_fault x1_numbers x1_statements x1_left x1_far x1_tons x1_way x1_steps x1_met x1_queue x1_totals).drop 14, gridI d r1_line 20 7 x1_line, gridI d r1_good 8 3 x1_good, gridI d r1_work 7 5 x1_work]) rfl ?_
  refine J_fl (gs2 := [(gMd d h0 a0_kept a0_tried a0_chosen r0_rows r0_line r0_good r0_work x0_shelf x0_rowSort x0_rowSize x0_moved x0_shown x0_tape x0_tapeSize x0_refused x1_lines g3 g5 x1_goods x1_works x0_years x0_gone x0_spent x0_at x0_token x0_from x0_figures x0_fault x0_numbers x0_statements x0_left x0_far x0_tons x0_way x0_steps x0_met x0_queue x0_totals).take 13, [cR d 2 (h0 13) 7 (rowsF 7 r0_work)], (gMd d h0 a0_kept a0_tried a0_chosen r0_rows r0_line r0_good r0_work x0_shelf x0_rowSort x0_rowSize x0_moved x0_shown x0_tape x0_tapeSize x0_refused x1_lines g3 g5 x1_goods x1_works x0_years x0_gone x0_spent x0_at x0_token x0_from x0_figures x0_fault x0_numbers x0_statements x0_left x0_far x0_tons x0_way x0_steps x0_met x0_queue x0_totals).drop 14, gridI d r0_line 20 7 g1, gridI d r0_good 8 3 g7, gridI d r0_work 7 5 x0_work, (gMd d h1 a1_kept a1_tried a1_chosen r1_rows r1_line r1_good r1_work x1_shelf x1_rowSort x1_rowSize x1_moved x1_shown x1_tape x1_tapeSize x1_refused x1_lines x1_changes x1_coins x1_goods x1_works x1_years x1_gone x1_spent x1_at x1_token x1_from x1_figures x1_fault x1_numbers x1_statements x1_left x1_far x1_tons x1_way x1_steps x1_met x1_queue x1_totals).take 13, [cR d 2 (h1 13) 7 (rowsF 7 r1_work)], (gMd d h1 a1_kept a1_tried a1_chosen r1_rows r1_line r1_good r1_work x1_shelf x1_rowSort x1_rowSize x1_moved x1_shown x1_tape x1_tapeSize x1_refused x1_lines x1_changes x1_coins x1_goods x1_works x1_years x1_gone x1_spent x1_at x1_token x1_from x1_figures x1_fault x1_numbers x1_statements x1_left x1_far x1_tons x1_way x1_steps x1_met x1_queue x1_totals).drop 14, gridI d r1_line 20 7 x1_line, gridI d r1_good 8 3 x1_good, gridI d r1_work 7 5 x1_work]) rfl ?_
  obtain ⟨g9, e10, hf⟩ := bs hf
  refine J_callS (m := 12) (m' := 12) (ce' := 0) (sl' := 0) (gr := [(gMd d h0 a0_kept a0_tried a0_chosen r0_rows r0_line r0_good r0_work x0_shelf x0_rowSort x0_rowSize x0_moved x0_shown x0_tape x0_tapeSize x0_refused x1_lines g3 g5 x1_goods x1_works x0_years x0_gone x0_spent x0_at x0_token x0_from x0_figures x0_fault x0_numbers x0_statements x0_left x0_far x0_tons x0_way x0_steps x0_met x0_queue x0_totals).take 13, (gMd d h0 a0_kept a0_tried a0_chosen r0_rows r0_line r0_good r0_work x0_shelf x0_rowSort x0_rowSize x0_moved x0_shown x0_tape x0_tapeSize x0_refused x1_lines g3 g5 x1_goods x1_works x0_years x0_gone x0_spent x0_at x0_token x0_from x0_figures x0_fault x0_numbers x0_statements x0_left x0_far x0_tons x0_way x0_steps x0_met x0_queue x0_totals).drop 14, gridI d r0_line 20 7 g1, gridI d r0_good 8 3 g7, (gMd d h1 a1_kept a1_tried a1_chosen r1_rows r1_line r1_good r1_work x1_shelf x1_rowSort x1_rowSize x1_moved x1_shown x1_tape x1_tapeSize x1_refused x1_lines x1_changes x1_coins x1_goods x1_works x1_years x1_gone x1_spent x1_at x1_token x1_from x1_figures x1_fault x1_numbers x1_statements x1_left x1_far x1_tons x1_way x1_steps x1_met x1_queue x1_totals).take 13, (gMd d h1 a1_kept a1_tried a1_chosen r1_rows r1_line r1_good r1_work x1_shelf x1_rowSort x1_rowSize x1_moved x1_shown x1_tape x1_tapeSize x1_refused x1_lines x1_changes x1_coins x1_goods x1_works x1_years x1_gone x1_spent x1_at x1_token x1_from x1_figures x1_fault x1_numbers x1_statements x1_left x1_far x1_tons x1_way x1_steps x1_met x1_queue x1_totals).drop 14, gridI d r1_line 20 7 x1_line, gridI d r1_good 8 3 x1_good]) (gs' := fun _ => [(gMd d h0 a0_kept a0_tried a0_chosen r0_rows r0_line r0_good r0_work x0_shelf x0_rowSort x0_rowSize x0_moved x0_shown x0_tape x0_tapeSize x0_refused x1_lines g3 g5 x1_goods x1_works x0_years x0_gone x0_spent x0_at x0_token x0_from x0_figures x0_fault x0_numbers x0_statements x0_left x0_far x0_tons x0_way x0_steps x0_met x0_queue x0_totals).take 13, [cR d 2 (h0 13) 7 (rowsF 7 r0_work)], (gMd d h0 a0_kept a0_tried a0_chosen r0_rows r0_line r0_good r0_work x0_shelf x0_rowSort x0_rowSize x0_moved x0_shown x0_tape x0_tapeSize x0_refused x1_lines g3 g5 x1_goods x1_works x0_years x0_gone x0_spent x0_at x0_token x0_from x0_figures x0_fault x0_numbers x0_statements x0_left x0_far x0_tons x0_way x0_steps x0_met x0_queue x0_totals).drop 14, gridI d r0_line 20 7 g1, gridI d r0_good 8 3 g7, gridI d r0_work 7 5 g9, (gMd d h1 a1_kept a1_tried a1_chosen r1_rows r1_line r1_good r1_work x1_shelf x1_rowSort x1_rowSize x1_moved x1_shown x1_tape x1_tapeSize x1_refused x1_lines x1_changes x1_coins x1_goods x1_works x1_years x1_gone x1_spent x1_at x1_token x1_from x1_figures x1_fault x1_numbers x1_statements x1_left x1_far x1_tons x1_way x1_steps x1_met x1_queue x1_totals).take 13, [cR d 2 (h1 13) 7 (rowsF 7 r1_work)], (gMd d h1 a1_kept a1_tried a1_chosen r1_rows r1_line r1_good r1_work x1_shelf x1_rowSort x1_rowSize x1_moved x1_shown x1_tape x1_tapeSize x1_refused x1_lines x1_changes x1_coins x1_goods x1_works x1_years x1_gone x1_spent x1_at x1_token x1_from x1_figures x1_fault x1_numbers x1_statements x1_left x1_far x1_tons x1_way x1_steps x1_met x1_queue x1_totals).drop 14, gridI d r1_line 20 7 x1_line, gridI d r1_good 8 3 x1_good, gridI d r1_work 7 5 x1_work]) (st' := fun _ => []) (st := []) hK qd4_107.2.2.2.2.1 cv_RX7_349 ws_yX7_overAll (As := [.ref (h1 13), .ref (h0 13)]) (kX7_overAll _ d (h1 13) r1_work (h0 13) r0_work n 7 5 x1_work 7 5 x0_work e10) rfl rfl (Nat.le_of_ble_eq_true rfl) (by decide) [7, 11, 1, 5] [0, 2, 3, 4, 6, 8, 9, 10] rfl (by decide +kernel) rfl rfl [0, 10, 1, 2, 3, 11, 4, 8, 5, 6, 7, 9] (by decide +kernel) (fun _ => rfl) (fun _ => rfl) rfl rfl rfl (fun _ => rfl) (fun _ => ?_)
  refine J_fl (gs2 := [gMd d h0 a0_kept a0_tried a0_chosen r0_rows r0_line r0_good r0_work x0_shelf x0_rowSort x0_rowSize x0_moved x0_shown x0_tape x0_tapeSize x0_refused x1_lines g3 g5 x1_goods x1_works x0_years x0_gone x0_spent x0_at x0_token x0_from x0_figures x0_fault x0_numbers x0_statements x0_left x0_far x0_tons x0_way x0_steps x0_met x0_queue x0_totals, gridI d r0_line 20 7 g1, gridI d r0_good 8 3 g7, gridI d r0_work 7 5 g9, gMd d h1 a1_kept a1_tried a1_chosen r1_rows r1_line r1_good r1_work x1_shelf x1_rowSort x1_rowSize x1_moved x1_shown x1_tape x1_tapeSize x1_refused x1_lines x1_changes x1_coins x1_goods x1_works x1_years x1_gone x1_spent x1_at x1_token x1_from x1_figures x1_fault x1_numbers x1_statements x1_left x1_far x1_tons x1_way x1_steps x1_met x1_queue x1_totals, gridI d r1_line 20 7 x1_line, gridI d r1_good 8 3 x1_good, gridI d r1_work 7 5 x1_work]) rfl ?_
  refine J_aload_n hK qd4_107.2.2.2.2.2.1 rfl 0 rfl rfl ?_
  refine J_aload_n hK qd4_107.2.2.2.2.2.2.1 rfl 1 rfl rfl ?_
  refine J_get hK fo_RX7_54 qd4_107.2.2.2.2.2.2.2.1 rfl 4 0 rfl rfl rfl ?_
  refine J_put (g' := gMd d h0 a0_kept a0_tried a0_chosen r0_rows r0_line r0_good r0_work x0_shelf x0_rowSort x0_rowSize x0_moved x0_shown x0_tape x0_tapeSize x0_refused x1_lines g3 g5 x1_goods x1_works x1_years x0_gone x0_spent x0_at x0_token x0_from x0_figures x0_fault x0_numbers x0_statements x0_left x0_far x0_tons x0_way x0_steps x0_met x0_queue x0_totals) (gs' := [gMd d h0 a0_kept a0_tried a0_chosen r0_rows r0_line r0_good r0_work x0_shelf x0_rowSort x0_rowSize x0_moved x0_shown x0_tape x0_tapeSize x0_refused x1_lines g3 g5 x1_goods x1_works x1_years x0_gone x0_spent x0_at x0_token x0_from x0_figures x0_fault x0_numbers x0_statements x0_left x0_far x0_tons x0_way x0_steps x0_met x0_queue x0_totals, gridI d r0_line 20 7 g1, gridI d r0_good 8 3 g7, gridI d r0_work 7 5 g9, gMd d h1 a1_kept a1_tried a1_chosen r1_rows r1_line r1_good r1_work x1_shelf x1_rowSort x1_rowSize x1_moved x1_shown x1_tape x1_tapeSize x1_refused x1_lines x1_changes x1_coins x1_goods x1_works x1_years x1_gone x1_spent x1_at x1_token x1_from x1_figures x1_fault x1_numbers x1_statements x1_left x1_far x1_tons x1_way x1_steps x1_met x1_queue x1_totals, gridI d r1_line 20 7 x1_line, gridI d r1_good 8 3 x1_good, gridI d r1_work 7 5 x1_work]) hK fp_RX7_54 qd4_107.2.2.2.2.2.2.2.2.1 rfl 0 0 rfl rfl rfl rfl (Nat.le_of_ble_eq_true rfl) rfl rfl ?_
  refine J_aload_n hK qd4_107.2.2.2.2.2.2.2.2.2.1 rfl 0 rfl rfl ?_
  refine J_aload_n hK qd4_107.2.2.2.2.2.2.2.2.2.2.1 rfl 1 rfl rfl ?_
  refine J_get hK fo_RX7_334 qd4_107.2.2.2.2.2.2.2.2.2.2.2.1 rfl 4 0 rfl rfl rfl ?_
  refine J_put (g' := gMd d h0 a0_kept a0_tried a0_chosen r0_rows r0_line r0_good r0_work x0_shelf x0_rowSort x0_rowSize x0_moved x0_shown x0_tape x0_tapeSize x0_refused x1_lines g3 g5 x1_goods x1_works x1_years x1_gone x0_spent x0_at x0_token x0_from x0_figures x0_fault x0_numbers x0_statements x0_left x0_far x0_tons x0_way x0_steps x0_met x0_queue x0_totals) (gs' := [gMd d h0 a0_kept a0_tried a0_chosen r0_rows r0_line r0_good r0_work x0_shelf x0_rowSort x0_rowSize x0_moved x0_shown x0_tape x0_tapeSize x0_refused x1_lines g3 g5 x1_goods x1_works x1_years x1_gone x0_spent x0_at x0_token x0_from x0_figures x0_fault x0_numbers x0_statements x0_left x0_far x0_tons x0_way x0_steps x0_met x0_queue x0_totals, gridI d r0_line 20 7 g1, gridI d r0_good 8 3 g7, gridI d r0_work 7 5 g9, gMd d h1 a1_kept a1_tried a1_chosen r1_rows r1_line r1_good r1_work x1_shelf x1_rowSort x1_rowSize x1_moved x1_shown x1_tape x1_tapeSize x1_refused x1_lines x1_changes x1_coins x1_goods x1_works x1_years x1_gone x1_spent x1_at x1_token x1_from x1_figures x1_fault x1_numbers x1_statements x1_left x1_far x1_tons x1_way x1_steps x1_met x1_queue x1_totals, gridI d r1_line 20 7 x1_line, gridI d r1_good 8 3 x1_good, gridI d r1_work 7 5 x1_work]) hK fp_RX7_334 qd4_107.2.2.2.2.2.2.2.2.2.2.2.2.1 rfl 0 0 rfl rfl rfl rfl (Nat.le_of_ble_eq_true rfl) rfl rfl ?_
  refine J_aload_n hK qd4_107.2.2.2.2.2.2.2.2.2.2.2.2.2.1 rfl 0 rfl rfl ?_
  refine J_aload_n hK qd4_107.2.2.2.2.2.2.2.2.2.2.2.2.2.2.1 rfl 1 rfl rfl ?_
  refine J_get hK fo_RX7_337 qd4_107.2.2.2.2.2.2.2.2.2.2.2.2.2.2.2.1 rfl 4 0 rfl rfl rfl ?_
  refine J_put (g' := gMd d h0 a0_kept a0_tried a0_chosen r0_rows r0_line r0_good r0_work x0_shelf x0_rowSort x0_rowSize x0_moved x0_shown x0_tape x0_tapeSize x0_refused x1_lines g3 g5 x1_goods x1_works x1_years x1_gone x1_spent x0_at x0_token x0_from x0_figures x0_fault x0_numbers x0_statements x0_left x0_far x0_tons x0_way x0_steps x0_met x0_queue x0_totals) (gs' := [gMd d h0 a0_kept a0_tried a0_chosen r0_rows r0_line r0_good r0_work x0_shelf x0_rowSort x0_rowSize x0_moved x0_shown x0_tape x0_tapeSize x0_refused x1_lines g3 g5 x1_goods x1_works x1_years x1_gone x1_spent x0_at x0_token x0_from x0_figures x0_fault x0_numbers x0_statements x0_left x0_far x0_tons x0_way x0_steps x0_met x0_queue x0_totals, gridI d r0_line 20 7 g1, gridI d r0_good 8 3 g7, gridI d r0_work 7 5 g9, gMd d h1 a1_kept a1_tried a1_chosen r1_rows r1_line r1_good r1_work x1_shelf x1_rowSort x1_rowSize x1_moved x1_shown x1_tape x1_tapeSize x1_refused x1_lines x1_changes x1_coins x1_goods x1_works x1_years x1_gone x1_spent x1_at x1_token x1_from x1_figures x1_fault x1_numbers x1_statements x1_left x1_far x1_tons x1_way x1_steps x1_met x1_queue x1_totals, gridI d r1_line 20 7 x1_line, gridI d r1_good 8 3 x1_good, gridI d r1_work 7 5 x1_work]) hK fp_RX7_337 qd4_108.1 rfl 0 0 rfl rfl rfl rfl (Nat.le_of_ble_eq_true rfl) rfl rfl ?_
  obtain rfl := Option.some.inj hf
  exact J_vret hK hR qd4_108.2.1 () rfl (by decide) (by decide)

def fX7_fresh_j18 (n : Nat) (x0_shelf : (Nat → Int32)) (x0_rowSort : (Nat → Int32)) (x0_rowSize : (Nat → Int32)) (x0_rows : (Nat → Nat → Int64)) (x0_moved : (Nat → Int64)) (x0_shown : (Nat → Int32)) (x0_tape : (Nat → Int32)) (x0_tapeSize : Int32) (x0_refused : (Nat → Int32)) (x0_lines : Int32) (x0_line : (Nat → Nat → Int32)) (x0_changes : (Nat → Int32)) (x0_coins : (Nat → Int32)) (x0_goods : Int32) (x0_good : (Nat → Nat → Int32)) (x0_works : Int32) (x0_work : (Nat → Nat → Int32)) (x0_years : Int32) (x0_gone : Int32) (x0_spent : Int32) (x0_at : Int32) (x0_token : Int32) (x0_from : Int32) (x0_figures : Int64) (x0_fault : Int32) (x0_numbers : (Nat → Int32)) (x0_statements : Int32) (x0_left : (Nat → Int32)) (x0_far : (Nat → Int32)) (x0_tons : Int32) (x0_way : (Nat → Int32)) (x0_steps : Int32) (x0_met : Int64) (x0_queue : (Nat → Int32)) (x0_totals : (Nat → Int32)) (x1_shelf : (Nat → Int32)) (x1_rowSort : (Nat → Int32)) (x1_rowSize : (Nat → Int32)) (x1_rows : (Nat → Nat → Int64)) (x1_moved : (Nat → Int64)) (x1_shown : (Nat → Int32)) (x1_tape : (Nat → Int32)) (x1_tapeSize : Int32) (x1_refused : (Nat → Int32)) (x1_lines : Int32) (x1_line : (Nat → Nat → Int32)) (x1_changes : (Nat → Int32)) (x1_coins : (Nat → Int32)) (x1_goods : Int32) (x1_good : (Nat → Nat → Int32)) (x1_works : Int32) (x1_work : (Nat → Nat → Int32)) (x1_years : Int32) (x1_gone : Int32) (x1_spent : Int32) (x1_at : Int32) (x1_token : Int32) (x1_from : Int32) (x1_figures : Int64) (x1_fault : Int32) (x1_numbers : (Nat → Int32)) (x1_statements : Int32) (x1_left : (Nat → Int32)) (x1_far : (Nat → Int32)) (x1_tons : Int32) (x1_way : (Nat → Int32)) (x1_steps : Int32) (x1_met : Int64) (x1_queue : (Nat → Int32)) (x1_totals : (Nat → Int32)) : Option ((Int32 × (Nat → Nat → Int32) × (Nat → Int32) × (Nat → Int32) × Int32 × (Nat → Nat → Int32) × Int32 × (Nat → Nat → Int32) × Int32 × Int32 × Int32)) :=
  (fX7_takeFrom n (x1_shelf, x1_rowSort, x1_rowSize, x1_rows, x1_moved, x1_shown, x1_tape, x1_tapeSize, x1_refused, x1_lines, x1_line, x1_changes, x1_coins, x1_goods, x1_good, x1_works, x1_work, x1_years, x1_gone, x1_spent, x1_at, x1_token, x1_from, x1_figures, x1_fault, x1_numbers, x1_statements, x1_left, x1_far, x1_tons, x1_way, x1_steps, x1_met, x1_queue, x1_totals) (x0_shelf, x0_rowSort, x0_rowSize, x0_rows, x0_moved, x0_shown, x0_tape, x0_tapeSize, x0_refused, x0_lines, x0_line, x0_changes, x0_coins, x0_goods, x0_good, x0_works, x0_work, x0_years, x0_gone, x0_spent, x0_at, x0_token, x0_from, x0_figures, x0_fault, x0_numbers, x0_statements, x0_left, x0_far, x0_tons, x0_way, x0_steps, x0_met, x0_queue, x0_totals)).bind (fun G1 => u11 (fun g2 g3 g4 g5 g6 g7 g8 g9 g10 g11 g12 => some (g2, g3, g4, g5, g6, g7, g8, g9, g10, g11, g12)) G1)
def fX7_fresh (n : Nat) (X0 : MdT) (X1 : MdT) : Option ((Int32 × (Nat → Nat → Int32) × (Nat → Int32) × (Nat → Int32) × Int32 × (Nat → Nat → Int32) × Int32 × (Nat → Nat → Int32) × Int32 × Int32 × Int32)) :=
  u35 (fun (x0_shelf : (Nat → Int32)) (x0_rowSort : (Nat → Int32)) (x0_rowSize : (Nat → Int32)) (x0_rows : (Nat → Nat → Int64)) (x0_moved : (Nat → Int64)) (x0_shown : (Nat → Int32)) (x0_tape : (Nat → Int32)) (x0_tapeSize : Int32) (x0_refused : (Nat → Int32)) (x0_lines : Int32) (x0_line : (Nat → Nat → Int32)) (x0_changes : (Nat → Int32)) (x0_coins : (Nat → Int32)) (x0_goods : Int32) (x0_good : (Nat → Nat → Int32)) (x0_works : Int32) (x0_work : (Nat → Nat → Int32)) (x0_years : Int32) (x0_gone : Int32) (x0_spent : Int32) (x0_at : Int32) (x0_token : Int32) (x0_from : Int32) (x0_figures : Int64) (x0_fault : Int32) (x0_numbers : (Nat → Int32)) (x0_statements : Int32) (x0_left : (Nat → Int32)) (x0_far : (Nat → Int32)) (x0_tons : Int32) (x0_way : (Nat → Int32)) (x0_steps : Int32) (x0_met : Int64) (x0_queue : (Nat → Int32)) (x0_totals : (Nat → Int32)) => u35 (fun (x1_shelf : (Nat → Int32)) (x1_rowSort : (Nat → Int32)) (x1_rowSize : (Nat → Int32)) (x1_rows : (Nat → Nat → Int64)) (x1_moved : (Nat → Int64)) (x1_shown : (Nat → Int32)) (x1_tape : (Nat → Int32)) (x1_tapeSize : Int32) (x1_refused : (Nat → Int32)) (x1_lines : Int32) (x1_line : (Nat → Nat → Int32)) (x1_changes : (Nat → Int32)) (x1_coins : (Nat → Int32)) (x1_goods : Int32) (x1_good : (Nat → Nat → Int32)) (x1_works : Int32) (x1_work : (Nat → Nat → Int32)) (x1_years : Int32) (x1_gone : Int32) (x1_spent : Int32) (x1_at : Int32) (x1_token : Int32) (x1_from : Int32) (x1_figures : Int64) (x1_fault : Int32) (x1_numbers : (Nat → Int32)) (x1_statements : Int32) (x1_left : (Nat → Int32)) (x1_far : (Nat → Int32)) (x1_tons : Int32) (x1_way : (Nat → Int32)) (x1_steps : Int32) (x1_met : Int64) (x1_queue : (Nat → Int32)) (x1_totals : (Nat → Int32)) => fX7_fresh_j18 n x0_shelf x0_rowSort x0_rowSize x0_rows x0_moved x0_shown x0_tape x0_tapeSize x0_refused x0_lines x0_line x0_changes x0_coins x0_goods x0_good x0_works x0_work x0_years x0_gone x0_spent x0_at x0_token x0_from x0_figures x0_fault x0_numbers x0_statements x0_left x0_far x0_tons x0_way x0_steps x0_met x0_queue x0_totals x1_shelf x1_rowSort x1_rowSize x1_rows x1_moved x1_shown x1_tape x1_tapeSize x1_refused x1_lines x1_line x1_changes x1_coins x1_goods x1_good x1_works x1_work x1_years x1_gone x1_spent x1_at x1_token x1_from x1_figures x1_fault x1_numbers x1_statements x1_left x1_far x1_tons x1_way x1_steps x1_met x1_queue x1_totals) X1) X0
set_option maxHeartbeats 4000000 in
set_option maxRecDepth 100000 in
theorem kX7_fresh (l : Launch) (d : DT) (h0 : Nat → Nat) (r0_rows : Nat → Nat) (r0_line : Nat → Nat) (r0_good : Nat → Nat) (r0_work : Nat → Nat) (a0_kept : Option Nat) (a0_chosen : Option Nat) (h1 : Nat → Nat) (r1_rows : Nat → Nat) (r1_line : Nat → Nat) (r1_good : Nat → Nat) (r1_work : Nat → Nat) (a1_kept : Option Nat) (a1_tried : Option Nat) (a1_chosen : Option Nat) (n : Nat) (x0_shelf : (Nat → Int32)) (x0_rowSort : (Nat → Int32)) (x0_rowSize : (Nat → Int32)) (x0_rows : (Nat → Nat → Int64)) (x0_moved : (Nat → Int64)) (x0_shown : (Nat → Int32)) (x0_tape : (Nat → Int32)) (x0_tapeSize : Int32) (x0_refused : (Nat → Int32)) (x0_lines : Int32) (x0_line : (Nat → Nat → Int32)) (x0_changes : (Nat → Int32)) (x0_coins : (Nat → Int32)) (x0_goods : Int32) (x0_good : (Nat → Nat → Int32)) (x0_works : Int32) (x0_work : (Nat → Nat → Int32)) (x0_years : Int32) (x0_gone : Int32) (x0_spent : Int32) (x0_at : Int32) (x0_token : Int32) (x0_from : Int32) (x0_figures : Int64) (x0_fault : Int32) (x0_numbers : (Nat → Int32)) (x0_statements : Int32) (x0_left : (Nat → Int32)) (x0_far : (Nat → Int32)) (x0_tons : Int32) (x0_way : (Nat → Int32)) (x0_steps : Int32) (x0_met : Int64) (x0_queue : (Nat → Int32)) (x0_totals : (Nat → Int32)) (x1_shelf : (Nat → Int32)) (x1_rowSort : (Nat → Int32)) (x1_rowSize : (Nat → Int32)) (x1_rows : (Nat → Nat → Int64)) (x1_moved : (Nat → Int64)) (x1_shown : (Nat → Int32)) (x1_tape : (Nat → Int32)) (x1_tapeSize : Int32) (x1_refused : (Nat → Int32)) (x1_lines : Int32) (x1_line : (Nat → Nat → Int32)) (x1_changes : (Nat → Int32)) (x1_coins : (Nat → Int32)) (x1_goods : Int32) (x1_good : (Nat → Nat → Int32)) (x1_works : Int32) (x1_work : (Nat → Nat → Int32)) (x1_years : Int32) (x1_gone : Int32) (x1_spent : Int32) (x1_at : Int32) (x1_token : Int32) (x1_from : Int32) (x1_figures : Int64) (x1_fault : Int32) (x1_numbers : (Nat → Int32)) (x1_statements : Int32) (x1_left : (Nat → Int32)) (x1_far : (Nat → Int32)) (x1_tons : Int32) (x1_way : (Nat → Int32)) (x1_steps : Int32) (x1_met : Int64) (x1_queue : (Nat → Int32)) (x1_totals : (Nat → Int32))  {out : (Int32 × (Nat → Nat → Int32) × (Nat → Int32) × (Nat → Int32) × Int32 × (Nat → Nat → Int32) × Int32 × (Nat → Nat → Int32) × Int32 × Int32 × Int32)} (hf : fX7_fresh n (x0_shelf, x0_rowSort, x0_rowSize, x0_rows, x0_moved, x0_shown, x0_tape, x0_tapeSize, x0_refused, x0_lines, x0_line, x0_changes, x0_coins, x0_goods, x0_good, x0_works, x0_work, x0_years, x0_gone, x0_spent, x0_at, x0_token, x0_from, x0_figures, x0_fault, x0_numbers, x0_statements, x0_left, x0_far, x0_tons, x0_way, x0_steps, x0_met, x0_queue, x0_totals) (x1_shelf, x1_rowSort, x1_rowSize, x1_rows, x1_moved, x1_shown, x1_tape, x1_tapeSize, x1_refused, x1_lines, x1_line, x1_changes, x1_coins, x1_goods, x1_good, x1_works, x1_work, x1_years, x1_gone, x1_spent, x1_at, x1_token, x1_from, x1_figures, x1_fault, x1_numbers, x1_statements, x1_left, x1_far, x1_tons, x1_way, x1_steps, x1_met, x1_queue, x1_totals) = some out) : Ct l d yX7_fresh cX7_fresh 1 (some (.object "TwoWidthsModel")) { frames := 3, cells := 0, slots := 0, locals := 65 } [.ref (h0 0)] [gMd d h0 a0_kept (some (h1 0)) a0_chosen r0_rows r0_line r0_good r0_work x0_shelf x0_rowSort x0_rowSize x0_moved x0_shown x0_tape x0_tapeSize x0_refused x0_lines x0_changes x0_coins x0_goods x0_works x0_years x0_gone x0_spent x0_at x0_token x0_from x0_figures x0_fault x0_numbers x0_statements x0_left x0_far x0_tons x0_way x0_steps x0_met x0_queue x0_totals, gridI d r0_line 20 7 x0_line, gridI d r0_good 8 3 x0_good, gridI d r0_work 7 5 x0_work, gMd d h1 a1_kept a1_tried a1_chosen r1_rows r1_line r1_good r1_work x1_shelf x1_rowSort x1_rowSize x1_moved x1_shown x1_tape x1_tapeSize x1_refused x1_lines x1_changes x1_coins x1_goods x1_works x1_years x1_gone x1_spent x1_at x1_token x1_from x1_figures x1_fault x1_numbers x1_statements x1_left x1_far x1_tons x1_way x1_steps x1_met x1_queue x1_totals, gridI d r1_line 20 7 x1_line, gridI d r1_good 8 3 x1_good, gridI d r1_work 7 5 x1_work] (fun _ : Unit => (some (.ref (h1 0)), [gMd d h0 a0_kept (some (h1 0)) a0_chosen r0_rows r0_line r0_good r0_work x0_shelf x0_rowSort x0_rowSize x0_moved x0_shown x0_tape x0_tapeSize x0_refused x0_lines x0_changes x0_coins x0_goods x0_works x0_years x0_gone x0_spent x0_at x0_token x0_from x0_figures x0_fault x0_numbers x0_statements x0_left x0_far x0_tons x0_way x0_steps x0_met x0_queue x0_totals, gridI d r0_line 20 7 x0_line, gridI d r0_good 8 3 x0_good, gridI d r0_work 7 5 x0_work, gMd d h1 a1_kept a1_tried a1_chosen r1_rows r1_line r1_good r1_work x1_shelf x1_rowSort x1_rowSize x1_moved x1_shown x1_tape x1_tapeSize x1_refused (out.1) (out.2.2.1) (out.2.2.2.1) (out.2.2.2.2.1) (out.2.2.2.2.2.2.1) (out.2.2.2.2.2.2.2.2.1) (out.2.2.2.2.2.2.2.2.2.1) (out.2.2.2.2.2.2.2.2.2.2) x1_at x1_token x1_from x1_figures x1_fault x1_numbers x1_statements x1_left x1_far x1_tons x1_way x1_steps x1_met x1_queue x1_totals, gridI d r1_line 20 7 (out.2.1), gridI d r1_good 8 3 (out.2.2.2.2.2.1), gridI d r1_work 7 5 (out.2.2.2.2.2.2.2.1)])) := by
  refine Ct.of (by decide) (Nat.le_of_ble_eq_true rfl) ?_
  intro Φ hl hK hR
  subst hl
  have hK : Ok d Φ RX7 "fresh" cX7_fresh 1 (some (.object "TwoWidthsModel")) { frames := 3, cells := 0, slots := 0, locals := 65 } := hK
  unfold fX7_fresh at hf
  have hf := un35 hf
  have hf := un35 hf
  show J d Φ 1 [gMd d h0 a0_kept (some (h1 0)) a0_chosen r0_rows r0_line r0_good r0_work x0_shelf x0_rowSort x0_rowSize x0_moved x0_shown x0_tape x0_tapeSize x0_refused x0_lines x0_changes x0_coins x0_goods x0_works x0_years x0_gone x0_spent x0_at x0_token x0_from x0_figures x0_fault x0_numbers x0_statements x0_left x0_far x0_tons x0_way x0_steps x0_met x0_queue x0_totals, gridI d r0_line 20 7 x0_line, gridI d r0_good 8 3 x0_good, gridI d r0_work 7 5 x0_work, gMd d h1 a1_kept a1_tried a1_chosen r1_rows r1_line r1_good r1_work x1_shelf x1_rowSort x1_rowSize x1_moved x1_shown x1_tape x1_tapeSize x1_refused x1_lines x1_changes x1_coins x1_goods x1_works x1_years x1_gone x1_spent x1_at x1_token x1_from x1_figures x1_fault x1_numbers x1_statements x1_left x1_far x1_tons x1_way x1_steps x1_met x1_queue x1_totals, gridI d r1_line 20 7 x1_line, gridI d r1_good 8 3 x1_good, gridI d r1_work 7 5 x1_work] 0 0 0 [(0, .ref (h0 0))] []
  refine J_aload_n hK qd4_30.1 rfl 0 rfl rfl ?_
  refine J_get (v := .ref (h1 0)) hK fo_RX7_291 qd4_30.2.1 rfl 0 0 rfl rfl rfl ?_
  have j18 : fX7_fresh_j18 n x0_shelf x0_rowSort x0_rowSize x0_rows x0_moved x0_shown x0_tape x0_tapeSize x0_refused x0_lines x0_line x0_changes x0_coins x0_goods x0_good x0_works x0_work x0_years x0_gone x0_spent x0_at x0_token x0_from x0_figures x0_fault x0_numbers x0_statements x0_left x0_far x0_tons x0_way x0_steps x0_met x0_queue x0_totals x1_shelf x1_rowSort x1_rowSize x1_rows x1_moved x1_shown x1_tape x1_tapeSize x1_refused x1_lines x1_line x1_changes x1_coins x1_goods x1_good x1_works x1_work x1_years x1_gone x1_spent x1_at x1_token x1_from x1_figures x1_fault x1_numbers x1_statements x1_left x1_far x1_tons x1_way x1_steps x1_met x1_queue x1_totals = some out → J d Φ 1 [gMd d h0 a0_kept (some (h1 0)) a0_chosen r0_rows r0_line r0_good r0_work x0_shelf x0_rowSort x0_rowSize x0_moved x0_shown x0_tape x0_tapeSize x0_refused x0_lines x0_changes x0_coins x0_goods x0_works x0_years x0_gone x0_spent x0_at x0_token x0_from x0_figures x0_fault x0_numbers x0_statements x0_left x0_far x0_tons x0_way x0_steps x0_met x0_queue x0_totals, gridI d r0_line 20 7 x0_line, gridI d r0_good 8 3 x0_good, gridI d r0_work 7 5 x0_work, gMd d h1 a1_kept a1_tried a1_chosen r1_rows r1_line r1_good r1_work x1_shelf x1_rowSort x1_rowSize x1_moved x1_shown x1_tape x1_tapeSize x1_refused x1_lines x1_changes x1_coins x1_goods x1_works x1_years x1_gone x1_spent x1_at x1_token x1_from x1_figures x1_fault x1_numbers x1_statements x1_left x1_far x1_tons x1_way x1_steps x1_met x1_queue x1_totals, gridI d r1_line 20 7 x1_line, gridI d r1_good 8 3 x1_good, gridI d r1_work 7 5 x1_work] 0 0 18 [(0, .ref (h0 0))] [] := by
    intro  hf
    unfold fX7_fresh_j18 at hf
    refine J_aload_n hK qd4_30.2.2.2.2.2.2.2.2.1 rfl 0 rfl rfl ?_
    refine J_get (v := .ref (h1 0)) hK fo_RX7_291 qd4_30.2.2.2.2.2.2.2.2.2.1 rfl 0 0 rfl rfl rfl ?_
    refine J_aload_n hK qd4_30.2.2.2.2.2.2.2.2.2.2.1 rfl 0 rfl rfl ?_
    obtain ⟨⟨g2, g3, g4, g5, g6, g7, g8, g9, g10, g11, g12⟩, e13, hf⟩ := bs hf
    have hf := un11 hf
    refine J_callV (m := 8) (m' := 8) (ce' := 0) (sl' := 0) (gr := []) (gs' := fun _ => [gMd d h0 a0_kept (some (h1 0)) a0_chosen r0_rows r0_line r0_good r0_work x0_shelf x0_rowSort x0_rowSize x0_moved x0_shown x0_tape x0_tapeSize x0_refused x0_lines x0_changes x0_coins x0_goods x0_works x0_years x0_gone x0_spent x0_at x0_token x0_from x0_figures x0_fault x0_numbers x0_statements x0_left x0_far x0_tons x0_way x0_steps x0_met x0_queue x0_totals, gridI d r0_line 20 7 x0_line, gridI d r0_good 8 3 x0_good, gridI d r0_work 7 5 x0_work, gMd d h1 a1_kept a1_tried a1_chosen r1_rows r1_line r1_good r1_work x1_shelf x1_rowSort x1_rowSize x1_moved x1_shown x1_tape x1_tapeSize x1_refused g2 g4 g5 g6 g8 g10 g11 g12 x1_at x1_token x1_from x1_figures x1_fault x1_numbers x1_statements x1_left x1_far x1_tons x1_way x1_steps x1_met x1_queue x1_totals, gridI d r1_line 20 7 g3, gridI d r1_good 8 3 g7, gridI d r1_work 7 5 g9]) (st' := fun _ => []) (st := []) hK qd4_30.2.2.2.2.2.2.2.2.2.2.2.1 cv_RX7_245 iv_yX7_takeFrom (As := [.ref (h0 0)]) (kX7_takeFrom _ d h1 r1_rows r1_line r1_good r1_work a1_kept a1_tried a1_chosen h0 r0_rows r0_line r0_good r0_work a0_kept (some (h1 0)) a0_chosen n x1_shelf x1_rowSort x1_rowSize x1_rows x1_moved x1_shown x1_tape x1_tapeSize x1_refused x1_lines x1_line x1_changes x1_coins x1_goods x1_good x1_works x1_work x1_years x1_gone x1_spent x1_at x1_token x1_from x1_figures x1_fault x1_numbers x1_statements x1_left x1_far x1_tons x1_way x1_steps x1_met x1_queue x1_totals x0_shelf x0_rowSort x0_rowSize x0_rows x0_moved x0_shown x0_tape x0_tapeSize x0_refused x0_lines x0_line x0_changes x0_coins x0_goods x0_good x0_works x0_work x0_years x0_gone x0_spent x0_at x0_token x0_from x0_figures x0_fault x0_numbers x0_statements x0_left x0_far x0_tons x0_way x0_steps x0_met x0_queue x0_totals e13) rfl rfl (Nat.le_of_ble_eq_true rfl) (by decide) 4 0 rfl rfl rfl [4, 5, 6, 7, 0, 1, 2, 3] [] rfl (by decide +kernel) rfl rfl [4, 5, 6, 7, 0, 1, 2, 3] (by decide +kernel) (fun _ => rfl) (fun _ => rfl) rfl rfl rfl (fun _ => rfl) (fun _ => ?_)
    refine J_aload_n hK qd4_30.2.2.2.2.2.2.2.2.2.2.2.2.1 rfl 0 rfl rfl ?_
    refine J_get (v := .ref (h1 0)) hK fo_RX7_291 qd4_30.2.2.2.2.2.2.2.2.2.2.2.2.2.1 rfl 0 0 rfl rfl rfl ?_
    obtain rfl := Option.some.inj hf
    exact J_aret hK hR qd4_30.2.2.2.2.2.2.2.2.2.2.2.2.2.2.1 () rfl (by decide) (by decide)
  refine J_ifnonnull (n := 18) hK qd4_30.2.2.1 rfl ?_
  exact (j18  hf)
end
section
def fX7_land (n : Nat) (X0 : MdT) (X1 : MdT) : Option (Int32 × (Int32 × (Nat → Int32) × Int32 × (Nat → Nat → Int32) × (Nat → Int32) × (Nat → Int32) × Int32 × (Nat → Nat → Int32) × Int32 × (Nat → Nat → Int32) × Int32 × Int32 × Int32 × Int32 × Int32 × Int32 × Int64 × Int32 × (Nat → Int32) × Int32) × (Int32 × (Nat → Nat → Int32) × (Nat → Int32) × (Nat → Int32) × Int32 × (Nat → Nat → Int32) × Int32 × (Nat → Nat → Int32) × Int32 × Int32 × Int32)) :=
  u35 (fun (x0_shelf : (Nat → Int32)) (x0_rowSort : (Nat → Int32)) (x0_rowSize : (Nat → Int32)) (x0_rows : (Nat → Nat → Int64)) (x0_moved : (Nat → Int64)) (x0_shown : (Nat → Int32)) (x0_tape : (Nat → Int32)) (x0_tapeSize : Int32) (x0_refused : (Nat → Int32)) (x0_lines : Int32) (x0_line : (Nat → Nat → Int32)) (x0_changes : (Nat → Int32)) (x0_coins : (Nat → Int32)) (x0_goods : Int32) (x0_good : (Nat → Nat → Int32)) (x0_works : Int32) (x0_work : (Nat → Nat → Int32)) (x0_years : Int32) (x0_gone : Int32) (x0_spent : Int32) (x0_at : Int32) (x0_token : Int32) (x0_from : Int32) (x0_figures : Int64) (x0_fault : Int32) (x0_numbers : (Nat → Int32)) (x0_statements : Int32) (x0_left : (Nat → Int32)) (x0_far : (Nat → Int32)) (x0_tons : Int32) (x0_way : (Nat → Int32)) (x0_steps : Int32) (x0_met : Int64) (x0_queue : (Nat → Int32)) (x0_totals : (Nat → Int32)) => u35 (fun (x1_shelf : (Nat → Int32)) (x1_rowSort : (Nat → Int32)) (x1_rowSize : (Nat → Int32)) (x1_rows : (Nat → Nat → Int64)) (x1_moved : (Nat → Int64)) (x1_shown : (Nat → Int32)) (x1_tape : (Nat → Int32)) (x1_tapeSize : Int32) (x1_refused : (Nat → Int32)) (x1_lines : Int32) (x1_line : (Nat → Nat → Int32)) (x1_changes : (Nat → Int32)) (x1_coins : (Nat → Int32)) (x1_goods : Int32) (x1_good : (Nat → Nat → Int32)) (x1_works : Int32) (x1_work : (Nat → Nat → Int32)) (x1_years : Int32) (x1_gone : Int32) (x1_spent : Int32) (x1_at : Int32) (x1_token : Int32) (x1_from : Int32) (x1_figures : Int64) (x1_fault : Int32) (x1_numbers : (Nat → Int32)) (x1_statements : Int32) (x1_left : (Nat → Int32)) (x1_far : (Nat → Int32)) (x1_tons : Int32) (x1_way : (Nat → Int32)) (x1_steps : Int32) (x1_met : Int64) (x1_queue : (Nat → Int32)) (x1_totals : (Nat → Int32)) => (fX7_fresh n (x0_shelf, x0_rowSort, x0_rowSize, x0_rows, x0_moved, x0_shown, x0_tape, x0_tapeSize, x0_refused, x0_lines, x0_line, x0_changes, x0_coins, x0_goods, x0_good, x0_works, x0_work, x0_years, x0_gone, x0_spent, x0_at, x0_token, x0_from, x0_figures, x0_fault, x0_numbers, x0_statements, x0_left, x0_far, x0_tons, x0_way, x0_steps, x0_met, x0_queue, x0_totals) (x1_shelf, x1_rowSort, x1_rowSize, x1_rows, x1_moved, x1_shown, x1_tape, x1_tapeSize, x1_refused, x1_lines, x1_line, x1_changes, x1_coins, x1_goods, x1_good, x1_works, x1_work, x1_years, x1_gone, x1_spent, x1_at, x1_token, x1_from, x1_figures, x1_fault, x1_numbers, x1_statements, x1_left, x1_far, x1_tons, x1_way, x1_steps, x1_met, x1_queue, x1_totals)).bind (fun G1 => u11 (fun g2 g3 g4 g5 g6 g7 g8 g9 g10 g11 g12 => (fX7_read n (x0_shelf, x0_rowSort, x0_rowSize, x0_rows, x0_moved, x0_shown, x0_tape, x0_tapeSize, x0_refused, x0_lines, x0_line, x0_changes, x0_coins, x0_goods, x0_good, x0_works, x0_work, x0_years, x0_gone, x0_spent, x0_at, x0_token, x0_from, x0_figures, x0_fault, x0_numbers, x0_statements, x0_left, x0_far, x0_tons, x0_way, x0_steps, x0_met, x0_queue, x0_totals)).bind (u2 fun v14 G15 => u16 (fun g16 g17 g18 g19 g20 g21 g22 g23 g24 g25 g26 g27 g28 g29 g30 g31 => if v14 = 0 then ((fX7_takeFrom n (x0_shelf, x0_rowSort, x0_rowSize, x0_rows, x0_moved, x0_shown, x0_tape, 0, x0_refused, g16, g17, g18, g19, g20, g21, g22, g23, g24, x0_gone, x0_spent, g25, g26, g27, g28, g29, g30, g31, x0_left, x0_far, x0_tons, x0_way, x0_steps, x0_met, x0_queue, x0_totals) (x1_shelf, x1_rowSort, x1_rowSize, x1_rows, x1_moved, x1_shown, x1_tape, x1_tapeSize, x1_refused, g2, g3, g4, g5, g6, g7, g8, g9, g10, g11, g12, x1_at, x1_token, x1_from, x1_figures, x1_fault, x1_numbers, x1_statements, x1_left, x1_far, x1_tons, x1_way, x1_steps, x1_met, x1_queue, x1_totals)).bind (fun G33 => u11 (fun g34 g35 g36 g37 g38 g39 g40 g41 g42 g43 g44 => (fX7_refuse (x0_shelf, x0_rowSort, x0_rowSize, x0_rows, x0_moved, x0_shown, x0_tape, 0, x0_refused, g34, g35, g36, g37, g38, g39, g40, g41, g42, g43, g44, g25, g26, g27, g28, g29, g30, g31, x0_left, x0_far, x0_tons, x0_way, x0_steps, x0_met, x0_queue, x0_totals) (-2)).bind (u2 fun v46 g47 => some (((-20) - g29), (0, g47, g34, g35, g36, g37, g38, g39, g40, g41, g42, g43, g44, g25, g26, g27, g28, g29, g30, g31), (g2, g3, g4, g5, g6, g7, g8, g9, g10, g11, g12)))) G33)) else (some (g31, (0, x0_refused, g16, g17, g18, g19, g20, g21, g22, g23, g24, x0_gone, x0_spent, g25, g26, g27, g28, g29, g30, g31), (g2, g3, g4, g5, g6, g7, g8, g9, g10, g11, g12)))) G15)) G1)) X1) X0
set_option maxHeartbeats 4000000 in
set_option maxRecDepth 100000 in
theorem kX7_land (l : Launch) (d : DT) (h0 : Nat → Nat) (r0_rows : Nat → Nat) (r0_line : Nat → Nat) (r0_good : Nat → Nat) (r0_work : Nat → Nat) (a0_kept : Option Nat) (a0_chosen : Option Nat) (h1 : Nat → Nat) (r1_rows : Nat → Nat) (r1_line : Nat → Nat) (r1_good : Nat → Nat) (r1_work : Nat → Nat) (a1_kept : Option Nat) (a1_tried : Option Nat) (a1_chosen : Option Nat) (n : Nat) (x0_shelf : (Nat → Int32)) (x0_rowSort : (Nat → Int32)) (x0_rowSize : (Nat → Int32)) (x0_rows : (Nat → Nat → Int64)) (x0_moved : (Nat → Int64)) (x0_shown : (Nat → Int32)) (x0_tape : (Nat → Int32)) (x0_tapeSize : Int32) (x0_refused : (Nat → Int32)) (x0_lines : Int32) (x0_line : (Nat → Nat → Int32)) (x0_changes : (Nat → Int32)) (x0_coins : (Nat → Int32)) (x0_goods : Int32) (x0_good : (Nat → Nat → Int32)) (x0_works : Int32) (x0_work : (Nat → Nat → Int32)) (x0_years : Int32) (x0_gone : Int32) (x0_spent : Int32) (x0_at : Int32) (x0_token : Int32) (x0_from : Int32) (x0_figures : Int64) (x0_fault : Int32) (x0_numbers : (Nat → Int32)) (x0_statements : Int32) (x0_left : (Nat → Int32)) (x0_far : (Nat → Int32)) (x0_tons : Int32) (x0_way : (Nat → Int32)) (x0_steps : Int32) (x0_met : Int64) (x0_queue : (Nat → Int32)) (x0_totals : (Nat → Int32)) (x1_shelf : (Nat → Int32)) (x1_rowSort : (Nat → Int32)) (x1_rowSize : (Nat → Int32)) (x1_rows : (Nat → Nat → Int64)) (x1_moved : (Nat → Int64)) (x1_shown : (Nat → Int32)) (x1_tape : (Nat → Int32)) (x1_tapeSize : Int32) (x1_refused : (Nat → Int32)) (x1_lines : Int32) (x1_line : (Nat → Nat → Int32)) (x1_changes : (Nat → Int32)) (x1_coins : (Nat → Int32)) (x1_goods : Int32) (x1_good : (Nat → Nat → Int32)) (x1_works : Int32) (x1_work : (Nat → Nat → Int32)) (x1_years : Int32) (x1_gone : Int32) (x1_spent : Int32) (x1_at : Int32) (x1_token : Int32) (x1_from : Int32) (x1_figures : Int64) (x1_fault : Int32) (x1_numbers : (Nat → Int32)) (x1_statements : Int32) (x1_left : (Nat → Int32)) (x1_far : (Nat → Int32)) (x1_tons : Int32) (x1_way : (Nat → Int32)) (x1_steps : Int32) (x1_met : Int64) (x1_queue : (Nat → Int32)) (x1_totals : (Nat → Int32))  {out : Int32 × (Int32 × (Nat → Int32) × Int32 × (Nat → Nat → Int32) × (Nat → Int32) × (Nat → Int32) × Int32 × (Nat → Nat → Int32) × Int32 × (Nat → Nat → Int32) × Int32 × Int32 × Int32 × Int32 × Int32 × Int32 × Int64 × Int32 × (Nat → Int32) × Int32) × (Int32 × (Nat → Nat → Int32) × (Nat → Int32) × (Nat → Int32) × Int32 × (Nat → Nat → Int32) × Int32 × (Nat → Nat → Int32) × Int32 × Int32 × Int32)} (hf : fX7_land n (x0_shelf, x0_rowSort, x0_rowSize, x0_rows, x0_moved, x0_shown, x0_tape, x0_tapeSize, x0_refused, x0_lines, x0_line, x0_changes, x0_coins, x0_goods, x0_good, x0_works, x0_work, x0_years, x0_gone, x0_spent, x0_at, x0_token, x0_from, x0_figures, x0_fault, x0_numbers, x0_statements, x0_left, x0_far, x0_tons, x0_way, x0_steps, x0_met, x0_queue, x0_totals) (x1_shelf, x1_rowSort, x1_rowSize, x1_rows, x1_moved, x1_shown, x1_tape, x1_tapeSize, x1_refused, x1_lines, x1_line, x1_changes, x1_coins, x1_goods, x1_good, x1_works, x1_work, x1_years, x1_gone, x1_spent, x1_at, x1_token, x1_from, x1_figures, x1_fault, x1_numbers, x1_statements, x1_left, x1_far, x1_tons, x1_way, x1_steps, x1_met, x1_queue, x1_totals) = some out) : Ct l d yX7_land cX7_land 3 (some .int) { frames := 9, cells := 0, slots := 0, locals := 198 } [.ref (h0 0)] [gMd d h0 a0_kept (some (h1 0)) a0_chosen r0_rows r0_line r0_good r0_work x0_shelf x0_rowSort x0_rowSize x0_moved x0_shown x0_tape x0_tapeSize x0_refused x0_lines x0_changes x0_coins x0_goods x0_works x0_years x0_gone x0_spent x0_at x0_token x0_from x0_figures x0_fault x0_numbers x0_statements x0_left x0_far x0_tons x0_way x0_steps x0_met x0_queue x0_totals, gridI d r0_line 20 7 x0_line, gridI d r0_good 8 3 x0_good, gridI d r0_work 7 5 x0_work, gMd d h1 a1_kept a1_tried a1_chosen r1_rows r1_line r1_good r1_work x1_shelf x1_rowSort x1_rowSize x1_moved x1_shown x1_tape x1_tapeSize x1_refused x1_lines x1_changes x1_coins x1_goods x1_works x1_years x1_gone x1_spent x1_at x1_token x1_from x1_figures x1_fault x1_numbers x1_statements x1_left x1_far x1_tons x1_way x1_steps x1_met x1_queue x1_totals, gridI d r1_line 20 7 x1_line, gridI d r1_good 8 3 x1_good, gridI d r1_work 7 5 x1_work] (fun _ : Unit => (some (.int out.1), [gMd d h0 a0_kept (some (h1 0)) a0_chosen r0_rows r0_line r0_good r0_work x0_shelf x0_rowSort x0_rowSize x0_moved x0_shown x0_tape (out.2.1.1) (out.2.1.2.1) (out.2.1.2.2.1) (out.2.1.2.2.2.2.1) (out.2.1.2.2.2.2.2.1) (out.2.1.2.2.2.2.2.2.1) (out.2.1.2.2.2.2.2.2.2.2.1) (out.2.1.2.2.2.2.2.2.2.2.2.2.1) (out.2.1.2.2.2.2.2.2.2.2.2.2.2.1) (out.2.1.2.2.2.2.2.2.2.2.2.2.2.2.1) (out.2.1.2.2.2.2.2.2.2.2.2.2.2.2.2.1) (out.2.1.2.2.2.2.2.2.2.2.2.2.2.2.2.2.1) (out.2.1.2.2.2.2.2.2.2.2.2.2.2.2.2.2.2.1) (out.2.1.2.2.2.2.2.2.2.2.2.2.2.2.2.2.2.2.1) (out.2.1.2.2.2.2.2.2.2.2.2.2.2.2.2.2.2.2.2.1) (out.2.1.2.2.2.2.2.2.2.2.2.2.2.2.2.2.2.2.2.2.1) (out.2.1.2.2.2.2.2.2.2.2.2.2.2.2.2.2.2.2.2.2.2) x0_left x0_far x0_tons x0_way x0_steps x0_met x0_queue x0_totals, gridI d r0_line 20 7 (out.2.1.2.2.2.1), gridI d r0_good 8 3 (out.2.1.2.2.2.2.2.2.2.1), gridI d r0_work 7 5 (out.2.1.2.2.2.2.2.2.2.2.2.1), gMd d h1 a1_kept a1_tried a1_chosen r1_rows r1_line r1_good r1_work x1_shelf x1_rowSort x1_rowSize x1_moved x1_shown x1_tape x1_tapeSize x1_refused (out.2.2.1) (out.2.2.2.2.1) (out.2.2.2.2.2.1) (out.2.2.2.2.2.2.1) (out.2.2.2.2.2.2.2.2.1) (out.2.2.2.2.2.2.2.2.2.2.1) (out.2.2.2.2.2.2.2.2.2.2.2.1) (out.2.2.2.2.2.2.2.2.2.2.2.2) x1_at x1_token x1_from x1_figures x1_fault x1_numbers x1_statements x1_left x1_far x1_tons x1_way x1_steps x1_met x1_queue x1_totals, gridI d r1_line 20 7 (out.2.2.2.1), gridI d r1_good 8 3 (out.2.2.2.2.2.2.2.1), gridI d r1_work 7 5 (out.2.2.2.2.2.2.2.2.2.1)])) := by
  refine Ct.of (by decide) (Nat.le_of_ble_eq_true rfl) ?_
  intro Φ hl hK hR
  subst hl
  have hK : Ok d Φ RX7 "land" cX7_land 3 (some .int) { frames := 9, cells := 0, slots := 0, locals := 198 } := hK
  unfold fX7_land at hf
  have hf := un35 hf
  have hf := un35 hf
  show J d Φ 3 [gMd d h0 a0_kept (some (h1 0)) a0_chosen r0_rows r0_line r0_good r0_work x0_shelf x0_rowSort x0_rowSize x0_moved x0_shown x0_tape x0_tapeSize x0_refused x0_lines x0_changes x0_coins x0_goods x0_works x0_years x0_gone x0_spent x0_at x0_token x0_from x0_figures x0_fault x0_numbers x0_statements x0_left x0_far x0_tons x0_way x0_steps x0_met x0_queue x0_totals, gridI d r0_line 20 7 x0_line, gridI d r0_good 8 3 x0_good, gridI d r0_work 7 5 x0_work, gMd d h1 a1_kept a1_tried a1_chosen r1_rows r1_line r1_good r1_work x1_shelf x1_rowSort x1_rowSize x1_moved x1_shown x1_tape x1_tapeSize x1_refused x1_lines x1_changes x1_coins x1_goods x1_works x1_years x1_gone x1_spent x1_at x1_token x1_from x1_figures x1_fault x1_numbers x1_statements x1_left x1_far x1_tons x1_way x1_steps x1_met x1_queue x1_totals, gridI d r1_line 20 7 x1_line, gridI d r1_good 8 3 x1_good, gridI d r1_work 7 5 x1_work] 0 0 0 [(0, .ref (h0 0))] []
  refine J_aload_n hK qd3_75.1 rfl 0 rfl rfl ?_
  obtain ⟨⟨g2, g3, g4, g5, g6, g7, g8, g9, g10, g11, g12⟩, e13, hf⟩ := bs hf
  have hf := un11 hf
  refine J_callV (m := 8) (m' := 8) (ce' := 0) (sl' := 0) (gr := []) (gs' := fun _ => [gMd d h0 a0_kept (some (h1 0)) a0_chosen r0_rows r0_line r0_good r0_work x0_shelf x0_rowSort x0_rowSize x0_moved x0_shown x0_tape x0_tapeSize x0_refused x0_lines x0_changes x0_coins x0_goods x0_works x0_years x0_gone x0_spent x0_at x0_token x0_from x0_figures x0_fault x0_numbers x0_statements x0_left x0_far x0_tons x0_way x0_steps x0_met x0_queue x0_totals, gridI d r0_line 20 7 x0_line, gridI d r0_good 8 3 x0_good, gridI d r0_work 7 5 x0_work, gMd d h1 a1_kept a1_tried a1_chosen r1_rows r1_line r1_good r1_work x1_shelf x1_rowSort x1_rowSize x1_moved x1_shown x1_tape x1_tapeSize x1_refused g2 g4 g5 g6 g8 g10 g11 g12 x1_at x1_token x1_from x1_figures x1_fault x1_numbers x1_statements x1_left x1_far x1_tons x1_way x1_steps x1_met x1_queue x1_totals, gridI d r1_line 20 7 g3, gridI d r1_good 8 3 g7, gridI d r1_work 7 5 g9]) (st' := fun _ => [.ref (h1 0)]) (st := []) hK qd3_75.2.1 cv_RX7_238 iv_yX7_fresh (As := []) (kX7_fresh _ d h0 r0_rows r0_line r0_good r0_work a0_kept a0_chosen h1 r1_rows r1_line r1_good r1_work a1_kept a1_tried a1_chosen n x0_shelf x0_rowSort x0_rowSize x0_rows x0_moved x0_shown x0_tape x0_tapeSize x0_refused x0_lines x0_line x0_changes x0_coins x0_goods x0_good x0_works x0_work x0_years x0_gone x0_spent x0_at x0_token x0_from x0_figures x0_fault x0_numbers x0_statements x0_left x0_far x0_tons x0_way x0_steps x0_met x0_queue x0_totals x1_shelf x1_rowSort x1_rowSize x1_rows x1_moved x1_shown x1_tape x1_tapeSize x1_refused x1_lines x1_line x1_changes x1_coins x1_goods x1_good x1_works x1_work x1_years x1_gone x1_spent x1_at x1_token x1_from x1_figures x1_fault x1_numbers x1_statements x1_left x1_far x1_tons x1_way x1_steps x1_met x1_queue x1_totals e13) rfl rfl (Nat.le_of_ble_eq_true rfl) (by decide) 0 0 rfl rfl rfl [0, 1, 2, 3, 4, 5, 6, 7] [] rfl (by decide +kernel) rfl rfl [0, 1, 2, 3, 4, 5, 6, 7] (by decide +kernel) (fun _ => rfl) (fun _ => rfl) rfl rfl rfl (fun _ => rfl) (fun _ => ?_)
  refine J_astore_n (L' := [(1, .ref (h1 0)), (0, .ref (h0 0))]) hK qd3_75.2.2.1 rfl rfl (by decide) rfl ?_
  refine J_aload_n hK qd3_75.2.2.2.1 rfl 1 rfl rfl ?_
  obtain ⟨⟨v14, ⟨g16, g17, g18, g19, g20, g21, g22, g23, g24, g25, g26, g27, g28, g29, g30, g31⟩⟩, e32, hf⟩ := bs hf
  have hf := un2 hf
  have hf := un16 hf
  refine J_callV (m := 8) (m' := 8) (ce' := 0) (sl' := 0) (gr := [gMd d h1 a1_kept a1_tried a1_chosen r1_rows r1_line r1_good r1_work x1_shelf x1_rowSort x1_rowSize x1_moved x1_shown x1_tape x1_tapeSize x1_refused g2 g4 g5 g6 g8 g10 g11 g12 x1_at x1_token x1_from x1_figures x1_fault x1_numbers x1_statements x1_left x1_far x1_tons x1_way x1_steps x1_met x1_queue x1_totals, gridI d r1_line 20 7 g3, gridI d r1_good 8 3 g7, gridI d r1_work 7 5 g9]) (gs' := fun _ => [gMd d h0 a0_kept (some (h1 0)) a0_chosen r0_rows r0_line r0_good r0_work x0_shelf x0_rowSort x0_rowSize x0_moved x0_shown x0_tape x0_tapeSize x0_refused g16 g18 g19 g20 g22 g24 x0_gone x0_spent g25 g26 g27 g28 g29 g30 g31 x0_left x0_far x0_tons x0_way x0_steps x0_met x0_queue x0_totals, gridI d r0_line 20 7 g17, gridI d r0_good 8 3 g21, gridI d r0_work 7 5 g23, gMd d h1 a1_kept a1_tried a1_chosen r1_rows r1_line r1_good r1_work x1_shelf x1_rowSort x1_rowSize x1_moved x1_shown x1_tape x1_tapeSize x1_refused g2 g4 g5 g6 g8 g10 g11 g12 x1_at x1_token x1_from x1_figures x1_fault x1_numbers x1_statements x1_left x1_far x1_tons x1_way x1_steps x1_met x1_queue x1_totals, gridI d r1_line 20 7 g3, gridI d r1_good 8 3 g7, gridI d r1_work 7 5 g9]) (st' := fun _ => [.int v14]) (st := []) hK qd3_75.2.2.2.2.1 cv_RX7_242 iv_yX7_read (As := []) (kX7_read _ d h0 r0_rows r0_line r0_good r0_work a0_kept (some (h1 0)) a0_chosen n x0_shelf x0_rowSort x0_rowSize x0_rows x0_moved x0_shown x0_tape x0_tapeSize x0_refused x0_lines x0_line x0_changes x0_coins x0_goods x0_good x0_works x0_work x0_years x0_gone x0_spent x0_at x0_token x0_from x0_figures x0_fault x0_numbers x0_statements x0_left x0_far x0_tons x0_way x0_steps x0_met x0_queue x0_totals e32) rfl rfl (Nat.le_of_ble_eq_true rfl) (by decide) 0 0 rfl rfl rfl [0, 1, 2, 3] [4, 5, 6, 7] rfl (by decide +kernel) rfl rfl [4, 5, 6, 7, 0, 1, 2, 3] (by decide +kernel) (fun _ => rfl) (fun _ => rfl) rfl rfl rfl (fun _ => rfl) (fun _ => ?_)
  refine J_istore_n (L' := [(2, .int v14), (1, .ref (h1 0)), (0, .ref (h0 0))]) hK qd3_75.2.2.2.2.2.1 rfl rfl (by decide) rfl ?_
  refine J_aload_n hK qd3_75.2.2.2.2.2.2.1 rfl 2 rfl rfl ?_
  refine J_iconst (v := 0) hK qd3_75.2.2.2.2.2.2.2.1 rfl (by decide) ?_
  refine J_put (g' := gMd d h0 a0_kept (some (h1 0)) a0_chosen r0_rows r0_line r0_good r0_work x0_shelf x0_rowSort x0_rowSize x0_moved x0_shown x0_tape (0) x0_refused g16 g18 g19 g20 g22 g24 x0_gone x0_spent g25 g26 g27 g28 g29 g30 g31 x0_left x0_far x0_tons x0_way x0_steps x0_met x0_queue x0_totals) (gs' := [gMd d h0 a0_kept (some (h1 0)) a0_chosen r0_rows r0_line r0_good r0_work x0_shelf x0_rowSort x0_rowSize x0_moved x0_shown x0_tape (0) x0_refused g16 g18 g19 g20 g22 g24 x0_gone x0_spent g25 g26 g27 g28 g29 g30 g31 x0_left x0_far x0_tons x0_way x0_steps x0_met x0_queue x0_totals, gridI d r0_line 20 7 g17, gridI d r0_good 8 3 g21, gridI d r0_work 7 5 g23, gMd d h1 a1_kept a1_tried a1_chosen r1_rows r1_line r1_good r1_work x1_shelf x1_rowSort x1_rowSize x1_moved x1_shown x1_tape x1_tapeSize x1_refused g2 g4 g5 g6 g8 g10 g11 g12 x1_at x1_token x1_from x1_figures x1_fault x1_numbers x1_statements x1_left x1_far x1_tons x1_way x1_steps x1_met x1_queue x1_totals, gridI d r1_line 20 7 g3, gridI d r1_good 8 3 g7, gridI d r1_work 7 5 g9]) hK fp_RX7_146 qd3_75.2.2.2.2.2.2.2.2.1 rfl 0 0 rfl rfl rfl rfl (Nat.le_of_ble_eq_true rfl) rfl rfl ?_
  refine J_iload_n hK qd3_75.2.2.2.2.2.2.2.2.2.1 rfl 0 rfl rfl ?_
  refine J_if_ne (tg := 39) hK qd3_75.2.2.2.2.2.2.2.2.2.2.1 rfl rfl (fun hc16 => ?_) (fun hc16 => ?_)
  · have hf := iq hc16 hf
    refine J_aload_n hK qd3_76.2.2.2.2.2.2.2.1 rfl 2 rfl rfl ?_
    refine J_get hK fo_RX7_232 qd3_76.2.2.2.2.2.2.2.2.1 rfl 0 0 rfl rfl rfl ?_
    obtain rfl := Option.some.inj hf
    exact J_iret hK hR qd3_76.2.2.2.2.2.2.2.2.2.1 () rfl (by decide) (by decide)
  · have hf := ip hc16 hf
    refine J_aload_n hK qd3_75.2.2.2.2.2.2.2.2.2.2.2.1 rfl 2 rfl rfl ?_
    refine J_aload_n hK qd3_75.2.2.2.2.2.2.2.2.2.2.2.2.1 rfl 1 rfl rfl ?_
    obtain ⟨⟨g34, g35, g36, g37, g38, g39, g40, g41, g42, g43, g44⟩, e45, hf⟩ := bs hf
    have hf := un11 hf
    refine J_callV (m := 8) (m' := 8) (ce' := 0) (sl' := 0) (gr := []) (gs' := fun _ => [gMd d h0 a0_kept (some (h1 0)) a0_chosen r0_rows r0_line r0_good r0_work x0_shelf x0_rowSort x0_rowSize x0_moved x0_shown x0_tape (0) x0_refused g34 g36 g37 g38 g40 g42 g43 g44 g25 g26 g27 g28 g29 g30 g31 x0_left x0_far x0_tons x0_way x0_steps x0_met x0_queue x0_totals, gridI d r0_line 20 7 g35, gridI d r0_good 8 3 g39, gridI d r0_work 7 5 g41, gMd d h1 a1_kept a1_tried a1_chosen r1_rows r1_line r1_good r1_work x1_shelf x1_rowSort x1_rowSize x1_moved x1_shown x1_tape x1_tapeSize x1_refused g2 g4 g5 g6 g8 g10 g11 g12 x1_at x1_token x1_from x1_figures x1_fault x1_numbers x1_statements x1_left x1_far x1_tons x1_way x1_steps x1_met x1_queue x1_totals, gridI d r1_line 20 7 g3, gridI d r1_good 8 3 g7, gridI d r1_work 7 5 g9]) (st' := fun _ => []) (st := []) hK qd3_75.2.2.2.2.2.2.2.2.2.2.2.2.2.1 cv_RX7_245 iv_yX7_takeFrom (As := [.ref (h1 0)]) (kX7_takeFrom _ d h0 r0_rows r0_line r0_good r0_work a0_kept (some (h1 0)) a0_chosen h1 r1_rows r1_line r1_good r1_work a1_kept a1_tried a1_chosen n x0_shelf x0_rowSort x0_rowSize x0_rows x0_moved x0_shown x0_tape (0) x0_refused g16 g17 g18 g19 g20 g21 g22 g23 g24 x0_gone x0_spent g25 g26 g27 g28 g29 g30 g31 x0_left x0_far x0_tons x0_way x0_steps x0_met x0_queue x0_totals x1_shelf x1_rowSort x1_rowSize x1_rows x1_moved x1_shown x1_tape x1_tapeSize x1_refused g2 g3 g4 g5 g6 g7 g8 g9 g10 g11 g12 x1_at x1_token x1_from x1_figures x1_fault x1_numbers x1_statements x1_left x1_far x1_tons x1_way x1_steps x1_met x1_queue x1_totals e45) rfl rfl (Nat.le_of_ble_eq_true rfl) (by decide) 0 0 rfl rfl rfl [0, 1, 2, 3, 4, 5, 6, 7] [] rfl (by decide +kernel) rfl rfl [0, 1, 2, 3, 4, 5, 6, 7] (by decide +kernel) (fun _ => rfl) (fun _ => rfl) rfl rfl rfl (fun _ => rfl) (fun _ => ?_)
    refine J_aload_n hK qd3_75.2.2.2.2.2.2.2.2.2.2.2.2.2.2.1 rfl 2 rfl rfl ?_
    refine J_bipush (v := (-2)) hK qd3_75.2.2.2.2.2.2.2.2.2.2.2.2.2.2.2.1 rfl (by decide) ?_
    obtain ⟨⟨v46, g47⟩, e48, hf⟩ := bs hf
    have hf := un2 hf
    refine J_callV (m := 8) (m' := 8) (ce' := 0) (sl' := 0) (gr := [gridI d r0_line 20 7 g35, gridI d r0_good 8 3 g39, gridI d r0_work 7 5 g41, gMd d h1 a1_kept a1_tried a1_chosen r1_rows r1_line r1_good r1_work x1_shelf x1_rowSort x1_rowSize x1_moved x1_shown x1_tape x1_tapeSize x1_refused g2 g4 g5 g6 g8 g10 g11 g12 x1_at x1_token x1_from x1_figures x1_fault x1_numbers x1_statements x1_left x1_far x1_tons x1_way x1_steps x1_met x1_queue x1_totals, gridI d r1_line 20 7 g3, gridI d r1_good 8 3 g7, gridI d r1_work 7 5 g9]) (gs' := fun _ => [gMd d h0 a0_kept (some (h1 0)) a0_chosen r0_rows r0_line r0_good r0_work x0_shelf x0_rowSort x0_rowSize x0_moved x0_shown x0_tape (0) g47 g34 g36 g37 g38 g40 g42 g43 g44 g25 g26 g27 g28 g29 g30 g31 x0_left x0_far x0_tons x0_way x0_steps x0_met x0_queue x0_totals, gridI d r0_line 20 7 g35, gridI d r0_good 8 3 g39, gridI d r0_work 7 5 g41, gMd d h1 a1_kept a1_tried a1_chosen r1_rows r1_line r1_good r1_work x1_shelf x1_rowSort x1_rowSize x1_moved x1_shown x1_tape x1_tapeSize x1_refused g2 g4 g5 g6 g8 g10 g11 g12 x1_at x1_token x1_from x1_figures x1_fault x1_numbers x1_statements x1_left x1_far x1_tons x1_way x1_steps x1_met x1_queue x1_totals, gridI d r1_line 20 7 g3, gridI d r1_good 8 3 g7, gridI d r1_work 7 5 g9]) (st' := fun _ => [.int v46]) (st := []) hK qd3_76.1 cv_RX7_94 iv_yX7_refuse (As := [.int (-2)]) (kX7_refuse _ d h0 r0_rows r0_line r0_good r0_work a0_kept (some (h1 0)) a0_chosen x0_shelf x0_rowSort x0_rowSize x0_rows x0_moved x0_shown x0_tape (0) x0_refused g34 g35 g36 g37 g38 g39 g40 g41 g42 g43 g44 g25 g26 g27 g28 g29 g30 g31 x0_left x0_far x0_tons x0_way x0_steps x0_met x0_queue x0_totals (-2) e48) rfl rfl (Nat.le_of_ble_eq_true rfl) (by decide) 0 0 rfl rfl rfl [0] [1, 2, 3, 4, 5, 6, 7] rfl (by decide +kernel) rfl rfl [7, 0, 1, 2, 3, 4, 5, 6] (by decide +kernel) (fun _ => rfl) (fun _ => rfl) rfl rfl rfl (fun _ => rfl) (fun _ => ?_)
    refine J_pop hK qd3_76.2.1 rfl rfl ?_
    refine J_bipush (v := (-20)) hK qd3_76.2.2.1 rfl (by decide) ?_
    refine J_aload_n hK qd3_76.2.2.2.1 rfl 2 rfl rfl ?_
    refine J_get hK fo_RX7_174 qd3_76.2.2.2.2.1 rfl 0 0 rfl rfl rfl ?_
    refine J_isub hK qd3_76.2.2.2.2.2.1 rfl ?_
    obtain rfl := Option.some.inj hf
    exact J_iret hK hR qd3_76.2.2.2.2.2.2.1 () rfl (by decide) (by decide)

def fX7_lineOf (X0 : MdT) (p1 : Int32) (p2 : Int32) : Option (Int32 × (Nat → Int32)) :=
  u35 (fun (x0_shelf : (Nat → Int32)) (x0_rowSort : (Nat → Int32)) (x0_rowSize : (Nat → Int32)) (x0_rows : (Nat → Nat → Int64)) (x0_moved : (Nat → Int64)) (x0_shown : (Nat → Int32)) (x0_tape : (Nat → Int32)) (x0_tapeSize : Int32) (x0_refused : (Nat → Int32)) (x0_lines : Int32) (x0_line : (Nat → Nat → Int32)) (x0_changes : (Nat → Int32)) (x0_coins : (Nat → Int32)) (x0_goods : Int32) (x0_good : (Nat → Nat → Int32)) (x0_works : Int32) (x0_work : (Nat → Nat → Int32)) (x0_years : Int32) (x0_gone : Int32) (x0_spent : Int32) (x0_at : Int32) (x0_token : Int32) (x0_from : Int32) (x0_figures : Int64) (x0_fault : Int32) (x0_numbers : (Nat → Int32)) (x0_statements : Int32) (x0_left : (Nat → Int32)) (x0_far : (Nat → Int32)) (x0_tons : Int32) (x0_way : (Nat → Int32)) (x0_steps : Int32) (x0_met : Int64) (x0_queue : (Nat → Int32)) (x0_totals : (Nat → Int32)) => (fX7_isLine (x0_shelf, x0_rowSort, x0_rowSize, x0_rows, x0_moved, x0_shown, x0_tape, x0_tapeSize, x0_refused, x0_lines, x0_line, x0_changes, x0_coins, x0_goods, x0_good, x0_works, x0_work, x0_years, x0_gone, x0_spent, x0_at, x0_token, x0_from, x0_figures, x0_fault, x0_numbers, x0_statements, x0_left, x0_far, x0_tons, x0_way, x0_steps, x0_met, x0_queue, x0_totals) p1).bind (fun v1 => if v1 = 0 then ((fX7_refuse (x0_shelf, x0_rowSort, x0_rowSize, x0_rows, x0_moved, x0_shown, x0_tape, x0_tapeSize, x0_refused, x0_lines, x0_line, x0_changes, x0_coins, x0_goods, x0_good, x0_works, x0_work, x0_years, x0_gone, x0_spent, x0_at, x0_token, x0_from, x0_figures, x0_fault, x0_numbers, x0_statements, x0_left, x0_far, x0_tons, x0_way, x0_steps, x0_met, x0_queue, x0_totals) (-2)).bind (u2 fun v3 g4 => some (v3, g4))) else ((fX7_in ((p2).toInt64) (0 : Int64) (6 : Int64)).bind (fun v6 => if v6 = 0 then ((fX7_refuse (x0_shelf, x0_rowSort, x0_rowSize, x0_rows, x0_moved, x0_shown, x0_tape, x0_tapeSize, x0_refused, x0_lines, x0_line, x0_changes, x0_coins, x0_goods, x0_good, x0_works, x0_work, x0_years, x0_gone, x0_spent, x0_at, x0_token, x0_from, x0_figures, x0_fault, x0_numbers, x0_statements, x0_left, x0_far, x0_tons, x0_way, x0_steps, x0_met, x0_queue, x0_totals) (-2)).bind (u2 fun v8 g9 => some (v8, g9))) else ((ck p1 20).bind fun q11 => (rd 7 (x0_line q11) p2).bind fun v12 => some (v12, x0_refused)))))) X0
set_option maxHeartbeats 4000000 in
set_option maxRecDepth 100000 in
theorem kX7_lineOf (l : Launch) (d : DT) (h0 : Nat → Nat) (r0_rows : Nat → Nat) (r0_line : Nat → Nat) (r0_good : Nat → Nat) (r0_work : Nat → Nat) (a0_kept : Option Nat) (a0_tried : Option Nat) (a0_chosen : Option Nat) (x0_shelf : (Nat → Int32)) (x0_rowSort : (Nat → Int32)) (x0_rowSize : (Nat → Int32)) (x0_rows : (Nat → Nat → Int64)) (x0_moved : (Nat → Int64)) (x0_shown : (Nat → Int32)) (x0_tape : (Nat → Int32)) (x0_tapeSize : Int32) (x0_refused : (Nat → Int32)) (x0_lines : Int32) (x0_line : (Nat → Nat → Int32)) (x0_changes : (Nat → Int32)) (x0_coins : (Nat → Int32)) (x0_goods : Int32) (x0_good : (Nat → Nat → Int32)) (x0_works : Int32) (x0_work : (Nat → Nat → Int32)) (x0_years : Int32) (x0_gone : Int32) (x0_spent : Int32) (x0_at : Int32) (x0_token : Int32) (x0_from : Int32) (x0_figures : Int64) (x0_fault : Int32) (x0_numbers : (Nat → Int32)) (x0_statements : Int32) (x0_left : (Nat → Int32)) (x0_far : (Nat → Int32)) (x0_tons : Int32) (x0_way : (Nat → Int32)) (x0_steps : Int32) (x0_met : Int64) (x0_queue : (Nat → Int32)) (x0_totals : (Nat → Int32)) (p1 : Int32) (p2 : Int32)  {out : Int32 × (Nat → Int32)} (hf : fX7_lineOf (x0_shelf, x0_rowSort, x0_rowSize, x0_rows, x0_moved, x0_shown, x0_tape, x0_tapeSize, x0_refused, x0_lines, x0_line, x0_changes, x0_coins, x0_goods, x0_good, x0_works, x0_work, x0_years, x0_gone, x0_spent, x0_at, x0_token, x0_from, x0_figures, x0_fault, x0_numbers, x0_statements, x0_left, x0_far, x0_tons, x0_way, x0_steps, x0_met, x0_queue, x0_totals) p1 p2 = some out) : Ct l d yX7_lineOf cX7_lineOf 3 (some .int) { frames := 2, cells := 0, slots := 0, locals := 46 } [.ref (h0 0), .int p1, .int p2] [gMd d h0 a0_kept a0_tried a0_chosen r0_rows r0_line r0_good r0_work x0_shelf x0_rowSort x0_rowSize x0_moved x0_shown x0_tape x0_tapeSize x0_refused x0_lines x0_changes x0_coins x0_goods x0_works x0_years x0_gone x0_spent x0_at x0_token x0_from x0_figures x0_fault x0_numbers x0_statements x0_left x0_far x0_tons x0_way x0_steps x0_met x0_queue x0_totals, gridI d r0_line 20 7 x0_line] (fun _ : Unit => (some (.int out.1), [gMd d h0 a0_kept a0_tried a0_chosen r0_rows r0_line r0_good r0_work x0_shelf x0_rowSort x0_rowSize x0_moved x0_shown x0_tape x0_tapeSize (out.2) x0_lines x0_changes x0_coins x0_goods x0_works x0_years x0_gone x0_spent x0_at x0_token x0_from x0_figures x0_fault x0_numbers x0_statements x0_left x0_far x0_tons x0_way x0_steps x0_met x0_queue x0_totals, gridI d r0_line 20 7 x0_line])) := by
  refine Ct.of (by decide) (Nat.le_of_ble_eq_true rfl) ?_
  intro Φ hl hK hR
  subst hl
  have hK : Ok d Φ RX7 "lineOf" cX7_lineOf 3 (some .int) { frames := 2, cells := 0, slots := 0, locals := 46 } := hK
  unfold fX7_lineOf at hf
  have hf := un35 hf
  show J d Φ 3 [gMd d h0 a0_kept a0_tried a0_chosen r0_rows r0_line r0_good r0_work x0_shelf x0_rowSort x0_rowSize x0_moved x0_shown x0_tape x0_tapeSize x0_refused x0_lines x0_changes x0_coins x0_goods x0_works x0_years x0_gone x0_spent x0_at x0_token x0_from x0_figures x0_fault x0_numbers x0_statements x0_left x0_far x0_tons x0_way x0_steps x0_met x0_queue x0_totals, gridI d r0_line 20 7 x0_line] 0 0 0 [(0, .ref (h0 0)), (1, .int p1), (2, .int p2)] []
  refine J_aload_n hK qd3_77.1 rfl 0 rfl rfl ?_
  refine J_iload_n hK qd3_77.2.1 rfl 1 rfl rfl ?_
  obtain ⟨v1, e2, hf⟩ := bs hf
  refine J_callV (m := 2) (m' := 2) (ce' := 0) (sl' := 0) (gr := [gridI d r0_line 20 7 x0_line]) (gs' := fun _ => [gMd d h0 a0_kept a0_tried a0_chosen r0_rows r0_line r0_good r0_work x0_shelf x0_rowSort x0_rowSize x0_moved x0_shown x0_tape x0_tapeSize x0_refused x0_lines x0_changes x0_coins x0_goods x0_works x0_years x0_gone x0_spent x0_at x0_token x0_from x0_figures x0_fault x0_numbers x0_statements x0_left x0_far x0_tons x0_way x0_steps x0_met x0_queue x0_totals, gridI d r0_line 20 7 x0_line]) (st' := fun _ => [.int v1]) (st := []) hK qd3_77.2.2.1 cv_RX7_128 iv_yX7_isLine (As := [.int p1]) (kX7_isLine _ d h0 r0_rows r0_line r0_good r0_work a0_kept a0_tried a0_chosen x0_shelf x0_rowSort x0_rowSize x0_rows x0_moved x0_shown x0_tape x0_tapeSize x0_refused x0_lines x0_line x0_changes x0_coins x0_goods x0_good x0_works x0_work x0_years x0_gone x0_spent x0_at x0_token x0_from x0_figures x0_fault x0_numbers x0_statements x0_left x0_far x0_tons x0_way x0_steps x0_met x0_queue x0_totals p1 e2) rfl rfl (Nat.le_of_ble_eq_true rfl) (by decide) 0 0 rfl rfl rfl [0] [1] rfl (by decide +kernel) rfl rfl [1, 0] (by decide +kernel) (fun _ => rfl) (fun _ => rfl) rfl rfl rfl (fun _ => rfl) (fun _ => ?_)
  refine J_if_eq (tg := 31) hK qd3_77.2.2.2.1 rfl rfl (fun hc5 => ?_) (fun hc5 => ?_)
  · have hf := ip hc5 hf
    refine J_aload_n hK qd3_78.2.1 rfl 0 rfl rfl ?_
    refine J_bipush (v := (-2)) hK qd3_78.2.2.1 rfl (by decide) ?_
    obtain ⟨⟨v3, g4⟩, e5, hf⟩ := bs hf
    have hf := un2 hf
    refine J_callV (m := 2) (m' := 2) (ce' := 0) (sl' := 0) (gr := [gridI d r0_line 20 7 x0_line]) (gs' := fun _ => [gMd d h0 a0_kept a0_tried a0_chosen r0_rows r0_line r0_good r0_work x0_shelf x0_rowSort x0_rowSize x0_moved x0_shown x0_tape x0_tapeSize g4 x0_lines x0_changes x0_coins x0_goods x0_works x0_years x0_gone x0_spent x0_at x0_token x0_from x0_figures x0_fault x0_numbers x0_statements x0_left x0_far x0_tons x0_way x0_steps x0_met x0_queue x0_totals, gridI d r0_line 20 7 x0_line]) (st' := fun _ => [.int v3]) (st := []) hK qd3_78.2.2.2.1 cv_RX7_94 iv_yX7_refuse (As := [.int (-2)]) (kX7_refuse _ d h0 r0_rows r0_line r0_good r0_work a0_kept a0_tried a0_chosen x0_shelf x0_rowSort x0_rowSize x0_rows x0_moved x0_shown x0_tape x0_tapeSize x0_refused x0_lines x0_line x0_changes x0_coins x0_goods x0_good x0_works x0_work x0_years x0_gone x0_spent x0_at x0_token x0_from x0_figures x0_fault x0_numbers x0_statements x0_left x0_far x0_tons x0_way x0_steps x0_met x0_queue x0_totals (-2) e5) rfl rfl (Nat.le_of_ble_eq_true rfl) (by decide) 0 0 rfl rfl rfl [0] [1] rfl (by decide +kernel) rfl rfl [1, 0] (by decide +kernel) (fun _ => rfl) (fun _ => rfl) rfl rfl rfl (fun _ => rfl) (fun _ => ?_)
    obtain rfl := Option.some.inj hf
    exact J_iret hK hR qd3_78.2.2.2.2.1 () rfl (by decide) (by decide)
  · have hf := iq hc5 hf
    refine J_iload_n hK qd3_77.2.2.2.2.1 rfl 2 rfl rfl ?_
    refine J_i2l hK qd3_77.2.2.2.2.2.1 rfl ?_
    refine J_lconst (v := 0) hK qd3_77.2.2.2.2.2.2.1 rfl (by decide) ?_
    refine J_ldc2 (v := (6 : Int64)) hK qd3_77.2.2.2.2.2.2.2.1 rfl wk_RX7_249 ?_
    obtain ⟨v6, e7, hf⟩ := bs hf
    refine J_callS (m := 2) (m' := 2) (ce' := 0) (sl' := 0) (gr := [gMd d h0 a0_kept a0_tried a0_chosen r0_rows r0_line r0_good r0_work x0_shelf x0_rowSort x0_rowSize x0_moved x0_shown x0_tape x0_tapeSize x0_refused x0_lines x0_changes x0_coins x0_goods x0_works x0_years x0_gone x0_spent x0_at x0_token x0_from x0_figures x0_fault x0_numbers x0_statements x0_left x0_far x0_tons x0_way x0_steps x0_met x0_queue x0_totals, gridI d r0_line 20 7 x0_line]) (gs' := fun _ => [gMd d h0 a0_kept a0_tried a0_chosen r0_rows r0_line r0_good r0_work x0_shelf x0_rowSort x0_rowSize x0_moved x0_shown x0_tape x0_tapeSize x0_refused x0_lines x0_changes x0_coins x0_goods x0_works x0_years x0_gone x0_spent x0_at x0_token x0_from x0_figures x0_fault x0_numbers x0_statements x0_left x0_far x0_tons x0_way x0_steps x0_met x0_queue x0_totals, gridI d r0_line 20 7 x0_line]) (st' := fun _ => [.int v6]) (st := []) hK qd3_77.2.2.2.2.2.2.2.2.1 cv_RX7_78 ws_yX7_in (As := [.long ((p2).toInt64), .long (0 : Int64), .long (6 : Int64)]) (kX7_in _ d ((p2).toInt64) (0 : Int64) (6 : Int64) e7) rfl rfl (Nat.le_of_ble_eq_true rfl) (by decide) [] [0, 1] rfl (by decide +kernel) rfl rfl [0, 1] (by decide +kernel) (fun _ => rfl) (fun _ => rfl) rfl rfl rfl (fun _ => rfl) (fun _ => ?_)
    refine J_if_eq (tg := 31) hK qd3_77.2.2.2.2.2.2.2.2.2.1 rfl rfl (fun hc17 => ?_) (fun hc17 => ?_)
    · have hf := ip hc17 hf
      refine J_aload_n hK qd3_78.2.1 rfl 0 rfl rfl ?_
      refine J_bipush (v := (-2)) hK qd3_78.2.2.1 rfl (by decide) ?_
      obtain ⟨⟨v8, g9⟩, e10, hf⟩ := bs hf
      have hf := un2 hf
      refine J_callV (m := 2) (m' := 2) (ce' := 0) (sl' := 0) (gr := [gridI d r0_line 20 7 x0_line]) (gs' := fun _ => [gMd d h0 a0_kept a0_tried a0_chosen r0_rows r0_line r0_good r0_work x0_shelf x0_rowSort x0_rowSize x0_moved x0_shown x0_tape x0_tapeSize g9 x0_lines x0_changes x0_coins x0_goods x0_works x0_years x0_gone x0_spent x0_at x0_token x0_from x0_figures x0_fault x0_numbers x0_statements x0_left x0_far x0_tons x0_way x0_steps x0_met x0_queue x0_totals, gridI d r0_line 20 7 x0_line]) (st' := fun _ => [.int v8]) (st := []) hK qd3_78.2.2.2.1 cv_RX7_94 iv_yX7_refuse (As := [.int (-2)]) (kX7_refuse _ d h0 r0_rows r0_line r0_good r0_work a0_kept a0_tried a0_chosen x0_shelf x0_rowSort x0_rowSize x0_rows x0_moved x0_shown x0_tape x0_tapeSize x0_refused x0_lines x0_line x0_changes x0_coins x0_goods x0_good x0_works x0_work x0_years x0_gone x0_spent x0_at x0_token x0_from x0_figures x0_fault x0_numbers x0_statements x0_left x0_far x0_tons x0_way x0_steps x0_met x0_queue x0_totals (-2) e10) rfl rfl (Nat.le_of_ble_eq_true rfl) (by decide) 0 0 rfl rfl rfl [0] [1] rfl (by decide +kernel) rfl rfl [1, 0] (by decide +kernel) (fun _ => rfl) (fun _ => rfl) rfl rfl rfl (fun _ => rfl) (fun _ => ?_)
      obtain rfl := Option.some.inj hf
      exact J_iret hK hR qd3_78.2.2.2.2.1 () rfl (by decide) (by decide)
    · have hf := iq hc17 hf
      refine J_aload_n hK qd3_77.2.2.2.2.2.2.2.2.2.2.1 rfl 0 rfl rfl ?_
      refine J_get hK fo_RX7_39 qd3_77.2.2.2.2.2.2.2.2.2.2.2.1 rfl 0 0 rfl rfl rfl ?_
      refine J_iload_n hK qd3_77.2.2.2.2.2.2.2.2.2.2.2.2.1 rfl 1 rfl rfl ?_
      obtain ⟨q11, eq11, hf⟩ := bs hf
      refine J_aald hK qd3_77.2.2.2.2.2.2.2.2.2.2.2.2.2.1 rfl 0 9 rfl rfl rfl eq11 ?_
      refine J_iload_n hK qd3_77.2.2.2.2.2.2.2.2.2.2.2.2.2.2.1 rfl 2 rfl rfl ?_
      obtain ⟨v12, ev12, hf⟩ := bs hf
      refine J_iald hK qd3_77.2.2.2.2.2.2.2.2.2.2.2.2.2.2.2.1 rfl 1 q11 rfl (gridI_at (ck_ok eq11).2.2) ev12 ?_
      refine J_goto hK qd3_78.1 (n := 37) rfl ?_
      obtain rfl := Option.some.inj hf
      exact J_iret hK hR qd3_78.2.2.2.2.1 () rfl (by decide) (by decide)

def fX7_goodsOf (X0 : MdT) (p1 : Int32) (p2 : Int32) : Option (Int32 × (Nat → Int32)) :=
  u35 (fun (x0_shelf : (Nat → Int32)) (x0_rowSort : (Nat → Int32)) (x0_rowSize : (Nat → Int32)) (x0_rows : (Nat → Nat → Int64)) (x0_moved : (Nat → Int64)) (x0_shown : (Nat → Int32)) (x0_tape : (Nat → Int32)) (x0_tapeSize : Int32) (x0_refused : (Nat → Int32)) (x0_lines : Int32) (x0_line : (Nat → Nat → Int32)) (x0_changes : (Nat → Int32)) (x0_coins : (Nat → Int32)) (x0_goods : Int32) (x0_good : (Nat → Nat → Int32)) (x0_works : Int32) (x0_work : (Nat → Nat → Int32)) (x0_years : Int32) (x0_gone : Int32) (x0_spent : Int32) (x0_at : Int32) (x0_token : Int32) (x0_from : Int32) (x0_figures : Int64) (x0_fault : Int32) (x0_numbers : (Nat → Int32)) (x0_statements : Int32) (x0_left : (Nat → Int32)) (x0_far : (Nat → Int32)) (x0_tons : Int32) (x0_way : (Nat → Int32)) (x0_steps : Int32) (x0_met : Int64) (x0_queue : (Nat → Int32)) (x0_totals : (Nat → Int32)) => (fX7_in ((p1).toInt64) (0 : Int64) (((x0_goods - 1)).toInt64)).bind (fun v1 => if v1 = 0 then ((fX7_refuse (x0_shelf, x0_rowSort, x0_rowSize, x0_rows, x0_moved, x0_shown, x0_tape, x0_tapeSize, x0_refused, x0_lines, x0_line, x0_changes, x0_coins, x0_goods, x0_good, x0_works, x0_work, x0_years, x0_gone, x0_spent, x0_at, x0_token, x0_from, x0_figures, x0_fault, x0_numbers, x0_statements, x0_left, x0_far, x0_tons, x0_way, x0_steps, x0_met, x0_queue, x0_totals) (-2)).bind (u2 fun v3 g4 => some (v3, g4))) else ((fX7_in ((p2).toInt64) (0 : Int64) (2 : Int64)).bind (fun v6 => if v6 = 0 then ((fX7_refuse (x0_shelf, x0_rowSort, x0_rowSize, x0_rows, x0_moved, x0_shown, x0_tape, x0_tapeSize, x0_refused, x0_lines, x0_line, x0_changes, x0_coins, x0_goods, x0_good, x0_works, x0_work, x0_years, x0_gone, x0_spent, x0_at, x0_token, x0_from, x0_figures, x0_fault, x0_numbers, x0_statements, x0_left, x0_far, x0_tons, x0_way, x0_steps, x0_met, x0_queue, x0_totals) (-2)).bind (u2 fun v8 g9 => some (v8, g9))) else ((ck p1 8).bind fun q11 => (rd 3 (x0_good q11) p2).bind fun v12 => some (v12, x0_refused)))))) X0
set_option maxHeartbeats 4000000 in
set_option maxRecDepth 100000 in
theorem kX7_goodsOf (l : Launch) (d : DT) (h0 : Nat → Nat) (r0_rows : Nat → Nat) (r0_line : Nat → Nat) (r0_good : Nat → Nat) (r0_work : Nat → Nat) (a0_kept : Option Nat) (a0_tried : Option Nat) (a0_chosen : Option Nat) (x0_shelf : (Nat → Int32)) (x0_rowSort : (Nat → Int32)) (x0_rowSize : (Nat → Int32)) (x0_rows : (Nat → Nat → Int64)) (x0_moved : (Nat → Int64)) (x0_shown : (Nat → Int32)) (x0_tape : (Nat → Int32)) (x0_tapeSize : Int32) (x0_refused : (Nat → Int32)) (x0_lines : Int32) (x0_line : (Nat → Nat → Int32)) (x0_changes : (Nat → Int32)) (x0_coins : (Nat → Int32)) (x0_goods : Int32) (x0_good : (Nat → Nat → Int32)) (x0_works : Int32) (x0_work : (Nat → Nat → Int32)) (x0_years : Int32) (x0_gone : Int32) (x0_spent : Int32) (x0_at : Int32) (x0_token : Int32) (x0_from : Int32) (x0_figures : Int64) (x0_fault : Int32) (x0_numbers : (Nat → Int32)) (x0_statements : Int32) (x0_left : (Nat → Int32)) (x0_far : (Nat → Int32)) (x0_tons : Int32) (x0_way : (Nat → Int32)) (x0_steps : Int32) (x0_met : Int64) (x0_queue : (Nat → Int32)) (x0_totals : (Nat → Int32)) (p1 : Int32) (p2 : Int32)  {out : Int32 × (Nat → Int32)} (hf : fX7_goodsOf (x0_shelf, x0_rowSort, x0_rowSize, x0_rows, x0_moved, x0_shown, x0_tape, x0_tapeSize, x0_refused, x0_lines, x0_line, x0_changes, x0_coins, x0_goods, x0_good, x0_works, x0_work, x0_years, x0_gone, x0_spent, x0_at, x0_token, x0_from, x0_figures, x0_fault, x0_numbers, x0_statements, x0_left, x0_far, x0_tons, x0_way, x0_steps, x0_met, x0_queue, x0_totals) p1 p2 = some out) : Ct l d yX7_goodsOf cX7_goodsOf 3 (some .int) { frames := 1, cells := 0, slots := 0, locals := 25 } [.ref (h0 0), .int p1, .int p2] [gMd d h0 a0_kept a0_tried a0_chosen r0_rows r0_line r0_good r0_work x0_shelf x0_rowSort x0_rowSize x0_moved x0_shown x0_tape x0_tapeSize x0_refused x0_lines x0_changes x0_coins x0_goods x0_works x0_years x0_gone x0_spent x0_at x0_token x0_from x0_figures x0_fault x0_numbers x0_statements x0_left x0_far x0_tons x0_way x0_steps x0_met x0_queue x0_totals, gridI d r0_good 8 3 x0_good] (fun _ : Unit => (some (.int out.1), [gMd d h0 a0_kept a0_tried a0_chosen r0_rows r0_line r0_good r0_work x0_shelf x0_rowSort x0_rowSize x0_moved x0_shown x0_tape x0_tapeSize (out.2) x0_lines x0_changes x0_coins x0_goods x0_works x0_years x0_gone x0_spent x0_at x0_token x0_from x0_figures x0_fault x0_numbers x0_statements x0_left x0_far x0_tons x0_way x0_steps x0_met x0_queue x0_totals, gridI d r0_good 8 3 x0_good])) := by
  refine Ct.of (by decide) (Nat.le_of_ble_eq_true rfl) ?_
  intro Φ hl hK hR
  subst hl
  have hK : Ok d Φ RX7 "goodsOf" cX7_goodsOf 3 (some .int) { frames := 1, cells := 0, slots := 0, locals := 25 } := hK
  unfold fX7_goodsOf at hf
  have hf := un35 hf
  show J d Φ 3 [gMd d h0 a0_kept a0_tried a0_chosen r0_rows r0_line r0_good r0_work x0_shelf x0_rowSort x0_rowSize x0_moved x0_shown x0_tape x0_tapeSize x0_refused x0_lines x0_changes x0_coins x0_goods x0_works x0_years x0_gone x0_spent x0_at x0_token x0_from x0_figures x0_fault x0_numbers x0_statements x0_left x0_far x0_tons x0_way x0_steps x0_met x0_queue x0_totals, gridI d r0_good 8 3 x0_good] 0 0 0 [(0, .ref (h0 0)), (1, .int p1), (2, .int p2)] []
  refine J_iload_n hK qd3_79.1 rfl 1 rfl rfl ?_
  refine J_i2l hK qd3_79.2.1 rfl ?_
  refine J_lconst (v := 0) hK qd3_79.2.2.1 rfl (by decide) ?_
  refine J_aload_n hK qd3_79.2.2.2.1 rfl 0 rfl rfl ?_
  refine J_get hK fo_RX7_125 qd3_79.2.2.2.2.1 rfl 0 0 rfl rfl rfl ?_
  refine J_iconst (v := 1) hK qd3_79.2.2.2.2.2.1 rfl (by decide) ?_
  refine J_isub hK qd3_79.2.2.2.2.2.2.1 rfl ?_
  refine J_i2l hK qd3_79.2.2.2.2.2.2.2.1 rfl ?_
  obtain ⟨v1, e2, hf⟩ := bs hf
  refine J_callS (m := 2) (m' := 2) (ce' := 0) (sl' := 0) (gr := [gMd d h0 a0_kept a0_tried a0_chosen r0_rows r0_line r0_good r0_work x0_shelf x0_rowSort x0_rowSize x0_moved x0_shown x0_tape x0_tapeSize x0_refused x0_lines x0_changes x0_coins x0_goods x0_works x0_years x0_gone x0_spent x0_at x0_token x0_from x0_figures x0_fault x0_numbers x0_statements x0_left x0_far x0_tons x0_way x0_steps x0_met x0_queue x0_totals, gridI d r0_good 8 3 x0_good]) (gs' := fun _ => [gMd d h0 a0_kept a0_tried a0_chosen r0_rows r0_line r0_good r0_work x0_shelf x0_rowSort x0_rowSize x0_moved x0_shown x0_tape x0_tapeSize x0_refused x0_lines x0_changes x0_coins x0_goods x0_works x0_years x0_gone x0_spent x0_at x0_token x0_from x0_figures x0_fault x0_numbers x0_statements x0_left x0_far x0_tons x0_way x0_steps x0_met x0_queue x0_totals, gridI d r0_good 8 3 x0_good]) (st' := fun _ => [.int v1]) (st := []) hK qd3_79.2.2.2.2.2.2.2.2.1 cv_RX7_78 ws_yX7_in (As := [.long ((p1).toInt64), .long (0 : Int64), .long (((x0_goods - 1)).toInt64)]) (kX7_in _ d ((p1).toInt64) (0 : Int64) (((x0_goods - 1)).toInt64) e2) rfl rfl (Nat.le_of_ble_eq_true rfl) (by decide) [] [0, 1] rfl (by decide +kernel) rfl rfl [0, 1] (by decide +kernel) (fun _ => rfl) (fun _ => rfl) rfl rfl rfl (fun _ => rfl) (fun _ => ?_)
  refine J_if_eq (tg := 39) hK qd3_79.2.2.2.2.2.2.2.2.2.1 rfl rfl (fun hc13 => ?_) (fun hc13 => ?_)
  · have hf := ip hc13 hf
    refine J_aload_n hK qd3_80.2.2.2.2.2.2.2.1 rfl 0 rfl rfl ?_
    refine J_bipush (v := (-2)) hK qd3_80.2.2.2.2.2.2.2.2.1 rfl (by decide) ?_
    obtain ⟨⟨v3, g4⟩, e5, hf⟩ := bs hf
    have hf := un2 hf
    refine J_callV (m := 2) (m' := 2) (ce' := 0) (sl' := 0) (gr := [gridI d r0_good 8 3 x0_good]) (gs' := fun _ => [gMd d h0 a0_kept a0_tried a0_chosen r0_rows r0_line r0_good r0_work x0_shelf x0_rowSort x0_rowSize x0_moved x0_shown x0_tape x0_tapeSize g4 x0_lines x0_changes x0_coins x0_goods x0_works x0_years x0_gone x0_spent x0_at x0_token x0_from x0_figures x0_fault x0_numbers x0_statements x0_left x0_far x0_tons x0_way x0_steps x0_met x0_queue x0_totals, gridI d r0_good 8 3 x0_good]) (st' := fun _ => [.int v3]) (st := []) hK qd3_80.2.2.2.2.2.2.2.2.2.1 cv_RX7_94 iv_yX7_refuse (As := [.int (-2)]) (kX7_refuse _ d h0 r0_rows r0_line r0_good r0_work a0_kept a0_tried a0_chosen x0_shelf x0_rowSort x0_rowSize x0_rows x0_moved x0_shown x0_tape x0_tapeSize x0_refused x0_lines x0_line x0_changes x0_coins x0_goods x0_good x0_works x0_work x0_years x0_gone x0_spent x0_at x0_token x0_from x0_figures x0_fault x0_numbers x0_statements x0_left x0_far x0_tons x0_way x0_steps x0_met x0_queue x0_totals (-2) e5) rfl rfl (Nat.le_of_ble_eq_true rfl) (by decide) 0 0 rfl rfl rfl [0] [1] rfl (by decide +kernel) rfl rfl [1, 0] (by decide +kernel) (fun _ => rfl) (fun _ => rfl) rfl rfl rfl (fun _ => rfl) (fun _ => ?_)
    obtain rfl := Option.some.inj hf
    exact J_iret hK hR qd3_80.2.2.2.2.2.2.2.2.2.2.1 () rfl (by decide) (by decide)
  · have hf := iq hc13 hf
    refine J_iload_n hK qd3_79.2.2.2.2.2.2.2.2.2.2.1 rfl 2 rfl rfl ?_
    refine J_i2l hK qd3_79.2.2.2.2.2.2.2.2.2.2.2.1 rfl ?_
    refine J_lconst (v := 0) hK qd3_79.2.2.2.2.2.2.2.2.2.2.2.2.1 rfl (by decide) ?_
    refine J_ldc2 (v := (2 : Int64)) hK qd3_79.2.2.2.2.2.2.2.2.2.2.2.2.2.1 rfl wk_RX7_131 ?_
    obtain ⟨v6, e7, hf⟩ := bs hf
    refine J_callS (m := 2) (m' := 2) (ce' := 0) (sl' := 0) (gr := [gMd d h0 a0_kept a0_tried a0_chosen r0_rows r0_line r0_good r0_work x0_shelf x0_rowSort x0_rowSize x0_moved x0_shown x0_tape x0_tapeSize x0_refused x0_lines x0_changes x0_coins x0_goods x0_works x0_years x0_gone x0_spent x0_at x0_token x0_from x0_figures x0_fault x0_numbers x0_statements x0_left x0_far x0_tons x0_way x0_steps x0_met x0_queue x0_totals, gridI d r0_good 8 3 x0_good]) (gs' := fun _ => [gMd d h0 a0_kept a0_tried a0_chosen r0_rows r0_line r0_good r0_work x0_shelf x0_rowSort x0_rowSize x0_moved x0_shown x0_tape x0_tapeSize x0_refused x0_lines x0_changes x0_coins x0_goods x0_works x0_years x0_gone x0_spent x0_at x0_token x0_from x0_figures x0_fault x0_numbers x0_statements x0_left x0_far x0_tons x0_way x0_steps x0_met x0_queue x0_totals, gridI d r0_good 8 3 x0_good]) (st' := fun _ => [.int v6]) (st := []) hK qd3_79.2.2.2.2.2.2.2.2.2.2.2.2.2.2.1 cv_RX7_78 ws_yX7_in (As := [.long ((p2).toInt64), .long (0 : Int64), .long (2 : Int64)]) (kX7_in _ d ((p2).toInt64) (0 : Int64) (2 : Int64) e7) rfl rfl (Nat.le_of_ble_eq_true rfl) (by decide) [] [0, 1] rfl (by decide +kernel) rfl rfl [0, 1] (by decide +kernel) (fun _ => rfl) (fun _ => rfl) rfl rfl rfl (fun _ => rfl) (fun _ => ?_)
    refine J_if_eq (tg := 39) hK qd3_79.2.2.2.2.2.2.2.2.2.2.2.2.2.2.2.1 rfl rfl (fun hc25 => ?_) (fun hc25 => ?_)
    · have hf := ip hc25 hf
      refine J_aload_n hK qd3_80.2.2.2.2.2.2.2.1 rfl 0 rfl rfl ?_
      refine J_bipush (v := (-2)) hK qd3_80.2.2.2.2.2.2.2.2.1 rfl (by decide) ?_
      obtain ⟨⟨v8, g9⟩, e10, hf⟩ := bs hf
      have hf := un2 hf
      refine J_callV (m := 2) (m' := 2) (ce' := 0) (sl' := 0) (gr := [gridI d r0_good 8 3 x0_good]) (gs' := fun _ => [gMd d h0 a0_kept a0_tried a0_chosen r0_rows r0_line r0_good r0_work x0_shelf x0_rowSort x0_rowSize x0_moved x0_shown x0_tape x0_tapeSize g9 x0_lines x0_changes x0_coins x0_goods x0_works x0_years x0_gone x0_spent x0_at x0_token x0_from x0_figures x0_fault x0_numbers x0_statements x0_left x0_far x0_tons x0_way x0_steps x0_met x0_queue x0_totals, gridI d r0_good 8 3 x0_good]) (st' := fun _ => [.int v8]) (st := []) hK qd3_80.2.2.2.2.2.2.2.2.2.1 cv_RX7_94 iv_yX7_refuse (As := [.int (-2)]) (kX7_refuse _ d h0 r0_rows r0_line r0_good r0_work a0_kept a0_tried a0_chosen x0_shelf x0_rowSort x0_rowSize x0_rows x0_moved x0_shown x0_tape x0_tapeSize x0_refused x0_lines x0_line x0_changes x0_coins x0_goods x0_good x0_works x0_work x0_years x0_gone x0_spent x0_at x0_token x0_from x0_figures x0_fault x0_numbers x0_statements x0_left x0_far x0_tons x0_way x0_steps x0_met x0_queue x0_totals (-2) e10) rfl rfl (Nat.le_of_ble_eq_true rfl) (by decide) 0 0 rfl rfl rfl [0] [1] rfl (by decide +kernel) rfl rfl [1, 0] (by decide +kernel) (fun _ => rfl) (fun _ => rfl) rfl rfl rfl (fun _ => rfl) (fun _ => ?_)
      obtain rfl := Option.some.inj hf
      exact J_iret hK hR qd3_80.2.2.2.2.2.2.2.2.2.2.1 () rfl (by decide) (by decide)
    · have hf := iq hc25 hf
      refine J_aload_n hK qd3_80.1 rfl 0 rfl rfl ?_
      refine J_get hK fo_RX7_48 qd3_80.2.1 rfl 0 0 rfl rfl rfl ?_
      refine J_iload_n hK qd3_80.2.2.1 rfl 1 rfl rfl ?_
      obtain ⟨q11, eq11, hf⟩ := bs hf
      refine J_aald hK qd3_80.2.2.2.1 rfl 0 12 rfl rfl rfl eq11 ?_
      refine J_iload_n hK qd3_80.2.2.2.2.1 rfl 2 rfl rfl ?_
      obtain ⟨v12, ev12, hf⟩ := bs hf
      refine J_iald hK qd3_80.2.2.2.2.2.1 rfl 1 q11 rfl (gridI_at (ck_ok eq11).2.2) ev12 ?_
      refine J_goto hK qd3_80.2.2.2.2.2.2.1 (n := 45) rfl ?_
      obtain rfl := Option.some.inj hf
      exact J_iret hK hR qd3_80.2.2.2.2.2.2.2.2.2.2.1 () rfl (by decide) (by decide)

def fX7_workOf (X0 : MdT) (p1 : Int32) (p2 : Int32) : Option (Int32 × (Nat → Int32)) :=
  u35 (fun (x0_shelf : (Nat → Int32)) (x0_rowSort : (Nat → Int32)) (x0_rowSize : (Nat → Int32)) (x0_rows : (Nat → Nat → Int64)) (x0_moved : (Nat → Int64)) (x0_shown : (Nat → Int32)) (x0_tape : (Nat → Int32)) (x0_tapeSize : Int32) (x0_refused : (Nat → Int32)) (x0_lines : Int32) (x0_line : (Nat → Nat → Int32)) (x0_changes : (Nat → Int32)) (x0_coins : (Nat → Int32)) (x0_goods : Int32) (x0_good : (Nat → Nat → Int32)) (x0_works : Int32) (x0_work : (Nat → Nat → Int32)) (x0_years : Int32) (x0_gone : Int32) (x0_spent : Int32) (x0_at : Int32) (x0_token : Int32) (x0_from : Int32) (x0_figures : Int64) (x0_fault : Int32) (x0_numbers : (Nat → Int32)) (x0_statements : Int32) (x0_left : (Nat → Int32)) (x0_far : (Nat → Int32)) (x0_tons : Int32) (x0_way : (Nat → Int32)) (x0_steps : Int32) (x0_met : Int64) (x0_queue : (Nat → Int32)) (x0_totals : (Nat → Int32)) => (fX7_isWork (x0_shelf, x0_rowSort, x0_rowSize, x0_rows, x0_moved, x0_shown, x0_tape, x0_tapeSize, x0_refused, x0_lines, x0_line, x0_changes, x0_coins, x0_goods, x0_good, x0_works, x0_work, x0_years, x0_gone, x0_spent, x0_at, x0_token, x0_from, x0_figures, x0_fault, x0_numbers, x0_statements, x0_left, x0_far, x0_tons, x0_way, x0_steps, x0_met, x0_queue, x0_totals) p1).bind (fun v1 => if v1 = 0 then ((fX7_refuse (x0_shelf, x0_rowSort, x0_rowSize, x0_rows, x0_moved, x0_shown, x0_tape, x0_tapeSize, x0_refused, x0_lines, x0_line, x0_changes, x0_coins, x0_goods, x0_good, x0_works, x0_work, x0_years, x0_gone, x0_spent, x0_at, x0_token, x0_from, x0_figures, x0_fault, x0_numbers, x0_statements, x0_left, x0_far, x0_tons, x0_way, x0_steps, x0_met, x0_queue, x0_totals) (-2)).bind (u2 fun v3 g4 => some (v3, g4))) else ((fX7_in ((p2).toInt64) (0 : Int64) (4 : Int64)).bind (fun v6 => if v6 = 0 then ((fX7_refuse (x0_shelf, x0_rowSort, x0_rowSize, x0_rows, x0_moved, x0_shown, x0_tape, x0_tapeSize, x0_refused, x0_lines, x0_line, x0_changes, x0_coins, x0_goods, x0_good, x0_works, x0_work, x0_years, x0_gone, x0_spent, x0_at, x0_token, x0_from, x0_figures, x0_fault, x0_numbers, x0_statements, x0_left, x0_far, x0_tons, x0_way, x0_steps, x0_met, x0_queue, x0_totals) (-2)).bind (u2 fun v8 g9 => some (v8, g9))) else ((ck p1 7).bind fun q11 => (rd 5 (x0_work q11) p2).bind fun v12 => some (v12, x0_refused)))))) X0
set_option maxHeartbeats 4000000 in
set_option maxRecDepth 100000 in
theorem kX7_workOf (l : Launch) (d : DT) (h0 : Nat → Nat) (r0_rows : Nat → Nat) (r0_line : Nat → Nat) (r0_good : Nat → Nat) (r0_work : Nat → Nat) (a0_kept : Option Nat) (a0_tried : Option Nat) (a0_chosen : Option Nat) (x0_shelf : (Nat → Int32)) (x0_rowSort : (Nat → Int32)) (x0_rowSize : (Nat → Int32)) (x0_rows : (Nat → Nat → Int64)) (x0_moved : (Nat → Int64)) (x0_shown : (Nat → Int32)) (x0_tape : (Nat → Int32)) (x0_tapeSize : Int32) (x0_refused : (Nat → Int32)) (x0_lines : Int32) (x0_line : (Nat → Nat → Int32)) (x0_changes : (Nat → Int32)) (x0_coins : (Nat → Int32)) (x0_goods : Int32) (x0_good : (Nat → Nat → Int32)) (x0_works : Int32) (x0_work : (Nat → Nat → Int32)) (x0_years : Int32) (x0_gone : Int32) (x0_spent : Int32) (x0_at : Int32) (x0_token : Int32) (x0_from : Int32) (x0_figures : Int64) (x0_fault : Int32) (x0_numbers : (Nat → Int32)) (x0_statements : Int32) (x0_left : (Nat → Int32)) (x0_far : (Nat → Int32)) (x0_tons : Int32) (x0_way : (Nat → Int32)) (x0_steps : Int32) (x0_met : Int64) (x0_queue : (Nat → Int32)) (x0_totals : (Nat → Int32)) (p1 : Int32) (p2 : Int32)  {out : Int32 × (Nat → Int32)} (hf : fX7_workOf (x0_shelf, x0_rowSort, x0_rowSize, x0_rows, x0_moved, x0_shown, x0_tape, x0_tapeSize, x0_refused, x0_lines, x0_line, x0_changes, x0_coins, x0_goods, x0_good, x0_works, x0_work, x0_years, x0_gone, x0_spent, x0_at, x0_token, x0_from, x0_figures, x0_fault, x0_numbers, x0_statements, x0_left, x0_far, x0_tons, x0_way, x0_steps, x0_met, x0_queue, x0_totals) p1 p2 = some out) : Ct l d yX7_workOf cX7_workOf 3 (some .int) { frames := 2, cells := 0, slots := 0, locals := 46 } [.ref (h0 0), .int p1, .int p2] [gMd d h0 a0_kept a0_tried a0_chosen r0_rows r0_line r0_good r0_work x0_shelf x0_rowSort x0_rowSize x0_moved x0_shown x0_tape x0_tapeSize x0_refused x0_lines x0_changes x0_coins x0_goods x0_works x0_years x0_gone x0_spent x0_at x0_token x0_from x0_figures x0_fault x0_numbers x0_statements x0_left x0_far x0_tons x0_way x0_steps x0_met x0_queue x0_totals, gridI d r0_work 7 5 x0_work] (fun _ : Unit => (some (.int out.1), [gMd d h0 a0_kept a0_tried a0_chosen r0_rows r0_line r0_good r0_work x0_shelf x0_rowSort x0_rowSize x0_moved x0_shown x0_tape x0_tapeSize (out.2) x0_lines x0_changes x0_coins x0_goods x0_works x0_years x0_gone x0_spent x0_at x0_token x0_from x0_figures x0_fault x0_numbers x0_statements x0_left x0_far x0_tons x0_way x0_steps x0_met x0_queue x0_totals, gridI d r0_work 7 5 x0_work])) := by
  refine Ct.of (by decide) (Nat.le_of_ble_eq_true rfl) ?_
  intro Φ hl hK hR
  subst hl
  have hK : Ok d Φ RX7 "workOf" cX7_workOf 3 (some .int) { frames := 2, cells := 0, slots := 0, locals := 46 } := hK
  unfold fX7_workOf at hf
  have hf := un35 hf
  show J d Φ 3 [gMd d h0 a0_kept a0_tried a0_chosen r0_rows r0_line r0_good r0_work x0_shelf x0_rowSort x0_rowSize x0_moved x0_shown x0_tape x0_tapeSize x0_refused x0_lines x0_changes x0_coins x0_goods x0_works x0_years x0_gone x0_spent x0_at x0_token x0_from x0_figures x0_fault x0_numbers x0_statements x0_left x0_far x0_tons x0_way x0_steps x0_met x0_queue x0_totals, gridI d r0_work 7 5 x0_work] 0 0 0 [(0, .ref (h0 0)), (1, .int p1), (2, .int p2)] []
  refine J_aload_n hK qd3_81.1 rfl 0 rfl rfl ?_
  refine J_iload_n hK qd3_81.2.1 rfl 1 rfl rfl ?_
  obtain ⟨v1, e2, hf⟩ := bs hf
  refine J_callV (m := 2) (m' := 2) (ce' := 0) (sl' := 0) (gr := [gridI d r0_work 7 5 x0_work]) (gs' := fun _ => [gMd d h0 a0_kept a0_tried a0_chosen r0_rows r0_line r0_good r0_work x0_shelf x0_rowSort x0_rowSize x0_moved x0_shown x0_tape x0_tapeSize x0_refused x0_lines x0_changes x0_coins x0_goods x0_works x0_years x0_gone x0_spent x0_at x0_token x0_from x0_figures x0_fault x0_numbers x0_statements x0_left x0_far x0_tons x0_way x0_steps x0_met x0_queue x0_totals, gridI d r0_work 7 5 x0_work]) (st' := fun _ => [.int v1]) (st := []) hK qd3_81.2.2.1 cv_RX7_102 iv_yX7_isWork (As := [.int p1]) (kX7_isWork _ d h0 r0_rows r0_line r0_good r0_work a0_kept a0_tried a0_chosen x0_shelf x0_rowSort x0_rowSize x0_rows x0_moved x0_shown x0_tape x0_tapeSize x0_refused x0_lines x0_line x0_changes x0_coins x0_goods x0_good x0_works x0_work x0_years x0_gone x0_spent x0_at x0_token x0_from x0_figures x0_fault x0_numbers x0_statements x0_left x0_far x0_tons x0_way x0_steps x0_met x0_queue x0_totals p1 e2) rfl rfl (Nat.le_of_ble_eq_true rfl) (by decide) 0 0 rfl rfl rfl [0] [1] rfl (by decide +kernel) rfl rfl [1, 0] (by decide +kernel) (fun _ => rfl) (fun _ => rfl) rfl rfl rfl (fun _ => rfl) (fun _ => ?_)
  refine J_if_eq (tg := 31) hK qd3_81.2.2.2.1 rfl rfl (fun hc5 => ?_) (fun hc5 => ?_)
  · have hf := ip hc5 hf
    refine J_aload_n hK qd3_82.2.1 rfl 0 rfl rfl ?_
    refine J_bipush (v := (-2)) hK qd3_82.2.2.1 rfl (by decide) ?_
    obtain ⟨⟨v3, g4⟩, e5, hf⟩ := bs hf
    have hf := un2 hf
    refine J_callV (m := 2) (m' := 2) (ce' := 0) (sl' := 0) (gr := [gridI d r0_work 7 5 x0_work]) (gs' := fun _ => [gMd d h0 a0_kept a0_tried a0_chosen r0_rows r0_line r0_good r0_work x0_shelf x0_rowSort x0_rowSize x0_moved x0_shown x0_tape x0_tapeSize g4 x0_lines x0_changes x0_coins x0_goods x0_works x0_years x0_gone x0_spent x0_at x0_token x0_from x0_figures x0_fault x0_numbers x0_statements x0_left x0_far x0_tons x0_way x0_steps x0_met x0_queue x0_totals, gridI d r0_work 7 5 x0_work]) (st' := fun _ => [.int v3]) (st := []) hK qd3_82.2.2.2.1 cv_RX7_94 iv_yX7_refuse (As := [.int (-2)]) (kX7_refuse _ d h0 r0_rows r0_line r0_good r0_work a0_kept a0_tried a0_chosen x0_shelf x0_rowSort x0_rowSize x0_rows x0_moved x0_shown x0_tape x0_tapeSize x0_refused x0_lines x0_line x0_changes x0_coins x0_goods x0_good x0_works x0_work x0_years x0_gone x0_spent x0_at x0_token x0_from x0_figures x0_fault x0_numbers x0_statements x0_left x0_far x0_tons x0_way x0_steps x0_met x0_queue x0_totals (-2) e5) rfl rfl (Nat.le_of_ble_eq_true rfl) (by decide) 0 0 rfl rfl rfl [0] [1] rfl (by decide +kernel) rfl rfl [1, 0] (by decide +kernel) (fun _ => rfl) (fun _ => rfl) rfl rfl rfl (fun _ => rfl) (fun _ => ?_)
    obtain rfl := Option.some.inj hf
    exact J_iret hK hR qd3_82.2.2.2.2.1 () rfl (by decide) (by decide)
  · have hf := iq hc5 hf
    refine J_iload_n hK qd3_81.2.2.2.2.1 rfl 2 rfl rfl ?_
    refine J_i2l hK qd3_81.2.2.2.2.2.1 rfl ?_
    refine J_lconst (v := 0) hK qd3_81.2.2.2.2.2.2.1 rfl (by decide) ?_
    refine J_ldc2 (v := (4 : Int64)) hK qd3_81.2.2.2.2.2.2.2.1 rfl wk_RX7_90 ?_
    obtain ⟨v6, e7, hf⟩ := bs hf
    refine J_callS (m := 2) (m' := 2) (ce' := 0) (sl' := 0) (gr := [gMd d h0 a0_kept a0_tried a0_chosen r0_rows r0_line r0_good r0_work x0_shelf x0_rowSort x0_rowSize x0_moved x0_shown x0_tape x0_tapeSize x0_refused x0_lines x0_changes x0_coins x0_goods x0_works x0_years x0_gone x0_spent x0_at x0_token x0_from x0_figures x0_fault x0_numbers x0_statements x0_left x0_far x0_tons x0_way x0_steps x0_met x0_queue x0_totals, gridI d r0_work 7 5 x0_work]) (gs' := fun _ => [gMd d h0 a0_kept a0_tried a0_chosen r0_rows r0_line r0_good r0_work x0_shelf x0_rowSort x0_rowSize x0_moved x0_shown x0_tape x0_tapeSize x0_refused x0_lines x0_changes x0_coins x0_goods x0_works x0_years x0_gone x0_spent x0_at x0_token x0_from x0_figures x0_fault x0_numbers x0_statements x0_left x0_far x0_tons x0_way x0_steps x0_met x0_queue x0_totals, gridI d r0_work 7 5 x0_work]) (st' := fun _ => [.int v6]) (st := []) hK qd3_81.2.2.2.2.2.2.2.2.1 cv_RX7_78 ws_yX7_in (As := [.long ((p2).toInt64), .long (0 : Int64), .long (4 : Int64)]) (kX7_in _ d ((p2).toInt64) (0 : Int64) (4 : Int64) e7) rfl rfl (Nat.le_of_ble_eq_true rfl) (by decide) [] [0, 1] rfl (by decide +kernel) rfl rfl [0, 1] (by decide +kernel) (fun _ => rfl) (fun _ => rfl) rfl rfl rfl (fun _ => rfl) (fun _ => ?_)
    refine J_if_eq (tg := 31) hK qd3_81.2.2.2.2.2.2.2.2.2.1 rfl rfl (fun hc17 => ?_) (fun hc17 => ?_)
    · have hf := ip hc17 hf
      refine J_aload_n hK qd3_82.2.1 rfl 0 rfl rfl ?_
      refine J_bipush (v := (-2)) hK qd3_82.2.2.1 rfl (by decide) ?_
      obtain ⟨⟨v8, g9⟩, e10, hf⟩ := bs hf
      have hf := un2 hf
      refine J_callV (m := 2) (m' := 2) (ce' := 0) (sl' := 0) (gr := [gridI d r0_work 7 5 x0_work]) (gs' := fun _ => [gMd d h0 a0_kept a0_tried a0_chosen r0_rows r0_line r0_good r0_work x0_shelf x0_rowSort x0_rowSize x0_moved x0_shown x0_tape x0_tapeSize g9 x0_lines x0_changes x0_coins x0_goods x0_works x0_years x0_gone x0_spent x0_at x0_token x0_from x0_figures x0_fault x0_numbers x0_statements x0_left x0_far x0_tons x0_way x0_steps x0_met x0_queue x0_totals, gridI d r0_work 7 5 x0_work]) (st' := fun _ => [.int v8]) (st := []) hK qd3_82.2.2.2.1 cv_RX7_94 iv_yX7_refuse (As := [.int (-2)]) (kX7_refuse _ d h0 r0_rows r0_line r0_good r0_work a0_kept a0_tried a0_chosen x0_shelf x0_rowSort x0_rowSize x0_rows x0_moved x0_shown x0_tape x0_tapeSize x0_refused x0_lines x0_line x0_changes x0_coins x0_goods x0_good x0_works x0_work x0_years x0_gone x0_spent x0_at x0_token x0_from x0_figures x0_fault x0_numbers x0_statements x0_left x0_far x0_tons x0_way x0_steps x0_met x0_queue x0_totals (-2) e10) rfl rfl (Nat.le_of_ble_eq_true rfl) (by decide) 0 0 rfl rfl rfl [0] [1] rfl (by decide +kernel) rfl rfl [1, 0] (by decide +kernel) (fun _ => rfl) (fun _ => rfl) rfl rfl rfl (fun _ => rfl) (fun _ => ?_)
      obtain rfl := Option.some.inj hf
      exact J_iret hK hR qd3_82.2.2.2.2.1 () rfl (by decide) (by decide)
    · have hf := iq hc17 hf
      refine J_aload_n hK qd3_81.2.2.2.2.2.2.2.2.2.2.1 rfl 0 rfl rfl ?_
      refine J_get hK fo_RX7_51 qd3_81.2.2.2.2.2.2.2.2.2.2.2.1 rfl 0 0 rfl rfl rfl ?_
      refine J_iload_n hK qd3_81.2.2.2.2.2.2.2.2.2.2.2.2.1 rfl 1 rfl rfl ?_
      obtain ⟨q11, eq11, hf⟩ := bs hf
      refine J_aald hK qd3_81.2.2.2.2.2.2.2.2.2.2.2.2.2.1 rfl 0 13 rfl rfl rfl eq11 ?_
      refine J_iload_n hK qd3_81.2.2.2.2.2.2.2.2.2.2.2.2.2.2.1 rfl 2 rfl rfl ?_
      obtain ⟨v12, ev12, hf⟩ := bs hf
      refine J_iald hK qd3_81.2.2.2.2.2.2.2.2.2.2.2.2.2.2.2.1 rfl 1 q11 rfl (gridI_at (ck_ok eq11).2.2) ev12 ?_
      refine J_goto hK qd3_82.1 (n := 37) rfl ?_
      obtain rfl := Option.some.inj hf
      exact J_iret hK hR qd3_82.2.2.2.2.1 () rfl (by decide) (by decide)

def fX7_bears (X0 : MdT) (p1 : Int32) (p2 : Int32) : Option (Int32) :=
  u35 (fun (x0_shelf : (Nat → Int32)) (x0_rowSort : (Nat → Int32)) (x0_rowSize : (Nat → Int32)) (x0_rows : (Nat → Nat → Int64)) (x0_moved : (Nat → Int64)) (x0_shown : (Nat → Int32)) (x0_tape : (Nat → Int32)) (x0_tapeSize : Int32) (x0_refused : (Nat → Int32)) (x0_lines : Int32) (x0_line : (Nat → Nat → Int32)) (x0_changes : (Nat → Int32)) (x0_coins : (Nat → Int32)) (x0_goods : Int32) (x0_good : (Nat → Nat → Int32)) (x0_works : Int32) (x0_work : (Nat → Nat → Int32)) (x0_years : Int32) (x0_gone : Int32) (x0_spent : Int32) (x0_at : Int32) (x0_token : Int32) (x0_from : Int32) (x0_figures : Int64) (x0_fault : Int32) (x0_numbers : (Nat → Int32)) (x0_statements : Int32) (x0_left : (Nat → Int32)) (x0_far : (Nat → Int32)) (x0_tons : Int32) (x0_way : (Nat → Int32)) (x0_steps : Int32) (x0_met : Int64) (x0_queue : (Nat → Int32)) (x0_totals : (Nat → Int32)) => (ck p1 20).bind fun q1 => (rd 7 (x0_line q1) (6)).bind fun v2 => if v2 = 0 then ((ck p1 20).bind fun q3 => (rd 7 (x0_line q3) (2)).bind fun v4 => if ((v4 >>> (p2 &&& 31)) &&& 1) = 0 then (some (0)) else ((rd 20 x0_left p1).bind fun v5 => if v5 < x0_tons then (some (0)) else (some (1)))) else (some (0))) X0
set_option maxHeartbeats 4000000 in
set_option maxRecDepth 100000 in
theorem kX7_bears (l : Launch) (d : DT) (h0 : Nat → Nat) (r0_rows : Nat → Nat) (r0_line : Nat → Nat) (r0_good : Nat → Nat) (r0_work : Nat → Nat) (a0_kept : Option Nat) (a0_tried : Option Nat) (a0_chosen : Option Nat) (x0_shelf : (Nat → Int32)) (x0_rowSort : (Nat → Int32)) (x0_rowSize : (Nat → Int32)) (x0_rows : (Nat → Nat → Int64)) (x0_moved : (Nat → Int64)) (x0_shown : (Nat → Int32)) (x0_tape : (Nat → Int32)) (x0_tapeSize : Int32) (x0_refused : (Nat → Int32)) (x0_lines : Int32) (x0_line : (Nat → Nat → Int32)) (x0_changes : (Nat → Int32)) (x0_coins : (Nat → Int32)) (x0_goods : Int32) (x0_good : (Nat → Nat → Int32)) (x0_works : Int32) (x0_work : (Nat → Nat → Int32)) (x0_years : Int32) (x0_gone : Int32) (x0_spent : Int32) (x0_at : Int32) (x0_token : Int32) (x0_from : Int32) (x0_figures : Int64) (x0_fault : Int32) (x0_numbers : (Nat → Int32)) (x0_statements : Int32) (x0_left : (Nat → Int32)) (x0_far : (Nat → Int32)) (x0_tons : Int32) (x0_way : (Nat → Int32)) (x0_steps : Int32) (x0_met : Int64) (x0_queue : (Nat → Int32)) (x0_totals : (Nat → Int32)) (p1 : Int32) (p2 : Int32)  {out : Int32} (hf : fX7_bears (x0_shelf, x0_rowSort, x0_rowSize, x0_rows, x0_moved, x0_shown, x0_tape, x0_tapeSize, x0_refused, x0_lines, x0_line, x0_changes, x0_coins, x0_goods, x0_good, x0_works, x0_work, x0_years, x0_gone, x0_spent, x0_at, x0_token, x0_from, x0_figures, x0_fault, x0_numbers, x0_statements, x0_left, x0_far, x0_tons, x0_way, x0_steps, x0_met, x0_queue, x0_totals) p1 p2 = some out) : Ct l d yX7_bears cX7_bears 3 (some .boolean) { frames := 0, cells := 0, slots := 0, locals := 0 } [.ref (h0 0), .int p1, .int p2] [gMd d h0 a0_kept a0_tried a0_chosen r0_rows r0_line r0_good r0_work x0_shelf x0_rowSort x0_rowSize x0_moved x0_shown x0_tape x0_tapeSize x0_refused x0_lines x0_changes x0_coins x0_goods x0_works x0_years x0_gone x0_spent x0_at x0_token x0_from x0_figures x0_fault x0_numbers x0_statements x0_left x0_far x0_tons x0_way x0_steps x0_met x0_queue x0_totals, gridI d r0_line 20 7 x0_line] (fun _ : Unit => (some (.int out), [gMd d h0 a0_kept a0_tried a0_chosen r0_rows r0_line r0_good r0_work x0_shelf x0_rowSort x0_rowSize x0_moved x0_shown x0_tape x0_tapeSize x0_refused x0_lines x0_changes x0_coins x0_goods x0_works x0_years x0_gone x0_spent x0_at x0_token x0_from x0_figures x0_fault x0_numbers x0_statements x0_left x0_far x0_tons x0_way x0_steps x0_met x0_queue x0_totals, gridI d r0_line 20 7 x0_line])) := by
  refine Ct.of (by decide) (Nat.le_of_ble_eq_true rfl) ?_
  intro Φ hl hK hR
  subst hl
  have hK : Ok d Φ RX7 "bears" cX7_bears 3 (some .boolean) { frames := 0, cells := 0, slots := 0, locals := 0 } := hK
  unfold fX7_bears at hf
  have hf := un35 hf
  show J d Φ 3 [gMd d h0 a0_kept a0_tried a0_chosen r0_rows r0_line r0_good r0_work x0_shelf x0_rowSort x0_rowSize x0_moved x0_shown x0_tape x0_tapeSize x0_refused x0_lines x0_changes x0_coins x0_goods x0_works x0_years x0_gone x0_spent x0_at x0_token x0_from x0_figures x0_fault x0_numbers x0_statements x0_left x0_far x0_tons x0_way x0_steps x0_met x0_queue x0_totals, gridI d r0_line 20 7 x0_line] 0 0 0 [(0, .ref (h0 0)), (1, .int p1), (2, .int p2)] []
  refine J_aload_n hK qd3_83.1 rfl 0 rfl rfl ?_
  refine J_get hK fo_RX7_39 qd3_83.2.1 rfl 0 0 rfl rfl rfl ?_
  refine J_iload_n hK qd3_83.2.2.1 rfl 1 rfl rfl ?_
  obtain ⟨q1, eq1, hf⟩ := bs hf
  refine J_aald hK qd3_83.2.2.2.1 rfl 0 9 rfl rfl rfl eq1 ?_
  refine J_bipush (v := 6) hK qd3_83.2.2.2.2.1 rfl (by decide) ?_
  obtain ⟨v2, ev2, hf⟩ := bs hf
  refine J_iald hK qd3_83.2.2.2.2.2.1 rfl 1 q1 rfl (gridI_at (ck_ok eq1).2.2) ev2 ?_
  refine J_if_ne (tg := 44) hK qd3_83.2.2.2.2.2.2.1 rfl rfl (fun hc9 => ?_) (fun hc9 => ?_)
  · have hf := iq hc9 hf
    refine J_iconst (v := 0) hK qd3_84.2.2.2.2.2.2.2.2.2.2.2.1 rfl (by decide) ?_
    obtain rfl := Option.some.inj hf
    exact J_zret hK hR qd3_84.2.2.2.2.2.2.2.2.2.2.2.2.1 () rfl rfl (by decide) (by decide)
  · have hf := ip hc9 hf
    refine J_aload_n hK qd3_83.2.2.2.2.2.2.2.1 rfl 0 rfl rfl ?_
    refine J_get hK fo_RX7_39 qd3_83.2.2.2.2.2.2.2.2.1 rfl 0 0 rfl rfl rfl ?_
    refine J_iload_n hK qd3_83.2.2.2.2.2.2.2.2.2.1 rfl 1 rfl rfl ?_
    obtain ⟨q3, eq3, hf⟩ := bs hf
    refine J_aald hK qd3_83.2.2.2.2.2.2.2.2.2.2.1 rfl 0 9 rfl rfl rfl eq3 ?_
    refine J_iconst (v := 2) hK qd3_83.2.2.2.2.2.2.2.2.2.2.2.1 rfl (by decide) ?_
    obtain ⟨v4, ev4, hf⟩ := bs hf
    refine J_iald hK qd3_83.2.2.2.2.2.2.2.2.2.2.2.2.1 rfl 1 q3 rfl (gridI_at (ck_ok eq3).2.2) ev4 ?_
    refine J_iload_n hK qd3_83.2.2.2.2.2.2.2.2.2.2.2.2.2.1 rfl 2 rfl rfl ?_
    refine J_ishr hK qd3_83.2.2.2.2.2.2.2.2.2.2.2.2.2.2.1 rfl ?_
    refine J_iconst (v := 1) hK qd3_83.2.2.2.2.2.2.2.2.2.2.2.2.2.2.2.1 rfl (by decide) ?_
    refine J_iand hK qd3_84.1 rfl ?_
    refine J_if_eq (tg := 44) hK qd3_84.2.1 rfl rfl (fun hc24 => ?_) (fun hc24 => ?_)
    · have hf := ip hc24 hf
      refine J_iconst (v := 0) hK qd3_84.2.2.2.2.2.2.2.2.2.2.2.1 rfl (by decide) ?_
      obtain rfl := Option.some.inj hf
      exact J_zret hK hR qd3_84.2.2.2.2.2.2.2.2.2.2.2.2.1 () rfl rfl (by decide) (by decide)
    · have hf := iq hc24 hf
      refine J_aload_n hK qd3_84.2.2.1 rfl 0 rfl rfl ?_
      refine J_get hK fo_RX7_61 qd3_84.2.2.2.1 rfl 0 0 rfl rfl rfl ?_
      refine J_iload_n hK qd3_84.2.2.2.2.1 rfl 1 rfl rfl ?_
      obtain ⟨v5, ev5, hf⟩ := bs hf
      refine J_iald hK qd3_84.2.2.2.2.2.1 rfl 0 15 rfl rfl ev5 ?_
      refine J_aload_n hK qd3_84.2.2.2.2.2.2.1 rfl 0 rfl rfl ?_
      refine J_get hK fo_RX7_251 qd3_84.2.2.2.2.2.2.2.1 rfl 0 0 rfl rfl rfl ?_
      refine J_icmp_lt (tg := 44) hK qd3_84.2.2.2.2.2.2.2.2.1 rfl rfl (fun hc37 => ?_) (fun hc37 => ?_)
      · have hf := ip hc37 hf
        refine J_iconst (v := 0) hK qd3_84.2.2.2.2.2.2.2.2.2.2.2.1 rfl (by decide) ?_
        obtain rfl := Option.some.inj hf
        exact J_zret hK hR qd3_84.2.2.2.2.2.2.2.2.2.2.2.2.1 () rfl rfl (by decide) (by decide)
      · have hf := iq hc37 hf
        refine J_iconst (v := 1) hK qd3_84.2.2.2.2.2.2.2.2.2.1 rfl (by decide) ?_
        refine J_goto hK qd3_84.2.2.2.2.2.2.2.2.2.2.1 (n := 45) rfl ?_
        obtain rfl := Option.some.inj hf
        exact J_zret hK hR qd3_84.2.2.2.2.2.2.2.2.2.2.2.2.1 () rfl rfl (by decide) (by decide)

def fX7_refill_s2 (x0_lines : Int32) (x0_line : (Nat → Nat → Int32)) (z2 : Int32) (z3 : (Nat → Int32)) : Option ((Int32 × (Nat → Int32)) ⊕ ((Nat → Int32))) :=
  if x0_lines ≤ z2 then (some (.inr z3)) else ((ck z2 20).bind fun q6 => (rd 7 (x0_line q6) (4)).bind fun v7 => (wr 20 z3 z2 v7).bind fun f8 => some (.inl ((z2 + 1), f8)))
def fX7_refill (n : Nat) (X0 : MdT) : Option ((Nat → Int32)) :=
  u35 (fun (x0_shelf : (Nat → Int32)) (x0_rowSort : (Nat → Int32)) (x0_rowSize : (Nat → Int32)) (x0_rows : (Nat → Nat → Int64)) (x0_moved : (Nat → Int64)) (x0_shown : (Nat → Int32)) (x0_tape : (Nat → Int32)) (x0_tapeSize : Int32) (x0_refused : (Nat → Int32)) (x0_lines : Int32) (x0_line : (Nat → Nat → Int32)) (x0_changes : (Nat → Int32)) (x0_coins : (Nat → Int32)) (x0_goods : Int32) (x0_good : (Nat → Nat → Int32)) (x0_works : Int32) (x0_work : (Nat → Nat → Int32)) (x0_years : Int32) (x0_gone : Int32) (x0_spent : Int32) (x0_at : Int32) (x0_token : Int32) (x0_from : Int32) (x0_figures : Int64) (x0_fault : Int32) (x0_numbers : (Nat → Int32)) (x0_statements : Int32) (x0_left : (Nat → Int32)) (x0_far : (Nat → Int32)) (x0_tons : Int32) (x0_way : (Nat → Int32)) (x0_steps : Int32) (x0_met : Int64) (x0_queue : (Nat → Int32)) (x0_totals : (Nat → Int32)) => (lp (u2 (fX7_refill_s2 x0_lines x0_line)) n (0, x0_left)).bind (fun w5 => some w5)) X0
set_option maxHeartbeats 4000000 in
set_option maxRecDepth 100000 in
theorem kX7_refill (l : Launch) (d : DT) (h0 : Nat → Nat) (r0_rows : Nat → Nat) (r0_line : Nat → Nat) (r0_good : Nat → Nat) (r0_work : Nat → Nat) (a0_kept : Option Nat) (a0_tried : Option Nat) (a0_chosen : Option Nat) (n : Nat) (x0_shelf : (Nat → Int32)) (x0_rowSort : (Nat → Int32)) (x0_rowSize : (Nat → Int32)) (x0_rows : (Nat → Nat → Int64)) (x0_moved : (Nat → Int64)) (x0_shown : (Nat → Int32)) (x0_tape : (Nat → Int32)) (x0_tapeSize : Int32) (x0_refused : (Nat → Int32)) (x0_lines : Int32) (x0_line : (Nat → Nat → Int32)) (x0_changes : (Nat → Int32)) (x0_coins : (Nat → Int32)) (x0_goods : Int32) (x0_good : (Nat → Nat → Int32)) (x0_works : Int32) (x0_work : (Nat → Nat → Int32)) (x0_years : Int32) (x0_gone : Int32) (x0_spent : Int32) (x0_at : Int32) (x0_token : Int32) (x0_from : Int32) (x0_figures : Int64) (x0_fault : Int32) (x0_numbers : (Nat → Int32)) (x0_statements : Int32) (x0_left : (Nat → Int32)) (x0_far : (Nat → Int32)) (x0_tons : Int32) (x0_way : (Nat → Int32)) (x0_steps : Int32) (x0_met : Int64) (x0_queue : (Nat → Int32)) (x0_totals : (Nat → Int32))  {out : (Nat → Int32)} (hf : fX7_refill n (x0_shelf, x0_rowSort, x0_rowSize, x0_rows, x0_moved, x0_shown, x0_tape, x0_tapeSize, x0_refused, x0_lines, x0_line, x0_changes, x0_coins, x0_goods, x0_good, x0_works, x0_work, x0_years, x0_gone, x0_spent, x0_at, x0_token, x0_from, x0_figures, x0_fault, x0_numbers, x0_statements, x0_left, x0_far, x0_tons, x0_way, x0_steps, x0_met, x0_queue, x0_totals) = some out) : Ct l d yX7_refill cX7_refill 2 none { frames := 0, cells := 0, slots := 0, locals := 0 } [.ref (h0 0)] [gMd d h0 a0_kept a0_tried a0_chosen r0_rows r0_line r0_good r0_work x0_shelf x0_rowSort x0_rowSize x0_moved x0_shown x0_tape x0_tapeSize x0_refused x0_lines x0_changes x0_coins x0_goods x0_works x0_years x0_gone x0_spent x0_at x0_token x0_from x0_figures x0_fault x0_numbers x0_statements x0_left x0_far x0_tons x0_way x0_steps x0_met x0_queue x0_totals, gridI d r0_line 20 7 x0_line] (fun _ : Unit => (none, [gMd d h0 a0_kept a0_tried a0_chosen r0_rows r0_line r0_good r0_work x0_shelf x0_rowSort x0_rowSize x0_moved x0_shown x0_tape x0_tapeSize x0_refused x0_lines x0_changes x0_coins x0_goods x0_works x0_years x0_gone x0_spent x0_at x0_token x0_from x0_figures x0_fault x0_numbers x0_statements out x0_far x0_tons x0_way x0_steps x0_met x0_queue x0_totals, gridI d r0_line 20 7 x0_line])) := by
  refine Ct.of (by decide) (Nat.le_of_ble_eq_true rfl) ?_
  intro Φ hl hK hR
  subst hl
  have hK : Ok d Φ RX7 "refill" cX7_refill 2 none { frames := 0, cells := 0, slots := 0, locals := 0 } := hK
  unfold fX7_refill at hf
  have hf := un35 hf
  show J d Φ 2 [gMd d h0 a0_kept a0_tried a0_chosen r0_rows r0_line r0_good r0_work x0_shelf x0_rowSort x0_rowSize x0_moved x0_shown x0_tape x0_tapeSize x0_refused x0_lines x0_changes x0_coins x0_goods x0_works x0_years x0_gone x0_spent x0_at x0_token x0_from x0_figures x0_fault x0_numbers x0_statements x0_left x0_far x0_tons x0_way x0_steps x0_met x0_queue x0_totals, gridI d r0_line 20 7 x0_line] 0 0 0 [(0, .ref (h0 0))] []
  refine J_iconst (v := 0) hK qd3_85.1 rfl (by decide) ?_
  refine J_istore_n (L' := [(1, .int (0)), (0, .ref (h0 0))]) hK qd3_85.2.1 rfl rfl (by decide) rfl ?_
  obtain ⟨e4, hl1, hf⟩ := bs hf
  have hx1_30 : ∀ (w5 : (Nat → Int32)), w5 = e4 → J d Φ 2 [gMd d h0 a0_kept a0_tried a0_chosen r0_rows r0_line r0_good r0_work x0_shelf x0_rowSort x0_rowSize x0_moved x0_shown x0_tape x0_tapeSize x0_refused x0_lines x0_changes x0_coins x0_goods x0_works x0_years x0_gone x0_spent x0_at x0_token x0_from x0_figures x0_fault x0_numbers x0_statements w5 x0_far x0_tons x0_way x0_steps x0_met x0_queue x0_totals, gridI d r0_line 20 7 x0_line] 0 0 30 [] [] := by
    intro w5 he
    rw [← he] at hf
    obtain rfl := Option.some.inj hf
    exact J_vret hK hR qd3_86.2.2.1 () rfl (by decide) (by decide)
  have lo1 : ∀ (k : Nat) (z2 : Int32) (z3 : (Nat → Int32)), lp (u2 (fX7_refill_s2 x0_lines x0_line)) k (z2, z3) = some e4 → J d Φ 2 [gMd d h0 a0_kept a0_tried a0_chosen r0_rows r0_line r0_good r0_work x0_shelf x0_rowSort x0_rowSize x0_moved x0_shown x0_tape x0_tapeSize x0_refused x0_lines x0_changes x0_coins x0_goods x0_works x0_years x0_gone x0_spent x0_at x0_token x0_from x0_figures x0_fault x0_numbers x0_statements z3 x0_far x0_tons x0_way x0_steps x0_met x0_queue x0_totals, gridI d r0_line 20 7 x0_line] 0 0 2 [(0, .ref (h0 0)), (1, .int z2)] [] := by
    intro k
    induction k with
    | zero => intro z2 z3 h; cases h
    | succ k ih1 =>
      intro z2 z3 h
      obtain ⟨k2, rr1, hk2, hs1, hr1⟩ := lp_ok h
      cases hk2
      have hs1 : fX7_refill_s2 x0_lines x0_line z2 z3 = some rr1 := hs1
      unfold fX7_refill_s2 at hs1
      refine J_iload_n hK qd3_85.2.2.1 rfl 1 rfl rfl ?_
      refine J_aload_n hK qd3_85.2.2.2.1 rfl 0 rfl rfl ?_
      refine J_get hK fo_RX7_82 qd3_85.2.2.2.2.1 rfl 0 0 rfl rfl rfl ?_
      refine J_icmp_ge (tg := 30) hK qd3_85.2.2.2.2.2.1 rfl rfl (fun hc7 => ?_) (fun hc7 => ?_)
      · have hs1 := ip hc7 hs1
        exact J_loc [] rfl (hx1_30 z3 (lpx hs1 hr1))
      · have hs1 := iq hc7 hs1
        refine J_aload_n hK qd3_85.2.2.2.2.2.2.1 rfl 0 rfl rfl ?_
        refine J_get hK fo_RX7_61 qd3_85.2.2.2.2.2.2.2.1 rfl 0 0 rfl rfl rfl ?_
        refine J_iload_n hK qd3_85.2.2.2.2.2.2.2.2.1 rfl 1 rfl rfl ?_
        refine J_aload_n hK qd3_85.2.2.2.2.2.2.2.2.2.1 rfl 0 rfl rfl ?_
        refine J_get hK fo_RX7_39 qd3_85.2.2.2.2.2.2.2.2.2.2.1 rfl 0 0 rfl rfl rfl ?_
        refine J_iload_n hK qd3_85.2.2.2.2.2.2.2.2.2.2.2.1 rfl 1 rfl rfl ?_
        obtain ⟨q6, eq6, hs1⟩ := bs hs1
        refine J_aald hK qd3_85.2.2.2.2.2.2.2.2.2.2.2.2.1 rfl 0 9 rfl rfl rfl eq6 ?_
        refine J_iconst (v := 4) hK qd3_85.2.2.2.2.2.2.2.2.2.2.2.2.2.1 rfl (by decide) ?_
        obtain ⟨v7, ev7, hs1⟩ := bs hs1
        refine J_iald hK qd3_85.2.2.2.2.2.2.2.2.2.2.2.2.2.2.1 rfl 1 q6 rfl (gridI_at (ck_ok eq6).2.2) ev7 ?_
        obtain ⟨f8, ef8, hs1⟩ := bs hs1
        refine J_iast (g' := gMd d h0 a0_kept a0_tried a0_chosen r0_rows r0_line r0_good r0_work x0_shelf x0_rowSort x0_rowSize x0_moved x0_shown x0_tape x0_tapeSize x0_refused x0_lines x0_changes x0_coins x0_goods x0_works x0_years x0_gone x0_spent x0_at x0_token x0_from x0_figures x0_fault x0_numbers x0_statements f8 x0_far x0_tons x0_way x0_steps x0_met x0_queue x0_totals) (gs' := [gMd d h0 a0_kept a0_tried a0_chosen r0_rows r0_line r0_good r0_work x0_shelf x0_rowSort x0_rowSize x0_moved x0_shown x0_tape x0_tapeSize x0_refused x0_lines x0_changes x0_coins x0_goods x0_works x0_years x0_gone x0_spent x0_at x0_token x0_from x0_figures x0_fault x0_numbers x0_statements f8 x0_far x0_tons x0_way x0_steps x0_met x0_queue x0_totals, gridI d r0_line 20 7 x0_line]) hK qd3_85.2.2.2.2.2.2.2.2.2.2.2.2.2.2.2.1 rfl 0 15 rfl rfl ef8 rfl rfl ?_
        refine J_iinc (L' := [(1, .int (z2 + 1)), (0, .ref (h0 0))]) (v := (z2 + 1)) hK qd3_86.1 rfl 1 rfl rfl (by decide) rfl ?_
        refine J_goto hK qd3_86.2.1 (n := 2) rfl ?_
        exact J_loc [1, 0] rfl (ih1 (z2 + 1) f8 (lpc hs1 hr1))
  exact J_loc [1, 0] rfl (lo1 n (0) x0_left hl1)

def fX7_findFar_s232 (x0_changes : (Nat → Int32)) (z20 : Int32) (z26 : Int32) (z27 : Int32) (z28 : (Nat → Int32)) : Option ((Int32 × Int32 × (Nat → Int32)) ⊕ (Int32 × (Nat → Int32))) :=
  if 3 ≤ z27 then (some (.inr (z26, z28))) else ((rd 36 z28 (((z20 / 3) * 3) + z27)).bind fun v32 => (rd 12 x0_changes (z20 / 3)).bind fun v33 => (rd 36 z28 z20).bind fun v34 => if v34 ≤ (v32 + v33) then (some (.inl (z26, (z27 + 1), z28))) else ((rd 36 z28 (((z20 / 3) * 3) + z27)).bind fun v35 => (rd 12 x0_changes (z20 / 3)).bind fun v36 => (wr 36 z28 z20 (v35 + v36)).bind fun f37 => some (.inl (1, (z27 + 1), f37))))
def fX7_findFar_s222 (n : Nat) (x0_changes : (Nat → Int32)) (z19 : Int32) (z20 : Int32) (z21 : (Nat → Int32)) : Option ((Int32 × Int32 × (Nat → Int32)) ⊕ (Int32 × (Nat → Int32))) :=
  if 36 ≤ z20 then (some (.inr (z19, z21))) else ((lp (u3 (fX7_findFar_s232 x0_changes z20)) n (z19, 0, z21)).bind (u2 fun w30 w31 => some (.inl (w30, (z20 + 1), w31))))
def fX7_findFar_j168 (z40 : Int32) (v48 : Int32) (v50 : Int32) (v52 : Int32) (v53 : Int32) (x56 : (Nat → Int32)) (y57 : Int32) : Option ((Int32 × Int32 × (Nat → Int32)) ⊕ (Int32 × (Nat → Int32))) :=
  (rd 36 x56 ((3 * v48) + z40)).bind fun v58 => (rd 36 x56 ((3 * v50) + z40)).bind fun v59 => if v59 ≤ (v58 + (v52 * v53)) then (some (.inl (y57, (z40 + 1), x56))) else ((rd 36 x56 ((3 * v48) + z40)).bind fun v60 => (wr 36 x56 ((3 * v50) + z40) (v60 + (v52 * v53))).bind fun f61 => some (.inl (1, (z40 + 1), f61)))
def fX7_findFar_s61 (p2 : Int32) (x0_shelf : (Nat → Int32)) (x0_rowSort : (Nat → Int32)) (x0_rowSize : (Nat → Int32)) (x0_rows : (Nat → Nat → Int64)) (x0_moved : (Nat → Int64)) (x0_shown : (Nat → Int32)) (x0_tape : (Nat → Int32)) (x0_tapeSize : Int32) (x0_refused : (Nat → Int32)) (x0_lines : Int32) (x0_line : (Nat → Nat → Int32)) (x0_changes : (Nat → Int32)) (x0_coins : (Nat → Int32)) (x0_goods : Int32) (x0_good : (Nat → Nat → Int32)) (x0_works : Int32) (x0_work : (Nat → Nat → Int32)) (x0_years : Int32) (x0_gone : Int32) (x0_spent : Int32) (x0_at : Int32) (x0_token : Int32) (x0_from : Int32) (x0_figures : Int64) (x0_fault : Int32) (x0_numbers : (Nat → Int32)) (x0_statements : Int32) (x0_left : (Nat → Int32)) (x0_way : (Nat → Int32)) (x0_steps : Int32) (x0_met : Int64) (x0_queue : (Nat → Int32)) (x0_totals : (Nat → Int32)) (z13 : Int32) (z39 : Int32) (z40 : Int32) (z41 : (Nat → Int32)) : Option ((Int32 × Int32 × (Nat → Int32)) ⊕ (Int32 × (Nat → Int32))) :=
  if 3 ≤ z40 then (some (.inr (z39, z41))) else ((fX7_bears (x0_shelf, x0_rowSort, x0_rowSize, x0_rows, x0_moved, x0_shown, x0_tape, x0_tapeSize, x0_refused, x0_lines, x0_line, x0_changes, x0_coins, x0_goods, x0_good, x0_works, x0_work, x0_years, x0_gone, x0_spent, x0_at, x0_token, x0_from, x0_figures, x0_fault, x0_numbers, x0_statements, x0_left, z41, p2, x0_way, x0_steps, x0_met, x0_queue, x0_totals) z13 z40).bind (fun v45 => if v45 = 0 then (some (.inl (z39, (z40 + 1), z41))) else ((ck z13 20).bind fun q47 => (rd 7 (x0_line q47) (0)).bind fun v48 => (ck z13 20).bind fun q49 => (rd 7 (x0_line q49) (1)).bind fun v50 => (ck z13 20).bind fun q51 => (rd 7 (x0_line q51) (3)).bind fun v52 => (rd 3 x0_coins z40).bind fun v53 => (rd 36 z41 ((3 * v50) + z40)).bind fun v54 => (rd 36 z41 ((3 * v48) + z40)).bind fun v55 => if v55 ≤ (v54 + (v52 * v53)) then (fX7_findFar_j168 z40 v48 v50 v52 v53 z41 z39) else ((rd 36 z41 ((3 * v50) + z40)).bind fun v62 => (wr 36 z41 ((3 * v48) + z40) (v62 + (v52 * v53))).bind fun f63 => fX7_findFar_j168 z40 v48 v50 v52 v53 f63 (1)))))
def fX7_findFar_s49 (n : Nat) (p2 : Int32) (x0_shelf : (Nat → Int32)) (x0_rowSort : (Nat → Int32)) (x0_rowSize : (Nat → Int32)) (x0_rows : (Nat → Nat → Int64)) (x0_moved : (Nat → Int64)) (x0_shown : (Nat → Int32)) (x0_tape : (Nat → Int32)) (x0_tapeSize : Int32) (x0_refused : (Nat → Int32)) (x0_lines : Int32) (x0_line : (Nat → Nat → Int32)) (x0_changes : (Nat → Int32)) (x0_coins : (Nat → Int32)) (x0_goods : Int32) (x0_good : (Nat → Nat → Int32)) (x0_works : Int32) (x0_work : (Nat → Nat → Int32)) (x0_years : Int32) (x0_gone : Int32) (x0_spent : Int32) (x0_at : Int32) (x0_token : Int32) (x0_from : Int32) (x0_figures : Int64) (x0_fault : Int32) (x0_numbers : (Nat → Int32)) (x0_statements : Int32) (x0_left : (Nat → Int32)) (x0_way : (Nat → Int32)) (x0_steps : Int32) (x0_met : Int64) (x0_queue : (Nat → Int32)) (x0_totals : (Nat → Int32)) (z12 : Int32) (z13 : Int32) (z14 : (Nat → Int32)) : Option ((Int32 × Int32 × (Nat → Int32)) ⊕ (Int32 × (Nat → Int32))) :=
  if x0_lines ≤ z13 then (some (.inr (z12, z14))) else ((lp (u3 (fX7_findFar_s61 p2 x0_shelf x0_rowSort x0_rowSize x0_rows x0_moved x0_shown x0_tape x0_tapeSize x0_refused x0_lines x0_line x0_changes x0_coins x0_goods x0_good x0_works x0_work x0_years x0_gone x0_spent x0_at x0_token x0_from x0_figures x0_fault x0_numbers x0_statements x0_left x0_way x0_steps x0_met x0_queue x0_totals z13)) n (z12, 0, z14)).bind (u2 fun w43 w44 => some (.inl (w43, (z13 + 1), w44))))
def fX7_findFar_s40 (n : Nat) (p2 : Int32) (x0_shelf : (Nat → Int32)) (x0_rowSort : (Nat → Int32)) (x0_rowSize : (Nat → Int32)) (x0_rows : (Nat → Nat → Int64)) (x0_moved : (Nat → Int64)) (x0_shown : (Nat → Int32)) (x0_tape : (Nat → Int32)) (x0_tapeSize : Int32) (x0_refused : (Nat → Int32)) (x0_lines : Int32) (x0_line : (Nat → Nat → Int32)) (x0_changes : (Nat → Int32)) (x0_coins : (Nat → Int32)) (x0_goods : Int32) (x0_good : (Nat → Nat → Int32)) (x0_works : Int32) (x0_work : (Nat → Nat → Int32)) (x0_years : Int32) (x0_gone : Int32) (x0_spent : Int32) (x0_at : Int32) (x0_token : Int32) (x0_from : Int32) (x0_figures : Int64) (x0_fault : Int32) (x0_numbers : (Nat → Int32)) (x0_statements : Int32) (x0_left : (Nat → Int32)) (x0_way : (Nat → Int32)) (x0_steps : Int32) (x0_met : Int64) (x0_queue : (Nat → Int32)) (x0_totals : (Nat → Int32)) (z7 : Int32) (z8 : (Nat → Int32)) : Option ((Int32 × (Nat → Int32)) ⊕ ((Nat → Int32))) :=
  if z7 = 0 then (some (.inr z8)) else ((lp (u3 (fX7_findFar_s49 n p2 x0_shelf x0_rowSort x0_rowSize x0_rows x0_moved x0_shown x0_tape x0_tapeSize x0_refused x0_lines x0_line x0_changes x0_coins x0_goods x0_good x0_works x0_work x0_years x0_gone x0_spent x0_at x0_token x0_from x0_figures x0_fault x0_numbers x0_statements x0_left x0_way x0_steps x0_met x0_queue x0_totals)) n (0, 0, z8)).bind (u2 fun w16 w17 => (lp (u3 (fX7_findFar_s222 n x0_changes)) n (w16, 0, w17)).bind (u2 fun w23 w24 => some (.inl (w23, w24)))))
def fX7_findFar_s7 (p1 : Int32) (z2 : Int32) (z3 : (Nat → Int32)) : Option ((Int32 × (Nat → Int32)) ⊕ ((Nat → Int32))) :=
  if 36 ≤ z2 then (some (.inr z3)) else (if (z2 / 3) = p1 then ((wr 36 z3 z2 (0)).bind fun f65 => some (.inl ((z2 + 1), f65))) else ((wr 36 z3 z2 (1000000000)).bind fun f64 => some (.inl ((z2 + 1), f64))))
def fX7_findFar (n : Nat) (X0 : MdT) (p1 : Int32) (p2 : Int32) : Option ((Nat → Int32) × Int32) :=
  u35 (fun (x0_shelf : (Nat → Int32)) (x0_rowSort : (Nat → Int32)) (x0_rowSize : (Nat → Int32)) (x0_rows : (Nat → Nat → Int64)) (x0_moved : (Nat → Int64)) (x0_shown : (Nat → Int32)) (x0_tape : (Nat → Int32)) (x0_tapeSize : Int32) (x0_refused : (Nat → Int32)) (x0_lines : Int32) (x0_line : (Nat → Nat → Int32)) (x0_changes : (Nat → Int32)) (x0_coins : (Nat → Int32)) (x0_goods : Int32) (x0_good : (Nat → Nat → Int32)) (x0_works : Int32) (x0_work : (Nat → Nat → Int32)) (x0_years : Int32) (x0_gone : Int32) (x0_spent : Int32) (x0_at : Int32) (x0_token : Int32) (x0_from : Int32) (x0_figures : Int64) (x0_fault : Int32) (x0_numbers : (Nat → Int32)) (x0_statements : Int32) (x0_left : (Nat → Int32)) (x0_far : (Nat → Int32)) (x0_tons : Int32) (x0_way : (Nat → Int32)) (x0_steps : Int32) (x0_met : Int64) (x0_queue : (Nat → Int32)) (x0_totals : (Nat → Int32)) => (lp (u2 (fX7_findFar_s7 p1)) n (0, x0_far)).bind (fun w5 => (lp (u2 (fX7_findFar_s40 n p2 x0_shelf x0_rowSort x0_rowSize x0_rows x0_moved x0_shown x0_tape x0_tapeSize x0_refused x0_lines x0_line x0_changes x0_coins x0_goods x0_good x0_works x0_work x0_years x0_gone x0_spent x0_at x0_token x0_from x0_figures x0_fault x0_numbers x0_statements x0_left x0_way x0_steps x0_met x0_queue x0_totals)) n (1, w5)).bind (fun w10 => some (w10, p2)))) X0
set_option maxHeartbeats 4000000 in
set_option maxRecDepth 100000 in
theorem kX7_findFar (l : Launch) (d : DT) (h0 : Nat → Nat) (r0_rows : Nat → Nat) (r0_line : Nat → Nat) (r0_good : Nat → Nat) (r0_work : Nat → Nat) (a0_kept : Option Nat) (a0_tried : Option Nat) (a0_chosen : Option Nat) (n : Nat) (x0_shelf : (Nat → Int32)) (x0_rowSort : (Nat → Int32)) (x0_rowSize : (Nat → Int32)) (x0_rows : (Nat → Nat → Int64)) (x0_moved : (Nat → Int64)) (x0_shown : (Nat → Int32)) (x0_tape : (Nat → Int32)) (x0_tapeSize : Int32) (x0_refused : (Nat → Int32)) (x0_lines : Int32) (x0_line : (Nat → Nat → Int32)) (x0_changes : (Nat → Int32)) (x0_coins : (Nat → Int32)) (x0_goods : Int32) (x0_good : (Nat → Nat → Int32)) (x0_works : Int32) (x0_work : (Nat → Nat → Int32)) (x0_years : Int32) (x0_gone : Int32) (x0_spent : Int32) (x0_at : Int32) (x0_token : Int32) (x0_from : Int32) (x0_figures : Int64) (x0_fault : Int32) (x0_numbers : (Nat → Int32)) (x0_statements : Int32) (x0_left : (Nat → Int32)) (x0_far : (Nat → Int32)) (x0_tons : Int32) (x0_way : (Nat → Int32)) (x0_steps : Int32) (x0_met : Int64) (x0_queue : (Nat → Int32)) (x0_totals : (Nat → Int32)) (p1 : Int32) (p2 : Int32)  {out : (Nat → Int32) × Int32} (hf : fX7_findFar n (x0_shelf, x0_rowSort, x0_rowSize, x0_rows, x0_moved, x0_shown, x0_tape, x0_tapeSize, x0_refused, x0_lines, x0_line, x0_changes, x0_coins, x0_goods, x0_good, x0_works, x0_work, x0_years, x0_gone, x0_spent, x0_at, x0_token, x0_from, x0_figures, x0_fault, x0_numbers, x0_statements, x0_left, x0_far, x0_tons, x0_way, x0_steps, x0_met, x0_queue, x0_totals) p1 p2 = some out) : Ct l d yX7_findFar cX7_findFar 9 none { frames := 1, cells := 0, slots := 0, locals := 22 } [.ref (h0 0), .int p1, .int p2] [gMd d h0 a0_kept a0_tried a0_chosen r0_rows r0_line r0_good r0_work x0_shelf x0_rowSort x0_rowSize x0_moved x0_shown x0_tape x0_tapeSize x0_refused x0_lines x0_changes x0_coins x0_goods x0_works x0_years x0_gone x0_spent x0_at x0_token x0_from x0_figures x0_fault x0_numbers x0_statements x0_left x0_far x0_tons x0_way x0_steps x0_met x0_queue x0_totals, gridI d r0_line 20 7 x0_line] (fun _ : Unit => (none, [gMd d h0 a0_kept a0_tried a0_chosen r0_rows r0_line r0_good r0_work x0_shelf x0_rowSort x0_rowSize x0_moved x0_shown x0_tape x0_tapeSize x0_refused x0_lines x0_changes x0_coins x0_goods x0_works x0_years x0_gone x0_spent x0_at x0_token x0_from x0_figures x0_fault x0_numbers x0_statements x0_left (out.1) (out.2) x0_way x0_steps x0_met x0_queue x0_totals, gridI d r0_line 20 7 x0_line])) := by
  refine Ct.of (by decide) (Nat.le_of_ble_eq_true rfl) ?_
  intro Φ hl hK hR
  subst hl
  have hK : Ok d Φ RX7 "findFar" cX7_findFar 9 none { frames := 1, cells := 0, slots := 0, locals := 22 } := hK
  unfold fX7_findFar at hf
  have hf := un35 hf
  show J d Φ 9 [gMd d h0 a0_kept a0_tried a0_chosen r0_rows r0_line r0_good r0_work x0_shelf x0_rowSort x0_rowSize x0_moved x0_shown x0_tape x0_tapeSize x0_refused x0_lines x0_changes x0_coins x0_goods x0_works x0_years x0_gone x0_spent x0_at x0_token x0_from x0_figures x0_fault x0_numbers x0_statements x0_left x0_far x0_tons x0_way x0_steps x0_met x0_queue x0_totals, gridI d r0_line 20 7 x0_line] 0 0 0 [(0, .ref (h0 0)), (1, .int p1), (2, .int p2)] []
  refine J_aload_n hK qd3_87.1 rfl 0 rfl rfl ?_
  refine J_iload_n hK qd3_87.2.1 rfl 2 rfl rfl ?_
  refine J_put (g' := gMd d h0 a0_kept a0_tried a0_chosen r0_rows r0_line r0_good r0_work x0_shelf x0_rowSort x0_rowSize x0_moved x0_shown x0_tape x0_tapeSize x0_refused x0_lines x0_changes x0_coins x0_goods x0_works x0_years x0_gone x0_spent x0_at x0_token x0_from x0_figures x0_fault x0_numbers x0_statements x0_left x0_far p2 x0_way x0_steps x0_met x0_queue x0_totals) (gs' := [gMd d h0 a0_kept a0_tried a0_chosen r0_rows r0_line r0_good r0_work x0_shelf x0_rowSort x0_rowSize x0_moved x0_shown x0_tape x0_tapeSize x0_refused x0_lines x0_changes x0_coins x0_goods x0_works x0_years x0_gone x0_spent x0_at x0_token x0_from x0_figures x0_fault x0_numbers x0_statements x0_left x0_far p2 x0_way x0_steps x0_met x0_queue x0_totals, gridI d r0_line 20 7 x0_line]) hK fp_RX7_251 qd3_87.2.2.1 rfl 0 0 rfl rfl rfl rfl (Nat.le_of_ble_eq_true rfl) rfl rfl ?_
  refine J_iconst (v := 0) hK qd3_87.2.2.2.1 rfl (by decide) ?_
  refine J_istore_n (L' := [(3, .int (0)), (0, .ref (h0 0)), (1, .int p1), (2, .int p2)]) hK qd3_87.2.2.2.2.1 rfl rfl (by decide) rfl ?_
  obtain ⟨e4, hl1, hf⟩ := bs hf
  have hx1_38 : ∀ (w5 : (Nat → Int32)), w5 = e4 → J d Φ 9 [gMd d h0 a0_kept a0_tried a0_chosen r0_rows r0_line r0_good r0_work x0_shelf x0_rowSort x0_rowSize x0_moved x0_shown x0_tape x0_tapeSize x0_refused x0_lines x0_changes x0_coins x0_goods x0_works x0_years x0_gone x0_spent x0_at x0_token x0_from x0_figures x0_fault x0_numbers x0_statements x0_left w5 p2 x0_way x0_steps x0_met x0_queue x0_totals, gridI d r0_line 20 7 x0_line] 0 0 38 [(0, .ref (h0 0))] [] := by
    intro w5 he
    rw [← he] at hf
    refine J_iconst (v := 1) hK qd3_88.2.2.2.2.2.2.1 rfl (by decide) ?_
    refine J_istore_n (L' := [(3, .int (1)), (0, .ref (h0 0))]) hK qd3_88.2.2.2.2.2.2.2.1 rfl rfl (by decide) rfl ?_
    obtain ⟨e9, hl6, hf⟩ := bs hf
    have hx6_317 : ∀ (w10 : (Nat → Int32)), w10 = e9 → J d Φ 9 [gMd d h0 a0_kept a0_tried a0_chosen r0_rows r0_line r0_good r0_work x0_shelf x0_rowSort x0_rowSize x0_moved x0_shown x0_tape x0_tapeSize x0_refused x0_lines x0_changes x0_coins x0_goods x0_works x0_years x0_gone x0_spent x0_at x0_token x0_from x0_figures x0_fault x0_numbers x0_statements x0_left w10 p2 x0_way x0_steps x0_met x0_queue x0_totals, gridI d r0_line 20 7 x0_line] 0 0 317 [] [] := by
      intro w10 he
      rw [← he] at hf
      obtain rfl := Option.some.inj hf
      exact J_vret hK hR qd3_98.2.2.2.2.2.2.2.2.1 () rfl (by decide) (by decide)
    have lo6 : ∀ (k : Nat) (z7 : Int32) (z8 : (Nat → Int32)), lp (u2 (fX7_findFar_s40 n p2 x0_shelf x0_rowSort x0_rowSize x0_rows x0_moved x0_shown x0_tape x0_tapeSize x0_refused x0_lines x0_line x0_changes x0_coins x0_goods x0_good x0_works x0_work x0_years x0_gone x0_spent x0_at x0_token x0_from x0_figures x0_fault x0_numbers x0_statements x0_left x0_way x0_steps x0_met x0_queue x0_totals)) k (z7, z8) = some e9 → J d Φ 9 [gMd d h0 a0_kept a0_tried a0_chosen r0_rows r0_line r0_good r0_work x0_shelf x0_rowSort x0_rowSize x0_moved x0_shown x0_tape x0_tapeSize x0_refused x0_lines x0_changes x0_coins x0_goods x0_works x0_years x0_gone x0_spent x0_at x0_token x0_from x0_figures x0_fault x0_numbers x0_statements x0_left z8 p2 x0_way x0_steps x0_met x0_queue x0_totals, gridI d r0_line 20 7 x0_line] 0 0 40 [(0, .ref (h0 0)), (3, .int z7)] [] := by
      intro k
      induction k with
      | zero => intro z7 z8 h; cases h
      | succ k ih6 =>
        intro z7 z8 h
        obtain ⟨k2, rr6, hk2, hs6, hr6⟩ := lp_ok h
        cases hk2
        have hs6 : fX7_findFar_s40 n p2 x0_shelf x0_rowSort x0_rowSize x0_rows x0_moved x0_shown x0_tape x0_tapeSize x0_refused x0_lines x0_line x0_changes x0_coins x0_goods x0_good x0_works x0_work x0_years x0_gone x0_spent x0_at x0_token x0_from x0_figures x0_fault x0_numbers x0_statements x0_left x0_way x0_steps x0_met x0_queue x0_totals z7 z8 = some rr6 := hs6
        unfold fX7_findFar_s40 at hs6
        refine J_iload_n hK qd3_88.2.2.2.2.2.2.2.2.1 rfl 1 rfl rfl ?_
        refine J_if_eq (tg := 317) hK qd3_88.2.2.2.2.2.2.2.2.2.1 rfl rfl (fun hc41 => ?_) (fun hc41 => ?_)
        · have hs6 := ip hc41 hs6
          exact J_loc [] rfl (hx6_317 z8 (lpx hs6 hr6))
        · have hs6 := iq hc41 hs6
          refine J_iconst (v := 0) hK qd3_88.2.2.2.2.2.2.2.2.2.2.1 rfl (by decide) ?_
          refine J_istore_n (L' := [(3, .int (0)), (0, .ref (h0 0))]) hK qd3_88.2.2.2.2.2.2.2.2.2.2.2.1 rfl rfl (by decide) rfl ?_
          refine J_iconst (v := 0) hK qd3_88.2.2.2.2.2.2.2.2.2.2.2.2.1 rfl (by decide) ?_
          refine J_istore (L' := [(4, .int (0)), (3, .int (0)), (0, .ref (h0 0))]) hK qd3_88.2.2.2.2.2.2.2.2.2.2.2.2.2.1 rfl (by decide) rfl ?_
          obtain ⟨e15, hl11, hs6⟩ := bs hs6
          have hx11_219 : ∀ (w16 : Int32) (w17 : (Nat → Int32)), (w16, w17) = e15 → J d Φ 9 [gMd d h0 a0_kept a0_tried a0_chosen r0_rows r0_line r0_good r0_work x0_shelf x0_rowSort x0_rowSize x0_moved x0_shown x0_tape x0_tapeSize x0_refused x0_lines x0_changes x0_coins x0_goods x0_works x0_years x0_gone x0_spent x0_at x0_token x0_from x0_figures x0_fault x0_numbers x0_statements x0_left w17 p2 x0_way x0_steps x0_met x0_queue x0_totals, gridI d r0_line 20 7 x0_line] 0 0 219 [(0, .ref (h0 0)), (3, .int w16)] [] := by
            intro w16 w17 he
            rw [← he] at hs6
            have hs6 := un2 hs6
            refine J_iconst (v := 0) hK qd3_95.1 rfl (by decide) ?_
            refine J_istore (L' := [(4, .int (0)), (0, .ref (h0 0)), (3, .int w16)]) hK qd3_95.2.1 rfl (by decide) rfl ?_
            obtain ⟨e22, hl18, hs6⟩ := bs hs6
            have hx18_314 : ∀ (w23 : Int32) (w24 : (Nat → Int32)), (w23, w24) = e22 → J d Φ 9 [gMd d h0 a0_kept a0_tried a0_chosen r0_rows r0_line r0_good r0_work x0_shelf x0_rowSort x0_rowSize x0_moved x0_shown x0_tape x0_tapeSize x0_refused x0_lines x0_changes x0_coins x0_goods x0_works x0_years x0_gone x0_spent x0_at x0_token x0_from x0_figures x0_fault x0_numbers x0_statements x0_left w24 p2 x0_way x0_steps x0_met x0_queue x0_totals, gridI d r0_line 20 7 x0_line] 0 0 314 [(0, .ref (h0 0)), (3, .int w23)] [] := by
              intro w23 w24 he
              rw [← he] at hs6
              have hs6 := un2 hs6
              refine J_goto hK qd3_98.2.2.2.2.2.2.2.1 (n := 40) rfl ?_
              exact (ih6 w23 w24 (lpc hs6 hr6))
            have lo18 : ∀ (k : Nat) (z19 : Int32) (z20 : Int32) (z21 : (Nat → Int32)), lp (u3 (fX7_findFar_s222 n x0_changes)) k (z19, z20, z21) = some e22 → J d Φ 9 [gMd d h0 a0_kept a0_tried a0_chosen r0_rows r0_line r0_good r0_work x0_shelf x0_rowSort x0_rowSize x0_moved x0_shown x0_tape x0_tapeSize x0_refused x0_lines x0_changes x0_coins x0_goods x0_works x0_years x0_gone x0_spent x0_at x0_token x0_from x0_figures x0_fault x0_numbers x0_statements x0_left z21 p2 x0_way x0_steps x0_met x0_queue x0_totals, gridI d r0_line 20 7 x0_line] 0 0 222 [(0, .ref (h0 0)), (3, .int z19), (4, .int z20)] [] := by
              intro k
              induction k with
              | zero => intro z19 z20 z21 h; cases h
              | succ k ih18 =>
                intro z19 z20 z21 h
                obtain ⟨k2, rr18, hk2, hs18, hr18⟩ := lp_ok h
                cases hk2
                have hs18 : fX7_findFar_s222 n x0_changes z19 z20 z21 = some rr18 := hs18
                unfold fX7_findFar_s222 at hs18
                refine J_iload hK qd3_95.2.2.1 rfl 2 rfl ?_
                refine J_bipush (v := 36) hK qd3_95.2.2.2.1 rfl (by decide) ?_
                refine J_icmp_ge (tg := 314) hK qd3_95.2.2.2.2.1 rfl rfl (fun hc226 => ?_) (fun hc226 => ?_)
                · have hs18 := ip hc226 hs18
                  exact J_loc [0, 1] rfl (hx18_314 z19 z21 (lpx hs18 hr18))
                · have hs18 := iq hc226 hs18
                  refine J_iconst (v := 0) hK qd3_95.2.2.2.2.2.1 rfl (by decide) ?_
                  refine J_istore (L' := [(5, .int (0)), (0, .ref (h0 0)), (3, .int z19), (4, .int z20)]) hK qd3_95.2.2.2.2.2.2.1 rfl (by decide) rfl ?_
                  obtain ⟨e29, hl25, hs18⟩ := bs hs18
                  have hx25_308 : ∀ (w30 : Int32) (w31 : (Nat → Int32)), (w30, w31) = e29 → J d Φ 9 [gMd d h0 a0_kept a0_tried a0_chosen r0_rows r0_line r0_good r0_work x0_shelf x0_rowSort x0_rowSize x0_moved x0_shown x0_tape x0_tapeSize x0_refused x0_lines x0_changes x0_coins x0_goods x0_works x0_years x0_gone x0_spent x0_at x0_token x0_from x0_figures x0_fault x0_numbers x0_statements x0_left w31 p2 x0_way x0_steps x0_met x0_queue x0_totals, gridI d r0_line 20 7 x0_line] 0 0 308 [(0, .ref (h0 0)), (3, .int w30), (4, .int z20)] [] := by
                    intro w30 w31 he
                    rw [← he] at hs18
                    have hs18 := un2 hs18
                    refine J_iinc (L' := [(4, .int (z20 + 1)), (0, .ref (h0 0)), (3, .int w30)]) (v := (z20 + 1)) hK qd3_98.2.2.2.2.2.1 rfl 2 rfl rfl (by decide) rfl ?_
                    refine J_goto hK qd3_98.2.2.2.2.2.2.1 (n := 222) rfl ?_
                    exact J_loc [1, 2, 0] rfl (ih18 w30 (z20 + 1) w31 (lpc hs18 hr18))
                  have lo25 : ∀ (k : Nat) (z26 : Int32) (z27 : Int32) (z28 : (Nat → Int32)), lp (u3 (fX7_findFar_s232 x0_changes z20)) k (z26, z27, z28) = some e29 → J d Φ 9 [gMd d h0 a0_kept a0_tried a0_chosen r0_rows r0_line r0_good r0_work x0_shelf x0_rowSort x0_rowSize x0_moved x0_shown x0_tape x0_tapeSize x0_refused x0_lines x0_changes x0_coins x0_goods x0_works x0_years x0_gone x0_spent x0_at x0_token x0_from x0_figures x0_fault x0_numbers x0_statements x0_left z28 p2 x0_way x0_steps x0_met x0_queue x0_totals, gridI d r0_line 20 7 x0_line] 0 0 232 [(0, .ref (h0 0)), (3, .int z26), (4, .int z20), (5, .int z27)] [] := by
                    intro k
                    induction k with
                    | zero => intro z26 z27 z28 h; cases h
                    | succ k ih25 =>
                      intro z26 z27 z28 h
                      obtain ⟨k2, rr25, hk2, hs25, hr25⟩ := lp_ok h
                      cases hk2
                      have hs25 : fX7_findFar_s232 x0_changes z20 z26 z27 z28 = some rr25 := hs25
                      unfold fX7_findFar_s232 at hs25
                      refine J_iload hK qd3_95.2.2.2.2.2.2.2.1 rfl 3 rfl ?_
                      refine J_iconst (v := 3) hK qd3_95.2.2.2.2.2.2.2.2.1 rfl (by decide) ?_
                      refine J_icmp_ge (tg := 308) hK qd3_95.2.2.2.2.2.2.2.2.2.1 rfl rfl (fun hc235 => ?_) (fun hc235 => ?_)
                      · have hs25 := ip hc235 hs25
                        exact J_loc [0, 1, 2] rfl (hx25_308 z26 z28 (lpx hs25 hr25))
                      · have hs25 := iq hc235 hs25
                        refine J_iload hK qd3_95.2.2.2.2.2.2.2.2.2.2.1 rfl 2 rfl ?_
                        refine J_iconst (v := 3) hK qd3_95.2.2.2.2.2.2.2.2.2.2.2.1 rfl (by decide) ?_
                        refine J_idiv hK qd3_95.2.2.2.2.2.2.2.2.2.2.2.2.1 rfl (by decide) ?_
                        refine J_iconst (v := 3) hK qd3_95.2.2.2.2.2.2.2.2.2.2.2.2.2.1 rfl (by decide) ?_
                        refine J_imul hK qd3_95.2.2.2.2.2.2.2.2.2.2.2.2.2.2.1 rfl ?_
                        refine J_iload hK qd3_95.2.2.2.2.2.2.2.2.2.2.2.2.2.2.2.1 rfl 3 rfl ?_
                        refine J_iadd hK qd3_96.1 rfl ?_
                        refine J_istore (L' := [(6, .int (((z20 / 3) * 3) + z27)), (0, .ref (h0 0)), (3, .int z26), (4, .int z20), (5, .int z27)]) hK qd3_96.2.1 rfl (by decide) rfl ?_
                        refine J_aload_n hK qd3_96.2.2.1 rfl 1 rfl rfl ?_
                        refine J_get hK fo_RX7_64 qd3_96.2.2.2.1 rfl 0 0 rfl rfl rfl ?_
                        refine J_iload hK qd3_96.2.2.2.2.1 rfl 0 rfl ?_
                        obtain ⟨v32, ev32, hs25⟩ := bs hs25
                        refine J_iald hK qd3_96.2.2.2.2.2.1 rfl 0 16 rfl rfl ev32 ?_
                        refine J_aload_n hK qd3_96.2.2.2.2.2.2.1 rfl 1 rfl rfl ?_
                        refine J_get hK fo_RX7_42 qd3_96.2.2.2.2.2.2.2.1 rfl 0 0 rfl rfl rfl ?_
                        refine J_iload hK qd3_96.2.2.2.2.2.2.2.2.1 rfl 3 rfl ?_
                        refine J_iconst (v := 3) hK qd3_96.2.2.2.2.2.2.2.2.2.1 rfl (by decide) ?_
                        refine J_idiv hK qd3_96.2.2.2.2.2.2.2.2.2.2.1 rfl (by decide) ?_
                        obtain ⟨v33, ev33, hs25⟩ := bs hs25
                        refine J_iald hK qd3_96.2.2.2.2.2.2.2.2.2.2.2.1 rfl 0 10 rfl rfl ev33 ?_
                        refine J_iadd hK qd3_96.2.2.2.2.2.2.2.2.2.2.2.2.1 rfl ?_
                        refine J_aload_n hK qd3_96.2.2.2.2.2.2.2.2.2.2.2.2.2.1 rfl 1 rfl rfl ?_
                        refine J_get hK fo_RX7_64 qd3_96.2.2.2.2.2.2.2.2.2.2.2.2.2.2.1 rfl 0 0 rfl rfl rfl ?_
                        refine J_iload hK qd3_96.2.2.2.2.2.2.2.2.2.2.2.2.2.2.2.1 rfl 3 rfl ?_
                        obtain ⟨v34, ev34, hs25⟩ := bs hs25
                        refine J_iald hK qd3_97.1 rfl 0 16 rfl rfl ev34 ?_
                        refine J_icmp_ge (tg := 302) hK qd3_97.2.1 rfl rfl (fun hc273 => ?_) (fun hc273 => ?_)
                        · have hs25 := ip hc273 hs25
                          refine J_iinc (L' := [(5, .int (z27 + 1)), (6, .int (((z20 / 3) * 3) + z27)), (0, .ref (h0 0)), (3, .int z26), (4, .int z20)]) (v := (z27 + 1)) hK qd3_98.2.2.2.1 rfl 4 rfl rfl (by decide) rfl ?_
                          refine J_goto hK qd3_98.2.2.2.2.1 (n := 232) rfl ?_
                          exact J_loc [2, 3, 4, 0] rfl (ih25 z26 (z27 + 1) z28 (lpc hs25 hr25))
                        · have hs25 := iq hc273 hs25
                          refine J_aload_n hK qd3_97.2.2.1 rfl 1 rfl rfl ?_
                          refine J_get hK fo_RX7_64 qd3_97.2.2.2.1 rfl 0 0 rfl rfl rfl ?_
                          refine J_iload hK qd3_97.2.2.2.2.1 rfl 3 rfl ?_
                          refine J_aload_n hK qd3_97.2.2.2.2.2.1 rfl 1 rfl rfl ?_
                          refine J_get hK fo_RX7_64 qd3_97.2.2.2.2.2.2.1 rfl 0 0 rfl rfl rfl ?_
                          refine J_iload hK qd3_97.2.2.2.2.2.2.2.1 rfl 0 rfl ?_
                          obtain ⟨v35, ev35, hs25⟩ := bs hs25
                          refine J_iald hK qd3_97.2.2.2.2.2.2.2.2.1 rfl 0 16 rfl rfl ev35 ?_
                          refine J_aload_n hK qd3_97.2.2.2.2.2.2.2.2.2.1 rfl 1 rfl rfl ?_
                          refine J_get hK fo_RX7_42 qd3_97.2.2.2.2.2.2.2.2.2.2.1 rfl 0 0 rfl rfl rfl ?_
                          refine J_iload hK qd3_97.2.2.2.2.2.2.2.2.2.2.2.1 rfl 3 rfl ?_
                          refine J_iconst (v := 3) hK qd3_97.2.2.2.2.2.2.2.2.2.2.2.2.1 rfl (by decide) ?_
                          refine J_idiv hK qd3_97.2.2.2.2.2.2.2.2.2.2.2.2.2.1 rfl (by decide) ?_
                          obtain ⟨v36, ev36, hs25⟩ := bs hs25
                          refine J_iald hK qd3_97.2.2.2.2.2.2.2.2.2.2.2.2.2.2.1 rfl 0 10 rfl rfl ev36 ?_
                          refine J_iadd hK qd3_97.2.2.2.2.2.2.2.2.2.2.2.2.2.2.2.1 rfl ?_
                          obtain ⟨f37, ef37, hs25⟩ := bs hs25
                          refine J_iast (g' := gMd d h0 a0_kept a0_tried a0_chosen r0_rows r0_line r0_good r0_work x0_shelf x0_rowSort x0_rowSize x0_moved x0_shown x0_tape x0_tapeSize x0_refused x0_lines x0_changes x0_coins x0_goods x0_works x0_years x0_gone x0_spent x0_at x0_token x0_from x0_figures x0_fault x0_numbers x0_statements x0_left f37 p2 x0_way x0_steps x0_met x0_queue x0_totals) (gs' := [gMd d h0 a0_kept a0_tried a0_chosen r0_rows r0_line r0_good r0_work x0_shelf x0_rowSort x0_rowSize x0_moved x0_shown x0_tape x0_tapeSize x0_refused x0_lines x0_changes x0_coins x0_goods x0_works x0_years x0_gone x0_spent x0_at x0_token x0_from x0_figures x0_fault x0_numbers x0_statements x0_left f37 p2 x0_way x0_steps x0_met x0_queue x0_totals, gridI d r0_line 20 7 x0_line]) hK qd3_98.1 rfl 0 16 rfl rfl ef37 rfl rfl ?_
                          refine J_iconst (v := 1) hK qd3_98.2.1 rfl (by decide) ?_
                          refine J_istore_n (L' := [(3, .int (1)), (6, .int (((z20 / 3) * 3) + z27)), (0, .ref (h0 0)), (4, .int z20), (5, .int z27)]) hK qd3_98.2.2.1 rfl rfl (by decide) rfl ?_
                          refine J_iinc (L' := [(5, .int (z27 + 1)), (3, .int (1)), (6, .int (((z20 / 3) * 3) + z27)), (0, .ref (h0 0)), (4, .int z20)]) (v := (z27 + 1)) hK qd3_98.2.2.2.1 rfl 4 rfl rfl (by decide) rfl ?_
                          refine J_goto hK qd3_98.2.2.2.2.1 (n := 232) rfl ?_
                          exact J_loc [3, 1, 4, 0] rfl (ih25 (1) (z27 + 1) f37 (lpc hs25 hr25))
                  exact J_loc [1, 2, 3, 0] rfl (lo25 n z19 (0) z21 hl25)
            exact J_loc [1, 2, 0] rfl (lo18 n w16 (0) w17 hl18)
          have lo11 : ∀ (k : Nat) (z12 : Int32) (z13 : Int32) (z14 : (Nat → Int32)), lp (u3 (fX7_findFar_s49 n p2 x0_shelf x0_rowSort x0_rowSize x0_rows x0_moved x0_shown x0_tape x0_tapeSize x0_refused x0_lines x0_line x0_changes x0_coins x0_goods x0_good x0_works x0_work x0_years x0_gone x0_spent x0_at x0_token x0_from x0_figures x0_fault x0_numbers x0_statements x0_left x0_way x0_steps x0_met x0_queue x0_totals)) k (z12, z13, z14) = some e15 → J d Φ 9 [gMd d h0 a0_kept a0_tried a0_chosen r0_rows r0_line r0_good r0_work x0_shelf x0_rowSort x0_rowSize x0_moved x0_shown x0_tape x0_tapeSize x0_refused x0_lines x0_changes x0_coins x0_goods x0_works x0_years x0_gone x0_spent x0_at x0_token x0_from x0_figures x0_fault x0_numbers x0_statements x0_left z14 p2 x0_way x0_steps x0_met x0_queue x0_totals, gridI d r0_line 20 7 x0_line] 0 0 49 [(0, .ref (h0 0)), (3, .int z12), (4, .int z13)] [] := by
            intro k
            induction k with
            | zero => intro z12 z13 z14 h; cases h
            | succ k ih11 =>
              intro z12 z13 z14 h
              obtain ⟨k2, rr11, hk2, hs11, hr11⟩ := lp_ok h
              cases hk2
              have hs11 : fX7_findFar_s49 n p2 x0_shelf x0_rowSort x0_rowSize x0_rows x0_moved x0_shown x0_tape x0_tapeSize x0_refused x0_lines x0_line x0_changes x0_coins x0_goods x0_good x0_works x0_work x0_years x0_gone x0_spent x0_at x0_token x0_from x0_figures x0_fault x0_numbers x0_statements x0_left x0_way x0_steps x0_met x0_queue x0_totals z12 z13 z14 = some rr11 := hs11
              unfold fX7_findFar_s49 at hs11
              refine J_iload hK qd3_88.2.2.2.2.2.2.2.2.2.2.2.2.2.2.1 rfl 2 rfl ?_
              refine J_aload_n hK qd3_88.2.2.2.2.2.2.2.2.2.2.2.2.2.2.2.1 rfl 0 rfl rfl ?_
              refine J_get hK fo_RX7_82 qd3_89.1 rfl 0 0 rfl rfl rfl ?_
              refine J_icmp_ge (tg := 219) hK qd3_89.2.1 rfl rfl (fun hc55 => ?_) (fun hc55 => ?_)
              · have hs11 := ip hc55 hs11
                exact J_loc [0, 1] rfl (hx11_219 z12 z14 (lpx hs11 hr11))
              · have hs11 := iq hc55 hs11
                refine J_iconst (v := 0) hK qd3_89.2.2.1 rfl (by decide) ?_
                refine J_istore (L' := [(5, .int (0)), (0, .ref (h0 0)), (3, .int z12), (4, .int z13)]) hK qd3_89.2.2.2.1 rfl (by decide) rfl ?_
                obtain ⟨e42, hl38, hs11⟩ := bs hs11
                have hx38_213 : ∀ (w43 : Int32) (w44 : (Nat → Int32)), (w43, w44) = e42 → J d Φ 9 [gMd d h0 a0_kept a0_tried a0_chosen r0_rows r0_line r0_good r0_work x0_shelf x0_rowSort x0_rowSize x0_moved x0_shown x0_tape x0_tapeSize x0_refused x0_lines x0_changes x0_coins x0_goods x0_works x0_years x0_gone x0_spent x0_at x0_token x0_from x0_figures x0_fault x0_numbers x0_statements x0_left w44 p2 x0_way x0_steps x0_met x0_queue x0_totals, gridI d r0_line 20 7 x0_line] 0 0 213 [(0, .ref (h0 0)), (3, .int w43), (4, .int z13)] [] := by
                  intro w43 w44 he
                  rw [← he] at hs11
                  have hs11 := un2 hs11
                  refine J_iinc (L' := [(4, .int (z13 + 1)), (0, .ref (h0 0)), (3, .int w43)]) (v := (z13 + 1)) hK qd3_94.2.2.2.2.2.2.2.2.2.2.2.2.2.2.1 rfl 2 rfl rfl (by decide) rfl ?_
                  refine J_goto hK qd3_94.2.2.2.2.2.2.2.2.2.2.2.2.2.2.2.1 (n := 49) rfl ?_
                  exact J_loc [1, 2, 0] rfl (ih11 w43 (z13 + 1) w44 (lpc hs11 hr11))
                have lo38 : ∀ (k : Nat) (z39 : Int32) (z40 : Int32) (z41 : (Nat → Int32)), lp (u3 (fX7_findFar_s61 p2 x0_shelf x0_rowSort x0_rowSize x0_rows x0_moved x0_shown x0_tape x0_tapeSize x0_refused x0_lines x0_line x0_changes x0_coins x0_goods x0_good x0_works x0_work x0_years x0_gone x0_spent x0_at x0_token x0_from x0_figures x0_fault x0_numbers x0_statements x0_left x0_way x0_steps x0_met x0_queue x0_totals z13)) k (z39, z40, z41) = some e42 → J d Φ 9 [gMd d h0 a0_kept a0_tried a0_chosen r0_rows r0_line r0_good r0_work x0_shelf x0_rowSort x0_rowSize x0_moved x0_shown x0_tape x0_tapeSize x0_refused x0_lines x0_changes x0_coins x0_goods x0_works x0_years x0_gone x0_spent x0_at x0_token x0_from x0_figures x0_fault x0_numbers x0_statements x0_left z41 p2 x0_way x0_steps x0_met x0_queue x0_totals, gridI d r0_line 20 7 x0_line] 0 0 61 [(0, .ref (h0 0)), (3, .int z39), (4, .int z13), (5, .int z40)] [] := by
                  intro k
                  induction k with
                  | zero => intro z39 z40 z41 h; cases h
                  | succ k ih38 =>
                    intro z39 z40 z41 h
                    obtain ⟨k2, rr38, hk2, hs38, hr38⟩ := lp_ok h
                    cases hk2
                    have hs38 : fX7_findFar_s61 p2 x0_shelf x0_rowSort x0_rowSize x0_rows x0_moved x0_shown x0_tape x0_tapeSize x0_refused x0_lines x0_line x0_changes x0_coins x0_goods x0_good x0_works x0_work x0_years x0_gone x0_spent x0_at x0_token x0_from x0_figures x0_fault x0_numbers x0_statements x0_left x0_way x0_steps x0_met x0_queue x0_totals z13 z39 z40 z41 = some rr38 := hs38
                    unfold fX7_findFar_s61 at hs38
                    refine J_iload hK qd3_89.2.2.2.2.1 rfl 3 rfl ?_
                    refine J_iconst (v := 3) hK qd3_89.2.2.2.2.2.1 rfl (by decide) ?_
                    refine J_icmp_ge (tg := 213) hK qd3_89.2.2.2.2.2.2.1 rfl rfl (fun hc64 => ?_) (fun hc64 => ?_)
                    · have hs38 := ip hc64 hs38
                      exact J_loc [0, 1, 2] rfl (hx38_213 z39 z41 (lpx hs38 hr38))
                    · have hs38 := iq hc64 hs38
                      refine J_aload_n hK qd3_89.2.2.2.2.2.2.2.1 rfl 0 rfl rfl ?_
                      refine J_iload hK qd3_89.2.2.2.2.2.2.2.2.1 rfl 2 rfl ?_
                      refine J_iload hK qd3_89.2.2.2.2.2.2.2.2.2.1 rfl 3 rfl ?_
                      obtain ⟨v45, e46, hs38⟩ := bs hs38
                      refine J_callV (m := 2) (m' := 2) (ce' := 0) (sl' := 0) (gr := []) (gs' := fun _ => [gMd d h0 a0_kept a0_tried a0_chosen r0_rows r0_line r0_good r0_work x0_shelf x0_rowSort x0_rowSize x0_moved x0_shown x0_tape x0_tapeSize x0_refused x0_lines x0_changes x0_coins x0_goods x0_works x0_years x0_gone x0_spent x0_at x0_token x0_from x0_figures x0_fault x0_numbers x0_statements x0_left z41 p2 x0_way x0_steps x0_met x0_queue x0_totals, gridI d r0_line 20 7 x0_line]) (st' := fun _ => [.int v45]) (st := []) hK qd3_89.2.2.2.2.2.2.2.2.2.2.1 cv_RX7_255 iv_yX7_bears (As := [.int z13, .int z40]) (kX7_bears _ d h0 r0_rows r0_line r0_good r0_work a0_kept a0_tried a0_chosen x0_shelf x0_rowSort x0_rowSize x0_rows x0_moved x0_shown x0_tape x0_tapeSize x0_refused x0_lines x0_line x0_changes x0_coins x0_goods x0_good x0_works x0_work x0_years x0_gone x0_spent x0_at x0_token x0_from x0_figures x0_fault x0_numbers x0_statements x0_left z41 p2 x0_way x0_steps x0_met x0_queue x0_totals z13 z40 e46) rfl rfl (Nat.le_of_ble_eq_true rfl) (by decide) 0 0 rfl rfl rfl [0, 1] [] rfl (by decide +kernel) rfl rfl [0, 1] (by decide +kernel) (fun _ => rfl) (fun _ => rfl) rfl rfl rfl (fun _ => rfl) (fun _ => ?_)
                      refine J_if_eq (tg := 207) hK qd3_89.2.2.2.2.2.2.2.2.2.2.2.1 rfl rfl (fun hc75 => ?_) (fun hc75 => ?_)
                      · have hs38 := ip hc75 hs38
                        refine J_iinc (L' := [(5, .int (z40 + 1)), (0, .ref (h0 0)), (3, .int z39), (4, .int z13)]) (v := (z40 + 1)) hK qd3_94.2.2.2.2.2.2.2.2.2.2.2.2.1 rfl 3 rfl rfl (by decide) rfl ?_
                        refine J_goto hK qd3_94.2.2.2.2.2.2.2.2.2.2.2.2.2.1 (n := 61) rfl ?_
                        exact J_loc [1, 2, 3, 0] rfl (ih38 z39 (z40 + 1) z41 (lpc hs38 hr38))
                      · have hs38 := iq hc75 hs38
                        refine J_iconst (v := 3) hK qd3_89.2.2.2.2.2.2.2.2.2.2.2.2.1 rfl (by decide) ?_
                        refine J_aload_n hK qd3_89.2.2.2.2.2.2.2.2.2.2.2.2.2.1 rfl 0 rfl rfl ?_
                        refine J_get hK fo_RX7_39 qd3_89.2.2.2.2.2.2.2.2.2.2.2.2.2.2.1 rfl 0 0 rfl rfl rfl ?_
                        refine J_iload hK qd3_89.2.2.2.2.2.2.2.2.2.2.2.2.2.2.2.1 rfl 2 rfl ?_
                        obtain ⟨q47, eq47, hs38⟩ := bs hs38
                        refine J_aald hK qd3_90.1 rfl 0 9 rfl rfl rfl eq47 ?_
                        refine J_iconst (v := 0) hK qd3_90.2.1 rfl (by decide) ?_
                        obtain ⟨v48, ev48, hs38⟩ := bs hs38
                        refine J_iald hK qd3_90.2.2.1 rfl 1 q47 rfl (gridI_at (ck_ok eq47).2.2) ev48 ?_
                        refine J_imul hK qd3_90.2.2.2.1 rfl ?_
                        refine J_iload hK qd3_90.2.2.2.2.1 rfl 3 rfl ?_
                        refine J_iadd hK qd3_90.2.2.2.2.2.1 rfl ?_
                        refine J_istore (L' := [(6, .int ((3 * v48) + z40)), (0, .ref (h0 0)), (3, .int z39), (4, .int z13), (5, .int z40)]) hK qd3_90.2.2.2.2.2.2.1 rfl (by decide) rfl ?_
                        refine J_iconst (v := 3) hK qd3_90.2.2.2.2.2.2.2.1 rfl (by decide) ?_
                        refine J_aload_n hK qd3_90.2.2.2.2.2.2.2.2.1 rfl 1 rfl rfl ?_
                        refine J_get hK fo_RX7_39 qd3_90.2.2.2.2.2.2.2.2.2.1 rfl 0 0 rfl rfl rfl ?_
                        refine J_iload hK qd3_90.2.2.2.2.2.2.2.2.2.2.1 rfl 3 rfl ?_
                        obtain ⟨q49, eq49, hs38⟩ := bs hs38
                        refine J_aald hK qd3_90.2.2.2.2.2.2.2.2.2.2.2.1 rfl 0 9 rfl rfl rfl eq49 ?_
                        refine J_iconst (v := 1) hK qd3_90.2.2.2.2.2.2.2.2.2.2.2.2.1 rfl (by decide) ?_
                        obtain ⟨v50, ev50, hs38⟩ := bs hs38
                        refine J_iald hK qd3_90.2.2.2.2.2.2.2.2.2.2.2.2.2.1 rfl 1 q49 rfl (gridI_at (ck_ok eq49).2.2) ev50 ?_
                        refine J_imul hK qd3_90.2.2.2.2.2.2.2.2.2.2.2.2.2.2.1 rfl ?_
                        refine J_iload hK qd3_90.2.2.2.2.2.2.2.2.2.2.2.2.2.2.2.1 rfl 4 rfl ?_
                        refine J_iadd hK qd3_91.1 rfl ?_
                        refine J_istore (L' := [(7, .int ((3 * v50) + z40)), (6, .int ((3 * v48) + z40)), (0, .ref (h0 0)), (3, .int z39), (4, .int z13), (5, .int z40)]) hK qd3_91.2.1 rfl (by decide) rfl ?_
                        refine J_aload_n hK qd3_91.2.2.1 rfl 2 rfl rfl ?_
                        refine J_get hK fo_RX7_39 qd3_91.2.2.2.1 rfl 0 0 rfl rfl rfl ?_
                        refine J_iload hK qd3_91.2.2.2.2.1 rfl 4 rfl ?_
                        obtain ⟨q51, eq51, hs38⟩ := bs hs38
                        refine J_aald hK qd3_91.2.2.2.2.2.1 rfl 0 9 rfl rfl rfl eq51 ?_
                        refine J_iconst (v := 3) hK qd3_91.2.2.2.2.2.2.1 rfl (by decide) ?_
                        obtain ⟨v52, ev52, hs38⟩ := bs hs38
                        refine J_iald hK qd3_91.2.2.2.2.2.2.2.1 rfl 1 q51 rfl (gridI_at (ck_ok eq51).2.2) ev52 ?_
                        refine J_aload_n hK qd3_91.2.2.2.2.2.2.2.2.1 rfl 2 rfl rfl ?_
                        refine J_get hK fo_RX7_45 qd3_91.2.2.2.2.2.2.2.2.2.1 rfl 0 0 rfl rfl rfl ?_
                        refine J_iload hK qd3_91.2.2.2.2.2.2.2.2.2.2.1 rfl 5 rfl ?_
                        obtain ⟨v53, ev53, hs38⟩ := bs hs38
                        refine J_iald hK qd3_91.2.2.2.2.2.2.2.2.2.2.2.1 rfl 0 11 rfl rfl ev53 ?_
                        refine J_imul hK qd3_91.2.2.2.2.2.2.2.2.2.2.2.2.1 rfl ?_
                        refine J_istore (L' := [(8, .int (v52 * v53)), (7, .int ((3 * v50) + z40)), (6, .int ((3 * v48) + z40)), (0, .ref (h0 0)), (3, .int z39), (4, .int z13), (5, .int z40)]) hK qd3_91.2.2.2.2.2.2.2.2.2.2.2.2.2.1 rfl (by decide) rfl ?_
                        refine J_aload_n hK qd3_91.2.2.2.2.2.2.2.2.2.2.2.2.2.2.1 rfl 3 rfl rfl ?_
                        refine J_get hK fo_RX7_64 qd3_91.2.2.2.2.2.2.2.2.2.2.2.2.2.2.2.1 rfl 0 0 rfl rfl rfl ?_
                        refine J_iload hK qd3_92.1 rfl 1 rfl ?_
                        obtain ⟨v54, ev54, hs38⟩ := bs hs38
                        refine J_iald hK qd3_92.2.1 rfl 0 16 rfl rfl ev54 ?_
                        refine J_iload hK qd3_92.2.2.1 rfl 0 rfl ?_
                        refine J_iadd hK qd3_92.2.2.2.1 rfl ?_
                        refine J_aload_n hK qd3_92.2.2.2.2.1 rfl 3 rfl rfl ?_
                        refine J_get hK fo_RX7_64 qd3_92.2.2.2.2.2.1 rfl 0 0 rfl rfl rfl ?_
                        refine J_iload hK qd3_92.2.2.2.2.2.2.1 rfl 2 rfl ?_
                        obtain ⟨v55, ev55, hs38⟩ := bs hs38
                        refine J_iald hK qd3_92.2.2.2.2.2.2.2.1 rfl 0 16 rfl rfl ev55 ?_
                        have j168 : ∀ (x56 : (Nat → Int32)) (y57 : Int32), fX7_findFar_j168 z40 v48 v50 v52 v53 x56 y57 = some rr38 → J d Φ 9 [gMd d h0 a0_kept a0_tried a0_chosen r0_rows r0_line r0_good r0_work x0_shelf x0_rowSort x0_rowSize x0_moved x0_shown x0_tape x0_tapeSize x0_refused x0_lines x0_changes x0_coins x0_goods x0_works x0_years x0_gone x0_spent x0_at x0_token x0_from x0_figures x0_fault x0_numbers x0_statements x0_left x56 p2 x0_way x0_steps x0_met x0_queue x0_totals, gridI d r0_line 20 7 x0_line] 0 0 168 [(0, .ref (h0 0)), (3, .int y57), (4, .int z13), (5, .int z40), (6, .int ((3 * v48) + z40)), (7, .int ((3 * v50) + z40)), (8, .int (v52 * v53))] [] := by
                          intro x56 y57 hs38
                          unfold fX7_findFar_j168 at hs38
                          refine J_aload_n hK qd3_93.2.2.2.2.2.1 rfl 0 rfl rfl ?_
                          refine J_get hK fo_RX7_64 qd3_93.2.2.2.2.2.2.1 rfl 0 0 rfl rfl rfl ?_
                          refine J_iload hK qd3_93.2.2.2.2.2.2.2.1 rfl 4 rfl ?_
                          obtain ⟨v58, ev58, hs38⟩ := bs hs38
                          refine J_iald hK qd3_93.2.2.2.2.2.2.2.2.1 rfl 0 16 rfl rfl ev58 ?_
                          refine J_iload hK qd3_93.2.2.2.2.2.2.2.2.2.1 rfl 6 rfl ?_
                          refine J_iadd hK qd3_93.2.2.2.2.2.2.2.2.2.2.1 rfl ?_
                          refine J_aload_n hK qd3_93.2.2.2.2.2.2.2.2.2.2.2.1 rfl 0 rfl rfl ?_
                          refine J_get hK fo_RX7_64 qd3_93.2.2.2.2.2.2.2.2.2.2.2.2.1 rfl 0 0 rfl rfl rfl ?_
                          refine J_iload hK qd3_93.2.2.2.2.2.2.2.2.2.2.2.2.2.1 rfl 5 rfl ?_
                          obtain ⟨v59, ev59, hs38⟩ := bs hs38
                          refine J_iald hK qd3_93.2.2.2.2.2.2.2.2.2.2.2.2.2.2.1 rfl 0 16 rfl rfl ev59 ?_
                          refine J_icmp_ge (tg := 207) hK qd3_93.2.2.2.2.2.2.2.2.2.2.2.2.2.2.2.1 rfl rfl (fun hc185 => ?_) (fun hc185 => ?_)
                          · have hs38 := ip hc185 hs38
                            refine J_iinc (L' := [(5, .int (z40 + 1)), (0, .ref (h0 0)), (3, .int y57), (4, .int z13), (6, .int ((3 * v48) + z40)), (7, .int ((3 * v50) + z40)), (8, .int (v52 * v53))]) (v := (z40 + 1)) hK qd3_94.2.2.2.2.2.2.2.2.2.2.2.2.1 rfl 3 rfl rfl (by decide) rfl ?_
                            refine J_goto hK qd3_94.2.2.2.2.2.2.2.2.2.2.2.2.2.1 (n := 61) rfl ?_
                            exact J_loc [1, 2, 3, 0] rfl (ih38 y57 (z40 + 1) x56 (lpc hs38 hr38))
                          · have hs38 := iq hc185 hs38
                            refine J_aload_n hK qd3_94.1 rfl 0 rfl rfl ?_
                            refine J_get hK fo_RX7_64 qd3_94.2.1 rfl 0 0 rfl rfl rfl ?_
                            refine J_iload hK qd3_94.2.2.1 rfl 5 rfl ?_
                            refine J_aload_n hK qd3_94.2.2.2.1 rfl 0 rfl rfl ?_
                            refine J_get hK fo_RX7_64 qd3_94.2.2.2.2.1 rfl 0 0 rfl rfl rfl ?_
                            refine J_iload hK qd3_94.2.2.2.2.2.1 rfl 4 rfl ?_
                            obtain ⟨v60, ev60, hs38⟩ := bs hs38
                            refine J_iald hK qd3_94.2.2.2.2.2.2.1 rfl 0 16 rfl rfl ev60 ?_
                            refine J_iload hK qd3_94.2.2.2.2.2.2.2.1 rfl 6 rfl ?_
                            refine J_iadd hK qd3_94.2.2.2.2.2.2.2.2.1 rfl ?_
                            obtain ⟨f61, ef61, hs38⟩ := bs hs38
                            refine J_iast (g' := gMd d h0 a0_kept a0_tried a0_chosen r0_rows r0_line r0_good r0_work x0_shelf x0_rowSort x0_rowSize x0_moved x0_shown x0_tape x0_tapeSize x0_refused x0_lines x0_changes x0_coins x0_goods x0_works x0_years x0_gone x0_spent x0_at x0_token x0_from x0_figures x0_fault x0_numbers x0_statements x0_left f61 p2 x0_way x0_steps x0_met x0_queue x0_totals) (gs' := [gMd d h0 a0_kept a0_tried a0_chosen r0_rows r0_line r0_good r0_work x0_shelf x0_rowSort x0_rowSize x0_moved x0_shown x0_tape x0_tapeSize x0_refused x0_lines x0_changes x0_coins x0_goods x0_works x0_years x0_gone x0_spent x0_at x0_token x0_from x0_figures x0_fault x0_numbers x0_statements x0_left f61 p2 x0_way x0_steps x0_met x0_queue x0_totals, gridI d r0_line 20 7 x0_line]) hK qd3_94.2.2.2.2.2.2.2.2.2.1 rfl 0 16 rfl rfl ef61 rfl rfl ?_
                            refine J_iconst (v := 1) hK qd3_94.2.2.2.2.2.2.2.2.2.2.1 rfl (by decide) ?_
                            refine J_istore_n (L' := [(3, .int (1)), (0, .ref (h0 0)), (4, .int z13), (5, .int z40), (6, .int ((3 * v48) + z40)), (7, .int ((3 * v50) + z40)), (8, .int (v52 * v53))]) hK qd3_94.2.2.2.2.2.2.2.2.2.2.2.1 rfl rfl (by decide) rfl ?_
                            refine J_iinc (L' := [(5, .int (z40 + 1)), (3, .int (1)), (0, .ref (h0 0)), (4, .int z13), (6, .int ((3 * v48) + z40)), (7, .int ((3 * v50) + z40)), (8, .int (v52 * v53))]) (v := (z40 + 1)) hK qd3_94.2.2.2.2.2.2.2.2.2.2.2.2.1 rfl 3 rfl rfl (by decide) rfl ?_
                            refine J_goto hK qd3_94.2.2.2.2.2.2.2.2.2.2.2.2.2.1 (n := 61) rfl ?_
                            exact J_loc [2, 1, 3, 0] rfl (ih38 (1) (z40 + 1) f61 (lpc hs38 hr38))
                        refine J_icmp_ge (tg := 168) hK qd3_92.2.2.2.2.2.2.2.2.1 rfl rfl (fun hc146 => ?_) (fun hc146 => ?_)
                        · have hs38 := ip hc146 hs38
                          exact J_loc [3, 4, 5, 6, 2, 1, 0] rfl (j168 z41 z39 hs38)
                        · have hs38 := iq hc146 hs38
                          refine J_aload_n hK qd3_92.2.2.2.2.2.2.2.2.2.1 rfl 3 rfl rfl ?_
                          refine J_get hK fo_RX7_64 qd3_92.2.2.2.2.2.2.2.2.2.2.1 rfl 0 0 rfl rfl rfl ?_
                          refine J_iload hK qd3_92.2.2.2.2.2.2.2.2.2.2.2.1 rfl 2 rfl ?_
                          refine J_aload_n hK qd3_92.2.2.2.2.2.2.2.2.2.2.2.2.1 rfl 3 rfl rfl ?_
                          refine J_get hK fo_RX7_64 qd3_92.2.2.2.2.2.2.2.2.2.2.2.2.2.1 rfl 0 0 rfl rfl rfl ?_
                          refine J_iload hK qd3_92.2.2.2.2.2.2.2.2.2.2.2.2.2.2.1 rfl 1 rfl ?_
                          obtain ⟨v62, ev62, hs38⟩ := bs hs38
                          refine J_iald hK qd3_92.2.2.2.2.2.2.2.2.2.2.2.2.2.2.2.1 rfl 0 16 rfl rfl ev62 ?_
                          refine J_iload hK qd3_93.1 rfl 0 rfl ?_
                          refine J_iadd hK qd3_93.2.1 rfl ?_
                          obtain ⟨f63, ef63, hs38⟩ := bs hs38
                          refine J_iast (g' := gMd d h0 a0_kept a0_tried a0_chosen r0_rows r0_line r0_good r0_work x0_shelf x0_rowSort x0_rowSize x0_moved x0_shown x0_tape x0_tapeSize x0_refused x0_lines x0_changes x0_coins x0_goods x0_works x0_years x0_gone x0_spent x0_at x0_token x0_from x0_figures x0_fault x0_numbers x0_statements x0_left f63 p2 x0_way x0_steps x0_met x0_queue x0_totals) (gs' := [gMd d h0 a0_kept a0_tried a0_chosen r0_rows r0_line r0_good r0_work x0_shelf x0_rowSort x0_rowSize x0_moved x0_shown x0_tape x0_tapeSize x0_refused x0_lines x0_changes x0_coins x0_goods x0_works x0_years x0_gone x0_spent x0_at x0_token x0_from x0_figures x0_fault x0_numbers x0_statements x0_left f63 p2 x0_way x0_steps x0_met x0_queue x0_totals, gridI d r0_line 20 7 x0_line]) hK qd3_93.2.2.1 rfl 0 16 rfl rfl ef63 rfl rfl ?_
                          refine J_iconst (v := 1) hK qd3_93.2.2.2.1 rfl (by decide) ?_
                          refine J_istore_n (L' := [(3, .int (1)), (8, .int (v52 * v53)), (7, .int ((3 * v50) + z40)), (6, .int ((3 * v48) + z40)), (0, .ref (h0 0)), (4, .int z13), (5, .int z40)]) hK qd3_93.2.2.2.2.1 rfl rfl (by decide) rfl ?_
                          exact J_loc [4, 0, 5, 6, 3, 2, 1] rfl (j168 f63 (1) hs38)
                exact J_loc [1, 2, 3, 0] rfl (lo38 n z12 (0) z14 hl38)
          exact J_loc [2, 1, 0] rfl (lo11 n (0) (0) z8 hl11)
    exact J_loc [1, 0] rfl (lo6 n (1) w5 hl6)
  have lo1 : ∀ (k : Nat) (z2 : Int32) (z3 : (Nat → Int32)), lp (u2 (fX7_findFar_s7 p1)) k (z2, z3) = some e4 → J d Φ 9 [gMd d h0 a0_kept a0_tried a0_chosen r0_rows r0_line r0_good r0_work x0_shelf x0_rowSort x0_rowSize x0_moved x0_shown x0_tape x0_tapeSize x0_refused x0_lines x0_changes x0_coins x0_goods x0_works x0_years x0_gone x0_spent x0_at x0_token x0_from x0_figures x0_fault x0_numbers x0_statements x0_left z3 p2 x0_way x0_steps x0_met x0_queue x0_totals, gridI d r0_line 20 7 x0_line] 0 0 7 [(0, .ref (h0 0)), (1, .int p1), (3, .int z2)] [] := by
    intro k
    induction k with
    | zero => intro z2 z3 h; cases h
    | succ k ih1 =>
      intro z2 z3 h
      obtain ⟨k2, rr1, hk2, hs1, hr1⟩ := lp_ok h
      cases hk2
      have hs1 : fX7_findFar_s7 p1 z2 z3 = some rr1 := hs1
      unfold fX7_findFar_s7 at hs1
      refine J_iload_n hK qd3_87.2.2.2.2.2.1 rfl 2 rfl rfl ?_
      refine J_bipush (v := 36) hK qd3_87.2.2.2.2.2.2.1 rfl (by decide) ?_
      refine J_icmp_ge (tg := 38) hK qd3_87.2.2.2.2.2.2.2.1 rfl rfl (fun hc10 => ?_) (fun hc10 => ?_)
      · have hs1 := ip hc10 hs1
        exact J_loc [0] rfl (hx1_38 z3 (lpx hs1 hr1))
      · have hs1 := iq hc10 hs1
        refine J_aload_n hK qd3_87.2.2.2.2.2.2.2.2.1 rfl 0 rfl rfl ?_
        refine J_get hK fo_RX7_64 qd3_87.2.2.2.2.2.2.2.2.2.1 rfl 0 0 rfl rfl rfl ?_
        refine J_iload_n hK qd3_87.2.2.2.2.2.2.2.2.2.2.1 rfl 2 rfl rfl ?_
        refine J_iload_n hK qd3_87.2.2.2.2.2.2.2.2.2.2.2.1 rfl 2 rfl rfl ?_
        refine J_iconst (v := 3) hK qd3_87.2.2.2.2.2.2.2.2.2.2.2.2.1 rfl (by decide) ?_
        refine J_idiv hK qd3_87.2.2.2.2.2.2.2.2.2.2.2.2.2.1 rfl (by decide) ?_
        refine J_iload_n hK qd3_87.2.2.2.2.2.2.2.2.2.2.2.2.2.2.1 rfl 1 rfl rfl ?_
        refine J_icmp_ne (tg := 29) hK qd3_87.2.2.2.2.2.2.2.2.2.2.2.2.2.2.2.1 rfl rfl (fun hc22 => ?_) (fun hc22 => ?_)
        · have hs1 := iq hc22 hs1
          refine J_ldc (v := 1000000000) hK qd3_88.2.2.1 rfl wk_RX7_254 ?_
          obtain ⟨f64, ef64, hs1⟩ := bs hs1
          refine J_iast (g' := gMd d h0 a0_kept a0_tried a0_chosen r0_rows r0_line r0_good r0_work x0_shelf x0_rowSort x0_rowSize x0_moved x0_shown x0_tape x0_tapeSize x0_refused x0_lines x0_changes x0_coins x0_goods x0_works x0_years x0_gone x0_spent x0_at x0_token x0_from x0_figures x0_fault x0_numbers x0_statements x0_left f64 p2 x0_way x0_steps x0_met x0_queue x0_totals) (gs' := [gMd d h0 a0_kept a0_tried a0_chosen r0_rows r0_line r0_good r0_work x0_shelf x0_rowSort x0_rowSize x0_moved x0_shown x0_tape x0_tapeSize x0_refused x0_lines x0_changes x0_coins x0_goods x0_works x0_years x0_gone x0_spent x0_at x0_token x0_from x0_figures x0_fault x0_numbers x0_statements x0_left f64 p2 x0_way x0_steps x0_met x0_queue x0_totals, gridI d r0_line 20 7 x0_line]) hK qd3_88.2.2.2.1 rfl 0 16 rfl rfl ef64 rfl rfl ?_
          refine J_iinc (L' := [(3, .int (z2 + 1)), (0, .ref (h0 0)), (1, .int p1)]) (v := (z2 + 1)) hK qd3_88.2.2.2.2.1 rfl 2 rfl rfl (by decide) rfl ?_
          refine J_goto hK qd3_88.2.2.2.2.2.1 (n := 7) rfl ?_
          exact J_loc [1, 2, 0] rfl (ih1 (z2 + 1) f64 (lpc hs1 hr1))
        · have hs1 := ip hc22 hs1
          refine J_iconst (v := 0) hK qd3_88.1 rfl (by decide) ?_
          refine J_goto hK qd3_88.2.1 (n := 31) rfl ?_
          obtain ⟨f65, ef65, hs1⟩ := bs hs1
          refine J_iast (g' := gMd d h0 a0_kept a0_tried a0_chosen r0_rows r0_line r0_good r0_work x0_shelf x0_rowSort x0_rowSize x0_moved x0_shown x0_tape x0_tapeSize x0_refused x0_lines x0_changes x0_coins x0_goods x0_works x0_years x0_gone x0_spent x0_at x0_token x0_from x0_figures x0_fault x0_numbers x0_statements x0_left f65 p2 x0_way x0_steps x0_met x0_queue x0_totals) (gs' := [gMd d h0 a0_kept a0_tried a0_chosen r0_rows r0_line r0_good r0_work x0_shelf x0_rowSort x0_rowSize x0_moved x0_shown x0_tape x0_tapeSize x0_refused x0_lines x0_changes x0_coins x0_goods x0_works x0_years x0_gone x0_spent x0_at x0_token x0_from x0_figures x0_fault x0_numbers x0_statements x0_left f65 p2 x0_way x0_steps x0_met x0_queue x0_totals, gridI d r0_line 20 7 x0_line]) hK qd3_88.2.2.2.1 rfl 0 16 rfl rfl ef65 rfl rfl ?_
          refine J_iinc (L' := [(3, .int (z2 + 1)), (0, .ref (h0 0)), (1, .int p1)]) (v := (z2 + 1)) hK qd3_88.2.2.2.2.1 rfl 2 rfl rfl (by decide) rfl ?_
          refine J_goto hK qd3_88.2.2.2.2.2.1 (n := 7) rfl ?_
          exact J_loc [1, 2, 0] rfl (ih1 (z2 + 1) f65 (lpc hs1 hr1))
  exact J_loc [1, 2, 0] rfl (lo1 n (0) x0_far hl1)

def fX7_least_s5 (p1 : Int32) (x0_far : (Nat → Int32)) (z2 : Int32) (z3 : Int32) : Option ((Int32 × Int32) ⊕ (Int32)) :=
  if 3 ≤ z3 then (some (.inr z2)) else ((rd 36 x0_far ((3 * p1) + z3)).bind fun v6 => if z2 ≤ v6 then (some (.inl (z2, (z3 + 1)))) else ((rd 36 x0_far ((3 * p1) + z3)).bind fun v7 => some (.inl (v7, (z3 + 1)))))
def fX7_least (n : Nat) (X0 : MdT) (p1 : Int32) : Option (Int32) :=
  u35 (fun (x0_shelf : (Nat → Int32)) (x0_rowSort : (Nat → Int32)) (x0_rowSize : (Nat → Int32)) (x0_rows : (Nat → Nat → Int64)) (x0_moved : (Nat → Int64)) (x0_shown : (Nat → Int32)) (x0_tape : (Nat → Int32)) (x0_tapeSize : Int32) (x0_refused : (Nat → Int32)) (x0_lines : Int32) (x0_line : (Nat → Nat → Int32)) (x0_changes : (Nat → Int32)) (x0_coins : (Nat → Int32)) (x0_goods : Int32) (x0_good : (Nat → Nat → Int32)) (x0_works : Int32) (x0_work : (Nat → Nat → Int32)) (x0_years : Int32) (x0_gone : Int32) (x0_spent : Int32) (x0_at : Int32) (x0_token : Int32) (x0_from : Int32) (x0_figures : Int64) (x0_fault : Int32) (x0_numbers : (Nat → Int32)) (x0_statements : Int32) (x0_left : (Nat → Int32)) (x0_far : (Nat → Int32)) (x0_tons : Int32) (x0_way : (Nat → Int32)) (x0_steps : Int32) (x0_met : Int64) (x0_queue : (Nat → Int32)) (x0_totals : (Nat → Int32)) => (lp (u2 (fX7_least_s5 p1 x0_far)) n (1000000000, 0)).bind (fun w5 => some w5)) X0
set_option maxHeartbeats 4000000 in
set_option maxRecDepth 100000 in
theorem kX7_least (l : Launch) (d : DT) (h0 : Nat → Nat) (r0_rows : Nat → Nat) (r0_line : Nat → Nat) (r0_good : Nat → Nat) (r0_work : Nat → Nat) (a0_kept : Option Nat) (a0_tried : Option Nat) (a0_chosen : Option Nat) (n : Nat) (x0_shelf : (Nat → Int32)) (x0_rowSort : (Nat → Int32)) (x0_rowSize : (Nat → Int32)) (x0_rows : (Nat → Nat → Int64)) (x0_moved : (Nat → Int64)) (x0_shown : (Nat → Int32)) (x0_tape : (Nat → Int32)) (x0_tapeSize : Int32) (x0_refused : (Nat → Int32)) (x0_lines : Int32) (x0_line : (Nat → Nat → Int32)) (x0_changes : (Nat → Int32)) (x0_coins : (Nat → Int32)) (x0_goods : Int32) (x0_good : (Nat → Nat → Int32)) (x0_works : Int32) (x0_work : (Nat → Nat → Int32)) (x0_years : Int32) (x0_gone : Int32) (x0_spent : Int32) (x0_at : Int32) (x0_token : Int32) (x0_from : Int32) (x0_figures : Int64) (x0_fault : Int32) (x0_numbers : (Nat → Int32)) (x0_statements : Int32) (x0_left : (Nat → Int32)) (x0_far : (Nat → Int32)) (x0_tons : Int32) (x0_way : (Nat → Int32)) (x0_steps : Int32) (x0_met : Int64) (x0_queue : (Nat → Int32)) (x0_totals : (Nat → Int32)) (p1 : Int32)  {out : Int32} (hf : fX7_least n (x0_shelf, x0_rowSort, x0_rowSize, x0_rows, x0_moved, x0_shown, x0_tape, x0_tapeSize, x0_refused, x0_lines, x0_line, x0_changes, x0_coins, x0_goods, x0_good, x0_works, x0_work, x0_years, x0_gone, x0_spent, x0_at, x0_token, x0_from, x0_figures, x0_fault, x0_numbers, x0_statements, x0_left, x0_far, x0_tons, x0_way, x0_steps, x0_met, x0_queue, x0_totals) p1 = some out) : Ct l d yX7_least cX7_least 4 (some .int) { frames := 0, cells := 0, slots := 0, locals := 0 } [.ref (h0 0), .int p1] [gMd d h0 a0_kept a0_tried a0_chosen r0_rows r0_line r0_good r0_work x0_shelf x0_rowSort x0_rowSize x0_moved x0_shown x0_tape x0_tapeSize x0_refused x0_lines x0_changes x0_coins x0_goods x0_works x0_years x0_gone x0_spent x0_at x0_token x0_from x0_figures x0_fault x0_numbers x0_statements x0_left x0_far x0_tons x0_way x0_steps x0_met x0_queue x0_totals] (fun _ : Unit => (some (.int out), [gMd d h0 a0_kept a0_tried a0_chosen r0_rows r0_line r0_good r0_work x0_shelf x0_rowSort x0_rowSize x0_moved x0_shown x0_tape x0_tapeSize x0_refused x0_lines x0_changes x0_coins x0_goods x0_works x0_years x0_gone x0_spent x0_at x0_token x0_from x0_figures x0_fault x0_numbers x0_statements x0_left x0_far x0_tons x0_way x0_steps x0_met x0_queue x0_totals])) := by
  refine Ct.of (by decide) (Nat.le_of_ble_eq_true rfl) ?_
  intro Φ hl hK hR
  subst hl
  have hK : Ok d Φ RX7 "least" cX7_least 4 (some .int) { frames := 0, cells := 0, slots := 0, locals := 0 } := hK
  unfold fX7_least at hf
  have hf := un35 hf
  show J d Φ 4 [gMd d h0 a0_kept a0_tried a0_chosen r0_rows r0_line r0_good r0_work x0_shelf x0_rowSort x0_rowSize x0_moved x0_shown x0_tape x0_tapeSize x0_refused x0_lines x0_changes x0_coins x0_goods x0_works x0_years x0_gone x0_spent x0_at x0_token x0_from x0_figures x0_fault x0_numbers x0_statements x0_left x0_far x0_tons x0_way x0_steps x0_met x0_queue x0_totals] 0 0 0 [(0, .ref (h0 0)), (1, .int p1)] []
  refine J_ldc (v := 1000000000) hK qd3_99.1 rfl wk_RX7_254 ?_
  refine J_istore_n (L' := [(2, .int (1000000000)), (0, .ref (h0 0)), (1, .int p1)]) hK qd3_99.2.1 rfl rfl (by decide) rfl ?_
  refine J_iconst (v := 0) hK qd3_99.2.2.1 rfl (by decide) ?_
  refine J_istore_n (L' := [(3, .int (0)), (2, .int (1000000000)), (0, .ref (h0 0)), (1, .int p1)]) hK qd3_99.2.2.2.1 rfl rfl (by decide) rfl ?_
  obtain ⟨e4, hl1, hf⟩ := bs hf
  have hx1_45 : ∀ (w5 : Int32), w5 = e4 → J d Φ 4 [gMd d h0 a0_kept a0_tried a0_chosen r0_rows r0_line r0_good r0_work x0_shelf x0_rowSort x0_rowSize x0_moved x0_shown x0_tape x0_tapeSize x0_refused x0_lines x0_changes x0_coins x0_goods x0_works x0_years x0_gone x0_spent x0_at x0_token x0_from x0_figures x0_fault x0_numbers x0_statements x0_left x0_far x0_tons x0_way x0_steps x0_met x0_queue x0_totals] 0 0 45 [(2, .int w5)] [] := by
    intro w5 he
    rw [← he] at hf
    refine J_iload_n hK qd3_100.2.2.2.2.2.2.2.2.2.2.2.2.2.2.1 rfl 0 rfl rfl ?_
    obtain rfl := Option.some.inj hf
    exact J_iret hK hR qd3_100.2.2.2.2.2.2.2.2.2.2.2.2.2.2.2.1 () rfl (by decide) (by decide)
  have lo1 : ∀ (k : Nat) (z2 : Int32) (z3 : Int32), lp (u2 (fX7_least_s5 p1 x0_far)) k (z2, z3) = some e4 → J d Φ 4 [gMd d h0 a0_kept a0_tried a0_chosen r0_rows r0_line r0_good r0_work x0_shelf x0_rowSort x0_rowSize x0_moved x0_shown x0_tape x0_tapeSize x0_refused x0_lines x0_changes x0_coins x0_goods x0_works x0_years x0_gone x0_spent x0_at x0_token x0_from x0_figures x0_fault x0_numbers x0_statements x0_left x0_far x0_tons x0_way x0_steps x0_met x0_queue x0_totals] 0 0 5 [(0, .ref (h0 0)), (1, .int p1), (2, .int z2), (3, .int z3)] [] := by
    intro k
    induction k with
    | zero => intro z2 z3 h; cases h
    | succ k ih1 =>
      intro z2 z3 h
      obtain ⟨k2, rr1, hk2, hs1, hr1⟩ := lp_ok h
      cases hk2
      have hs1 : fX7_least_s5 p1 x0_far z2 z3 = some rr1 := hs1
      unfold fX7_least_s5 at hs1
      refine J_iload_n hK qd3_99.2.2.2.2.1 rfl 3 rfl rfl ?_
      refine J_iconst (v := 3) hK qd3_99.2.2.2.2.2.1 rfl (by decide) ?_
      refine J_icmp_ge (tg := 45) hK qd3_99.2.2.2.2.2.2.1 rfl rfl (fun hc7 => ?_) (fun hc7 => ?_)
      · have hs1 := ip hc7 hs1
        exact J_loc [2] rfl (hx1_45 z2 (lpx hs1 hr1))
      · have hs1 := iq hc7 hs1
        refine J_aload_n hK qd3_99.2.2.2.2.2.2.2.1 rfl 0 rfl rfl ?_
        refine J_get hK fo_RX7_64 qd3_99.2.2.2.2.2.2.2.2.1 rfl 0 0 rfl rfl rfl ?_
        refine J_iconst (v := 3) hK qd3_99.2.2.2.2.2.2.2.2.2.1 rfl (by decide) ?_
        refine J_iload_n hK qd3_99.2.2.2.2.2.2.2.2.2.2.1 rfl 1 rfl rfl ?_
        refine J_imul hK qd3_99.2.2.2.2.2.2.2.2.2.2.2.1 rfl ?_
        refine J_iload_n hK qd3_99.2.2.2.2.2.2.2.2.2.2.2.2.1 rfl 3 rfl rfl ?_
        refine J_iadd hK qd3_99.2.2.2.2.2.2.2.2.2.2.2.2.2.1 rfl ?_
        obtain ⟨v6, ev6, hs1⟩ := bs hs1
        refine J_iald hK qd3_99.2.2.2.2.2.2.2.2.2.2.2.2.2.2.1 rfl 0 16 rfl rfl ev6 ?_
        refine J_iload_n hK qd3_99.2.2.2.2.2.2.2.2.2.2.2.2.2.2.2.1 rfl 2 rfl rfl ?_
        refine J_icmp_ge (tg := 37) hK qd3_100.1 rfl rfl (fun hc21 => ?_) (fun hc21 => ?_)
        · have hs1 := ip hc21 hs1
          refine J_iload_n hK qd3_100.2.2.2.2.2.2.2.2.2.2.1 rfl 2 rfl rfl ?_
          refine J_istore_n (L' := [(2, .int z2), (0, .ref (h0 0)), (1, .int p1), (3, .int z3)]) hK qd3_100.2.2.2.2.2.2.2.2.2.2.2.1 rfl rfl (by decide) rfl ?_
          refine J_iinc (L' := [(3, .int (z3 + 1)), (2, .int z2), (0, .ref (h0 0)), (1, .int p1)]) (v := (z3 + 1)) hK qd3_100.2.2.2.2.2.2.2.2.2.2.2.2.1 rfl 3 rfl rfl (by decide) rfl ?_
          refine J_goto hK qd3_100.2.2.2.2.2.2.2.2.2.2.2.2.2.1 (n := 5) rfl ?_
          exact J_loc [2, 3, 1, 0] rfl (ih1 z2 (z3 + 1) (lpc hs1 hr1))
        · have hs1 := iq hc21 hs1
          refine J_aload_n hK qd3_100.2.1 rfl 0 rfl rfl ?_
          refine J_get hK fo_RX7_64 qd3_100.2.2.1 rfl 0 0 rfl rfl rfl ?_
          refine J_iconst (v := 3) hK qd3_100.2.2.2.1 rfl (by decide) ?_
          refine J_iload_n hK qd3_100.2.2.2.2.1 rfl 1 rfl rfl ?_
          refine J_imul hK qd3_100.2.2.2.2.2.1 rfl ?_
          refine J_iload_n hK qd3_100.2.2.2.2.2.2.1 rfl 3 rfl rfl ?_
          refine J_iadd hK qd3_100.2.2.2.2.2.2.2.1 rfl ?_
          obtain ⟨v7, ev7, hs1⟩ := bs hs1
          refine J_iald hK qd3_100.2.2.2.2.2.2.2.2.1 rfl 0 16 rfl rfl ev7 ?_
          refine J_goto hK qd3_100.2.2.2.2.2.2.2.2.2.1 (n := 38) rfl ?_
          refine J_istore_n (L' := [(2, .int v7), (0, .ref (h0 0)), (1, .int p1), (3, .int z3)]) hK qd3_100.2.2.2.2.2.2.2.2.2.2.2.1 rfl rfl (by decide) rfl ?_
          refine J_iinc (L' := [(3, .int (z3 + 1)), (2, .int v7), (0, .ref (h0 0)), (1, .int p1)]) (v := (z3 + 1)) hK qd3_100.2.2.2.2.2.2.2.2.2.2.2.2.1 rfl 3 rfl rfl (by decide) rfl ?_
          refine J_goto hK qd3_100.2.2.2.2.2.2.2.2.2.2.2.2.2.1 (n := 5) rfl ?_
          exact J_loc [2, 3, 1, 0] rfl (ih1 v7 (z3 + 1) (lpc hs1 hr1))
  exact J_loc [2, 3, 1, 0] rfl (lo1 n (1000000000) (0) hl1)

def fX7_stepTo_j139 (p1 : Int32) (p2 : Int32) (x0_line : (Nat → Nat → Int32)) (x0_coins : (Nat → Int32)) (x0_far : (Nat → Int32)) (y7 : Int32) : Option (Int32) :=
  (some ((3 * y7) + (p1 - p1 / 3 * 3))).bind fun t8 => (rd 36 x0_far t8).bind fun v9 => (ck (p2 - 3) 20).bind fun q10 => (rd 7 (x0_line q10) (3)).bind fun v11 => (rd 3 x0_coins (p1 - p1 / 3 * 3)).bind fun v12 => (rd 36 x0_far p1).bind fun v13 => if (v9 + (v11 * v12)) = v13 then (some t8) else (some (-1))
def fX7_stepTo_j102 (p1 : Int32) (p2 : Int32) (x0_line : (Nat → Nat → Int32)) (x0_coins : (Nat → Int32)) (x0_far : (Nat → Int32)) : Option (Int32) :=
  (ck (p2 - 3) 20).bind fun q5 => (rd 7 (x0_line q5) (0)).bind fun v6 => if v6 = (p1 / 3) then ((ck (p2 - 3) 20).bind fun q16 => (rd 7 (x0_line q16) (1)).bind fun v17 => fX7_stepTo_j139 p1 p2 x0_line x0_coins x0_far v17) else ((ck (p2 - 3) 20).bind fun q14 => (rd 7 (x0_line q14) (0)).bind fun v15 => fX7_stepTo_j139 p1 p2 x0_line x0_coins x0_far v15)
def fX7_stepTo (X0 : MdT) (p1 : Int32) (p2 : Int32) : Option (Int32) :=
  u35 (fun (x0_shelf : (Nat → Int32)) (x0_rowSort : (Nat → Int32)) (x0_rowSize : (Nat → Int32)) (x0_rows : (Nat → Nat → Int64)) (x0_moved : (Nat → Int64)) (x0_shown : (Nat → Int32)) (x0_tape : (Nat → Int32)) (x0_tapeSize : Int32) (x0_refused : (Nat → Int32)) (x0_lines : Int32) (x0_line : (Nat → Nat → Int32)) (x0_changes : (Nat → Int32)) (x0_coins : (Nat → Int32)) (x0_goods : Int32) (x0_good : (Nat → Nat → Int32)) (x0_works : Int32) (x0_work : (Nat → Nat → Int32)) (x0_years : Int32) (x0_gone : Int32) (x0_spent : Int32) (x0_at : Int32) (x0_token : Int32) (x0_from : Int32) (x0_figures : Int64) (x0_fault : Int32) (x0_numbers : (Nat → Int32)) (x0_statements : Int32) (x0_left : (Nat → Int32)) (x0_far : (Nat → Int32)) (x0_tons : Int32) (x0_way : (Nat → Int32)) (x0_steps : Int32) (x0_met : Int64) (x0_queue : (Nat → Int32)) (x0_totals : (Nat → Int32)) => if 3 ≤ p2 then ((fX7_bears (x0_shelf, x0_rowSort, x0_rowSize, x0_rows, x0_moved, x0_shown, x0_tape, x0_tapeSize, x0_refused, x0_lines, x0_line, x0_changes, x0_coins, x0_goods, x0_good, x0_works, x0_work, x0_years, x0_gone, x0_spent, x0_at, x0_token, x0_from, x0_figures, x0_fault, x0_numbers, x0_statements, x0_left, x0_far, x0_tons, x0_way, x0_steps, x0_met, x0_queue, x0_totals) (p2 - 3) (p1 - p1 / 3 * 3)).bind (fun v1 => if v1 = 0 then (some (-1)) else ((ck (p2 - 3) 20).bind fun q3 => (rd 7 (x0_line q3) (0)).bind fun v4 => if v4 = (p1 / 3) then (fX7_stepTo_j102 p1 p2 x0_line x0_coins x0_far) else ((ck (p2 - 3) 20).bind fun q18 => (rd 7 (x0_line q18) (1)).bind fun v19 => if v19 = (p1 / 3) then (fX7_stepTo_j102 p1 p2 x0_line x0_coins x0_far) else (some (-1)))))) else (if p2 = (p1 - p1 / 3 * 3) then (some (-1)) else ((rd 36 x0_far (((p1 / 3) * 3) + p2)).bind fun v20 => (rd 12 x0_changes (p1 / 3)).bind fun v21 => (rd 36 x0_far p1).bind fun v22 => if (v20 + v21) = v22 then (some (((p1 / 3) * 3) + p2)) else (some (-1))))) X0
set_option maxHeartbeats 4000000 in
set_option maxRecDepth 100000 in
theorem kX7_stepTo (l : Launch) (d : DT) (h0 : Nat → Nat) (r0_rows : Nat → Nat) (r0_line : Nat → Nat) (r0_good : Nat → Nat) (r0_work : Nat → Nat) (a0_kept : Option Nat) (a0_tried : Option Nat) (a0_chosen : Option Nat) (x0_shelf : (Nat → Int32)) (x0_rowSort : (Nat → Int32)) (x0_rowSize : (Nat → Int32)) (x0_rows : (Nat → Nat → Int64)) (x0_moved : (Nat → Int64)) (x0_shown : (Nat → Int32)) (x0_tape : (Nat → Int32)) (x0_tapeSize : Int32) (x0_refused : (Nat → Int32)) (x0_lines : Int32) (x0_line : (Nat → Nat → Int32)) (x0_changes : (Nat → Int32)) (x0_coins : (Nat → Int32)) (x0_goods : Int32) (x0_good : (Nat → Nat → Int32)) (x0_works : Int32) (x0_work : (Nat → Nat → Int32)) (x0_years : Int32) (x0_gone : Int32) (x0_spent : Int32) (x0_at : Int32) (x0_token : Int32) (x0_from : Int32) (x0_figures : Int64) (x0_fault : Int32) (x0_numbers : (Nat → Int32)) (x0_statements : Int32) (x0_left : (Nat → Int32)) (x0_far : (Nat → Int32)) (x0_tons : Int32) (x0_way : (Nat → Int32)) (x0_steps : Int32) (x0_met : Int64) (x0_queue : (Nat → Int32)) (x0_totals : (Nat → Int32)) (p1 : Int32) (p2 : Int32)  {out : Int32} (hf : fX7_stepTo (x0_shelf, x0_rowSort, x0_rowSize, x0_rows, x0_moved, x0_shown, x0_tape, x0_tapeSize, x0_refused, x0_lines, x0_line, x0_changes, x0_coins, x0_goods, x0_good, x0_works, x0_work, x0_years, x0_gone, x0_spent, x0_at, x0_token, x0_from, x0_figures, x0_fault, x0_numbers, x0_statements, x0_left, x0_far, x0_tons, x0_way, x0_steps, x0_met, x0_queue, x0_totals) p1 p2 = some out) : Ct l d yX7_stepTo cX7_stepTo 6 (some .int) { frames := 1, cells := 0, slots := 0, locals := 22 } [.ref (h0 0), .int p1, .int p2] [gMd d h0 a0_kept a0_tried a0_chosen r0_rows r0_line r0_good r0_work x0_shelf x0_rowSort x0_rowSize x0_moved x0_shown x0_tape x0_tapeSize x0_refused x0_lines x0_changes x0_coins x0_goods x0_works x0_years x0_gone x0_spent x0_at x0_token x0_from x0_figures x0_fault x0_numbers x0_statements x0_left x0_far x0_tons x0_way x0_steps x0_met x0_queue x0_totals, gridI d r0_line 20 7 x0_line] (fun _ : Unit => (some (.int out), [gMd d h0 a0_kept a0_tried a0_chosen r0_rows r0_line r0_good r0_work x0_shelf x0_rowSort x0_rowSize x0_moved x0_shown x0_tape x0_tapeSize x0_refused x0_lines x0_changes x0_coins x0_goods x0_works x0_years x0_gone x0_spent x0_at x0_token x0_from x0_figures x0_fault x0_numbers x0_statements x0_left x0_far x0_tons x0_way x0_steps x0_met x0_queue x0_totals, gridI d r0_line 20 7 x0_line])) := by
  refine Ct.of (by decide) (Nat.le_of_ble_eq_true rfl) ?_
  intro Φ hl hK hR
  subst hl
  have hK : Ok d Φ RX7 "stepTo" cX7_stepTo 6 (some .int) { frames := 1, cells := 0, slots := 0, locals := 22 } := hK
  unfold fX7_stepTo at hf
  have hf := un35 hf
  show J d Φ 6 [gMd d h0 a0_kept a0_tried a0_chosen r0_rows r0_line r0_good r0_work x0_shelf x0_rowSort x0_rowSize x0_moved x0_shown x0_tape x0_tapeSize x0_refused x0_lines x0_changes x0_coins x0_goods x0_works x0_years x0_gone x0_spent x0_at x0_token x0_from x0_figures x0_fault x0_numbers x0_statements x0_left x0_far x0_tons x0_way x0_steps x0_met x0_queue x0_totals, gridI d r0_line 20 7 x0_line] 0 0 0 [(0, .ref (h0 0)), (1, .int p1), (2, .int p2)] []
  refine J_iload_n hK qd3_101.1 rfl 1 rfl rfl ?_
  refine J_iconst (v := 3) hK qd3_101.2.1 rfl (by decide) ?_
  refine J_irem hK qd3_101.2.2.1 rfl (by decide) ?_
  refine J_istore_n (L' := [(3, .int (p1 - p1 / 3 * 3)), (0, .ref (h0 0)), (1, .int p1), (2, .int p2)]) hK qd3_101.2.2.2.1 rfl rfl (by decide) rfl ?_
  refine J_iload_n hK qd3_101.2.2.2.2.1 rfl 3 rfl rfl ?_
  refine J_iconst (v := 3) hK qd3_101.2.2.2.2.2.1 rfl (by decide) ?_
  refine J_icmp_ge (tg := 55) hK qd3_101.2.2.2.2.2.2.1 rfl rfl (fun hc6 => ?_) (fun hc6 => ?_)
  · have hf := ip hc6 hf
    refine J_iload_n hK qd3_103.2.2.2.2.2.2.1 rfl 3 rfl rfl ?_
    refine J_iconst (v := 3) hK qd3_103.2.2.2.2.2.2.2.1 rfl (by decide) ?_
    refine J_isub hK qd3_103.2.2.2.2.2.2.2.2.1 rfl ?_
    refine J_istore (L' := [(4, .int (p2 - 3)), (3, .int (p1 - p1 / 3 * 3)), (0, .ref (h0 0)), (1, .int p1), (2, .int p2)]) hK qd3_103.2.2.2.2.2.2.2.2.2.1 rfl (by decide) rfl ?_
    refine J_aload_n hK qd3_103.2.2.2.2.2.2.2.2.2.2.1 rfl 2 rfl rfl ?_
    refine J_iload hK qd3_103.2.2.2.2.2.2.2.2.2.2.2.1 rfl 0 rfl ?_
    refine J_iload_n hK qd3_103.2.2.2.2.2.2.2.2.2.2.2.2.1 rfl 1 rfl rfl ?_
    obtain ⟨v1, e2, hf⟩ := bs hf
    refine J_callV (m := 2) (m' := 2) (ce' := 0) (sl' := 0) (gr := []) (gs' := fun _ => [gMd d h0 a0_kept a0_tried a0_chosen r0_rows r0_line r0_good r0_work x0_shelf x0_rowSort x0_rowSize x0_moved x0_shown x0_tape x0_tapeSize x0_refused x0_lines x0_changes x0_coins x0_goods x0_works x0_years x0_gone x0_spent x0_at x0_token x0_from x0_figures x0_fault x0_numbers x0_statements x0_left x0_far x0_tons x0_way x0_steps x0_met x0_queue x0_totals, gridI d r0_line 20 7 x0_line]) (st' := fun _ => [.int v1]) (st := []) hK qd3_103.2.2.2.2.2.2.2.2.2.2.2.2.2.1 cv_RX7_255 iv_yX7_bears (As := [.int (p2 - 3), .int (p1 - p1 / 3 * 3)]) (kX7_bears _ d h0 r0_rows r0_line r0_good r0_work a0_kept a0_tried a0_chosen x0_shelf x0_rowSort x0_rowSize x0_rows x0_moved x0_shown x0_tape x0_tapeSize x0_refused x0_lines x0_line x0_changes x0_coins x0_goods x0_good x0_works x0_work x0_years x0_gone x0_spent x0_at x0_token x0_from x0_figures x0_fault x0_numbers x0_statements x0_left x0_far x0_tons x0_way x0_steps x0_met x0_queue x0_totals (p2 - 3) (p1 - p1 / 3 * 3) e2) rfl rfl (Nat.le_of_ble_eq_true rfl) (by decide) 0 0 rfl rfl rfl [0, 1] [] rfl (by decide +kernel) rfl rfl [0, 1] (by decide +kernel) (fun _ => rfl) (fun _ => rfl) rfl rfl rfl (fun _ => rfl) (fun _ => ?_)
    refine J_if_eq (tg := 100) hK qd3_103.2.2.2.2.2.2.2.2.2.2.2.2.2.2.1 rfl rfl (fun hc67 => ?_) (fun hc67 => ?_)
    · have hf := ip hc67 hf
      refine J_iconst (v := (-1)) hK qd3_105.2.2.2.1 rfl (by decide) ?_
      obtain rfl := Option.some.inj hf
      exact J_iret hK hR qd3_105.2.2.2.2.1 () rfl (by decide) (by decide)
    · have hf := iq hc67 hf
      refine J_aload_n hK qd3_103.2.2.2.2.2.2.2.2.2.2.2.2.2.2.2.1 rfl 2 rfl rfl ?_
      refine J_get hK fo_RX7_39 qd3_104.1 rfl 0 0 rfl rfl rfl ?_
      refine J_iload hK qd3_104.2.1 rfl 0 rfl ?_
      obtain ⟨q3, eq3, hf⟩ := bs hf
      refine J_aald hK qd3_104.2.2.1 rfl 0 9 rfl rfl rfl eq3 ?_
      refine J_iconst (v := 0) hK qd3_104.2.2.2.1 rfl (by decide) ?_
      obtain ⟨v4, ev4, hf⟩ := bs hf
      refine J_iald hK qd3_104.2.2.2.2.1 rfl 1 q3 rfl (gridI_at (ck_ok eq3).2.2) ev4 ?_
      refine J_iload_n hK qd3_104.2.2.2.2.2.1 rfl 3 rfl rfl ?_
      refine J_iconst (v := 3) hK qd3_104.2.2.2.2.2.2.1 rfl (by decide) ?_
      refine J_idiv hK qd3_104.2.2.2.2.2.2.2.1 rfl (by decide) ?_
      have j102 : fX7_stepTo_j102 p1 p2 x0_line x0_coins x0_far = some out → J d Φ 6 [gMd d h0 a0_kept a0_tried a0_chosen r0_rows r0_line r0_good r0_work x0_shelf x0_rowSort x0_rowSize x0_moved x0_shown x0_tape x0_tapeSize x0_refused x0_lines x0_changes x0_coins x0_goods x0_works x0_years x0_gone x0_spent x0_at x0_token x0_from x0_figures x0_fault x0_numbers x0_statements x0_left x0_far x0_tons x0_way x0_steps x0_met x0_queue x0_totals, gridI d r0_line 20 7 x0_line] 0 0 102 [(0, .ref (h0 0)), (1, .int p1), (3, .int (p1 - p1 / 3 * 3)), (4, .int (p2 - 3))] [] := by
        intro  hf
        unfold fX7_stepTo_j102 at hf
        refine J_iconst (v := 3) hK qd3_105.2.2.2.2.2.1 rfl (by decide) ?_
        refine J_aload_n hK qd3_105.2.2.2.2.2.2.1 rfl 0 rfl rfl ?_
        refine J_get hK fo_RX7_39 qd3_105.2.2.2.2.2.2.2.1 rfl 0 0 rfl rfl rfl ?_
        refine J_iload hK qd3_105.2.2.2.2.2.2.2.2.1 rfl 3 rfl ?_
        obtain ⟨q5, eq5, hf⟩ := bs hf
        refine J_aald hK qd3_105.2.2.2.2.2.2.2.2.2.1 rfl 0 9 rfl rfl rfl eq5 ?_
        refine J_iconst (v := 0) hK qd3_105.2.2.2.2.2.2.2.2.2.2.1 rfl (by decide) ?_
        obtain ⟨v6, ev6, hf⟩ := bs hf
        refine J_iald hK qd3_105.2.2.2.2.2.2.2.2.2.2.2.1 rfl 1 q5 rfl (gridI_at (ck_ok eq5).2.2) ev6 ?_
        refine J_iload_n hK qd3_105.2.2.2.2.2.2.2.2.2.2.2.2.1 rfl 1 rfl rfl ?_
        refine J_iconst (v := 3) hK qd3_105.2.2.2.2.2.2.2.2.2.2.2.2.2.1 rfl (by decide) ?_
        refine J_idiv hK qd3_105.2.2.2.2.2.2.2.2.2.2.2.2.2.2.1 rfl (by decide) ?_
        have j139 : ∀ (y7 : Int32), fX7_stepTo_j139 p1 p2 x0_line x0_coins x0_far y7 = some out → J d Φ 6 [gMd d h0 a0_kept a0_tried a0_chosen r0_rows r0_line r0_good r0_work x0_shelf x0_rowSort x0_rowSize x0_moved x0_shown x0_tape x0_tapeSize x0_refused x0_lines x0_changes x0_coins x0_goods x0_works x0_years x0_gone x0_spent x0_at x0_token x0_from x0_figures x0_fault x0_numbers x0_statements x0_left x0_far x0_tons x0_way x0_steps x0_met x0_queue x0_totals, gridI d r0_line 20 7 x0_line] 0 0 139 [(0, .ref (h0 0)), (1, .int p1), (3, .int (p1 - p1 / 3 * 3)), (4, .int (p2 - 3))] [.int y7, .int (3)] := by
          intro y7 hf
          unfold fX7_stepTo_j139 at hf
          refine J_imul hK qd3_106.2.2.2.2.2.2.2.2.2.2.2.2.2.1 rfl ?_
          refine J_iload_n hK qd3_106.2.2.2.2.2.2.2.2.2.2.2.2.2.2.1 rfl 2 rfl rfl ?_
          refine J_iadd hK qd3_106.2.2.2.2.2.2.2.2.2.2.2.2.2.2.2.1 rfl ?_
          obtain ⟨t8, et8, hf⟩ := bs hf
          refine J_nmi et8 ?_
          refine J_istore (L' := [(5, .int t8), (0, .ref (h0 0)), (1, .int p1), (3, .int (p1 - p1 / 3 * 3)), (4, .int (p2 - 3))]) hK qd3_107.1 rfl (by decide) rfl ?_
          refine J_aload_n hK qd3_107.2.1 rfl 1 rfl rfl ?_
          refine J_get hK fo_RX7_64 qd3_107.2.2.1 rfl 0 0 rfl rfl rfl ?_
          refine J_iload hK qd3_107.2.2.2.1 rfl 0 rfl ?_
          obtain ⟨v9, ev9, hf⟩ := bs hf
          refine J_iald hK qd3_107.2.2.2.2.1 rfl 0 16 rfl rfl ev9 ?_
          refine J_aload_n hK qd3_107.2.2.2.2.2.1 rfl 1 rfl rfl ?_
          refine J_get hK fo_RX7_39 qd3_107.2.2.2.2.2.2.1 rfl 0 0 rfl rfl rfl ?_
          refine J_iload hK qd3_107.2.2.2.2.2.2.2.1 rfl 4 rfl ?_
          obtain ⟨q10, eq10, hf⟩ := bs hf
          refine J_aald hK qd3_107.2.2.2.2.2.2.2.2.1 rfl 0 9 rfl rfl rfl eq10 ?_
          refine J_iconst (v := 3) hK qd3_107.2.2.2.2.2.2.2.2.2.1 rfl (by decide) ?_
          obtain ⟨v11, ev11, hf⟩ := bs hf
          refine J_iald hK qd3_107.2.2.2.2.2.2.2.2.2.2.1 rfl 1 q10 rfl (gridI_at (ck_ok eq10).2.2) ev11 ?_
          refine J_aload_n hK qd3_107.2.2.2.2.2.2.2.2.2.2.2.1 rfl 1 rfl rfl ?_
          refine J_get hK fo_RX7_45 qd3_107.2.2.2.2.2.2.2.2.2.2.2.2.1 rfl 0 0 rfl rfl rfl ?_
          refine J_iload_n hK qd3_107.2.2.2.2.2.2.2.2.2.2.2.2.2.1 rfl 3 rfl rfl ?_
          obtain ⟨v12, ev12, hf⟩ := bs hf
          refine J_iald hK qd3_107.2.2.2.2.2.2.2.2.2.2.2.2.2.2.1 rfl 0 11 rfl rfl ev12 ?_
          refine J_imul hK qd3_107.2.2.2.2.2.2.2.2.2.2.2.2.2.2.2.1 rfl ?_
          refine J_iadd hK qd3_108.1 rfl ?_
          refine J_aload_n hK qd3_108.2.1 rfl 1 rfl rfl ?_
          refine J_get hK fo_RX7_64 qd3_108.2.2.1 rfl 0 0 rfl rfl rfl ?_
          refine J_iload_n hK qd3_108.2.2.2.1 rfl 2 rfl rfl ?_
          obtain ⟨v13, ev13, hf⟩ := bs hf
          refine J_iald hK qd3_108.2.2.2.2.1 rfl 0 16 rfl rfl ev13 ?_
          refine J_icmp_ne (tg := 182) hK qd3_108.2.2.2.2.2.1 rfl rfl (fun hc174 => ?_) (fun hc174 => ?_)
          · have hf := iq hc174 hf
            refine J_iconst (v := (-1)) hK qd3_108.2.2.2.2.2.2.2.2.1 rfl (by decide) ?_
            obtain rfl := Option.some.inj hf
            exact J_iret hK hR qd3_108.2.2.2.2.2.2.2.2.2.1 () rfl (by decide) (by decide)
          · have hf := ip hc174 hf
            refine J_iload hK qd3_108.2.2.2.2.2.2.1 rfl 0 rfl ?_
            refine J_goto hK qd3_108.2.2.2.2.2.2.2.1 (n := 183) rfl ?_
            obtain rfl := Option.some.inj hf
            exact J_iret hK hR qd3_108.2.2.2.2.2.2.2.2.2.1 () rfl (by decide) (by decide)
        refine J_icmp_ne (tg := 130) hK qd3_105.2.2.2.2.2.2.2.2.2.2.2.2.2.2.2.1 rfl rfl (fun hc115 => ?_) (fun hc115 => ?_)
        · have hf := iq hc115 hf
          refine J_aload_n hK qd3_106.2.2.2.2.2.2.2.1 rfl 0 rfl rfl ?_
          refine J_get hK fo_RX7_39 qd3_106.2.2.2.2.2.2.2.2.1 rfl 0 0 rfl rfl rfl ?_
          refine J_iload hK qd3_106.2.2.2.2.2.2.2.2.2.1 rfl 3 rfl ?_
          obtain ⟨q14, eq14, hf⟩ := bs hf
          refine J_aald hK qd3_106.2.2.2.2.2.2.2.2.2.2.1 rfl 0 9 rfl rfl rfl eq14 ?_
          refine J_iconst (v := 0) hK qd3_106.2.2.2.2.2.2.2.2.2.2.2.1 rfl (by decide) ?_
          obtain ⟨v15, ev15, hf⟩ := bs hf
          refine J_iald hK qd3_106.2.2.2.2.2.2.2.2.2.2.2.2.1 rfl 1 q14 rfl (gridI_at (ck_ok eq14).2.2) ev15 ?_
          exact (j139 v15 hf)
        · have hf := ip hc115 hf
          refine J_aload_n hK qd3_106.1 rfl 0 rfl rfl ?_
          refine J_get hK fo_RX7_39 qd3_106.2.1 rfl 0 0 rfl rfl rfl ?_
          refine J_iload hK qd3_106.2.2.1 rfl 3 rfl ?_
          obtain ⟨q16, eq16, hf⟩ := bs hf
          refine J_aald hK qd3_106.2.2.2.1 rfl 0 9 rfl rfl rfl eq16 ?_
          refine J_iconst (v := 1) hK qd3_106.2.2.2.2.1 rfl (by decide) ?_
          obtain ⟨v17, ev17, hf⟩ := bs hf
          refine J_iald hK qd3_106.2.2.2.2.2.1 rfl 1 q16 rfl (gridI_at (ck_ok eq16).2.2) ev17 ?_
          refine J_goto hK qd3_106.2.2.2.2.2.2.1 (n := 139) rfl ?_
          exact (j139 v17 hf)
      refine J_icmp_eq (tg := 102) hK qd3_104.2.2.2.2.2.2.2.2.1 rfl rfl (fun hc82 => ?_) (fun hc82 => ?_)
      · have hf := ip hc82 hf
        exact J_loc [2, 3, 1, 0] rfl (j102  hf)
      · have hf := iq hc82 hf
        refine J_aload_n hK qd3_104.2.2.2.2.2.2.2.2.2.1 rfl 2 rfl rfl ?_
        refine J_get hK fo_RX7_39 qd3_104.2.2.2.2.2.2.2.2.2.2.1 rfl 0 0 rfl rfl rfl ?_
        refine J_iload hK qd3_104.2.2.2.2.2.2.2.2.2.2.2.1 rfl 0 rfl ?_
        obtain ⟨q18, eq18, hf⟩ := bs hf
        refine J_aald hK qd3_104.2.2.2.2.2.2.2.2.2.2.2.2.1 rfl 0 9 rfl rfl rfl eq18 ?_
        refine J_iconst (v := 1) hK qd3_104.2.2.2.2.2.2.2.2.2.2.2.2.2.1 rfl (by decide) ?_
        obtain ⟨v19, ev19, hf⟩ := bs hf
        refine J_iald hK qd3_104.2.2.2.2.2.2.2.2.2.2.2.2.2.2.1 rfl 1 q18 rfl (gridI_at (ck_ok eq18).2.2) ev19 ?_
        refine J_iload_n hK qd3_104.2.2.2.2.2.2.2.2.2.2.2.2.2.2.2.1 rfl 3 rfl rfl ?_
        refine J_iconst (v := 3) hK qd3_105.1 rfl (by decide) ?_
        refine J_idiv hK qd3_105.2.1 rfl (by decide) ?_
        refine J_icmp_eq (tg := 102) hK qd3_105.2.2.1 rfl rfl (fun hc97 => ?_) (fun hc97 => ?_)
        · have hf := ip hc97 hf
          exact J_loc [2, 3, 1, 0] rfl (j102  hf)
        · have hf := iq hc97 hf
          refine J_iconst (v := (-1)) hK qd3_105.2.2.2.1 rfl (by decide) ?_
          obtain rfl := Option.some.inj hf
          exact J_iret hK hR qd3_105.2.2.2.2.1 () rfl (by decide) (by decide)
  · have hf := iq hc6 hf
    refine J_iload_n hK qd3_101.2.2.2.2.2.2.2.1 rfl 2 rfl rfl ?_
    refine J_iconst (v := 3) hK qd3_101.2.2.2.2.2.2.2.2.1 rfl (by decide) ?_
    refine J_idiv hK qd3_101.2.2.2.2.2.2.2.2.2.1 rfl (by decide) ?_
    refine J_iconst (v := 3) hK qd3_101.2.2.2.2.2.2.2.2.2.2.1 rfl (by decide) ?_
    refine J_imul hK qd3_101.2.2.2.2.2.2.2.2.2.2.2.1 rfl ?_
    refine J_iload_n hK qd3_101.2.2.2.2.2.2.2.2.2.2.2.2.1 rfl 3 rfl rfl ?_
    refine J_iadd hK qd3_101.2.2.2.2.2.2.2.2.2.2.2.2.2.1 rfl ?_
    refine J_istore (L' := [(4, .int (((p1 / 3) * 3) + p2)), (3, .int (p1 - p1 / 3 * 3)), (0, .ref (h0 0)), (1, .int p1), (2, .int p2)]) hK qd3_101.2.2.2.2.2.2.2.2.2.2.2.2.2.2.1 rfl (by decide) rfl ?_
    refine J_iload_n hK qd3_101.2.2.2.2.2.2.2.2.2.2.2.2.2.2.2.1 rfl 4 rfl rfl ?_
    refine J_iload_n hK qd3_102.1 rfl 1 rfl rfl ?_
    refine J_icmp_eq (tg := 53) hK qd3_102.2.1 rfl rfl (fun hc20 => ?_) (fun hc20 => ?_)
    · have hf := ip hc20 hf
      refine J_iconst (v := (-1)) hK qd3_103.2.2.2.2.1 rfl (by decide) ?_
      obtain rfl := Option.some.inj hf
      exact J_iret hK hR qd3_103.2.2.2.2.2.1 () rfl (by decide) (by decide)
    · have hf := iq hc20 hf
      refine J_aload_n hK qd3_102.2.2.1 rfl 2 rfl rfl ?_
      refine J_get hK fo_RX7_64 qd3_102.2.2.2.1 rfl 0 0 rfl rfl rfl ?_
      refine J_iload hK qd3_102.2.2.2.2.1 rfl 0 rfl ?_
      obtain ⟨v20, ev20, hf⟩ := bs hf
      refine J_iald hK qd3_102.2.2.2.2.2.1 rfl 0 16 rfl rfl ev20 ?_
      refine J_aload_n hK qd3_102.2.2.2.2.2.2.1 rfl 2 rfl rfl ?_
      refine J_get hK fo_RX7_42 qd3_102.2.2.2.2.2.2.2.1 rfl 0 0 rfl rfl rfl ?_
      refine J_iload_n hK qd3_102.2.2.2.2.2.2.2.2.1 rfl 3 rfl rfl ?_
      refine J_iconst (v := 3) hK qd3_102.2.2.2.2.2.2.2.2.2.1 rfl (by decide) ?_
      refine J_idiv hK qd3_102.2.2.2.2.2.2.2.2.2.2.1 rfl (by decide) ?_
      obtain ⟨v21, ev21, hf⟩ := bs hf
      refine J_iald hK qd3_102.2.2.2.2.2.2.2.2.2.2.2.1 rfl 0 10 rfl rfl ev21 ?_
      refine J_iadd hK qd3_102.2.2.2.2.2.2.2.2.2.2.2.2.1 rfl ?_
      refine J_aload_n hK qd3_102.2.2.2.2.2.2.2.2.2.2.2.2.2.1 rfl 2 rfl rfl ?_
      refine J_get hK fo_RX7_64 qd3_102.2.2.2.2.2.2.2.2.2.2.2.2.2.2.1 rfl 0 0 rfl rfl rfl ?_
      refine J_iload_n hK qd3_102.2.2.2.2.2.2.2.2.2.2.2.2.2.2.2.1 rfl 3 rfl rfl ?_
      obtain ⟨v22, ev22, hf⟩ := bs hf
      refine J_iald hK qd3_103.1 rfl 0 16 rfl rfl ev22 ?_
      refine J_icmp_ne (tg := 53) hK qd3_103.2.1 rfl rfl (fun hc45 => ?_) (fun hc45 => ?_)
      · have hf := iq hc45 hf
        refine J_iconst (v := (-1)) hK qd3_103.2.2.2.2.1 rfl (by decide) ?_
        obtain rfl := Option.some.inj hf
        exact J_iret hK hR qd3_103.2.2.2.2.2.1 () rfl (by decide) (by decide)
      · have hf := ip hc45 hf
        refine J_iload hK qd3_103.2.2.1 rfl 0 rfl ?_
        refine J_goto hK qd3_103.2.2.2.1 (n := 54) rfl ?_
        obtain rfl := Option.some.inj hf
        exact J_iret hK hR qd3_103.2.2.2.2.2.1 () rfl (by decide) (by decide)
end
section
def fX7_canEnd_s62 (x0_shelf : (Nat → Int32)) (x0_rowSort : (Nat → Int32)) (x0_rowSize : (Nat → Int32)) (x0_rows : (Nat → Nat → Int64)) (x0_moved : (Nat → Int64)) (x0_shown : (Nat → Int32)) (x0_tape : (Nat → Int32)) (x0_tapeSize : Int32) (x0_refused : (Nat → Int32)) (x0_lines : Int32) (x0_line : (Nat → Nat → Int32)) (x0_changes : (Nat → Int32)) (x0_coins : (Nat → Int32)) (x0_goods : Int32) (x0_good : (Nat → Nat → Int32)) (x0_works : Int32) (x0_work : (Nat → Nat → Int32)) (x0_years : Int32) (x0_gone : Int32) (x0_spent : Int32) (x0_at : Int32) (x0_token : Int32) (x0_from : Int32) (x0_figures : Int64) (x0_fault : Int32) (x0_numbers : (Nat → Int32)) (x0_statements : Int32) (x0_left : (Nat → Int32)) (x0_far : (Nat → Int32)) (x0_tons : Int32) (x0_way : (Nat → Int32)) (x0_steps : Int32) (x0_met : Int64) (x0_totals : (Nat → Int32)) (z6 : Int32) (z13 : Int64) (z14 : Int32) (z15 : Int32) (z16 : (Nat → Int32)) : Option ((Int64 × Int32 × Int32 × (Nat → Int32)) ⊕ (Int64 × Int32 × (Nat → Int32))) :=
  if (3 + x0_lines) ≤ z15 then (some (.inr (z13, z14, z16))) else ((rd 36 z16 z6).bind fun v21 => (fX7_stepTo (x0_shelf, x0_rowSort, x0_rowSize, x0_rows, x0_moved, x0_shown, x0_tape, x0_tapeSize, x0_refused, x0_lines, x0_line, x0_changes, x0_coins, x0_goods, x0_good, x0_works, x0_work, x0_years, x0_gone, x0_spent, x0_at, x0_token, x0_from, x0_figures, x0_fault, x0_numbers, x0_statements, x0_left, x0_far, x0_tons, x0_way, x0_steps, x0_met, z16, x0_totals) v21 z15).bind (fun v22 => if v22 = (-1) then (some (.inl (z13, z14, (z15 + 1), z16))) else (if (lg_cmp ((z13 >>> ((v22).toInt64 &&& 63)) &&& (1 : Int64)) (0 : Int64)) = 0 then ((some (z13 ||| ((1 : Int64) <<< ((v22).toInt64 &&& 63)))).bind fun t24 => (wr 36 z16 z14 v22).bind fun f25 => some (.inl (t24, (z14 + 1), (z15 + 1), f25))) else (some (.inl (z13, z14, (z15 + 1), z16))))))
def fX7_canEnd_s37 (n : Nat) (p2 : Int32) (x0_shelf : (Nat → Int32)) (x0_rowSort : (Nat → Int32)) (x0_rowSize : (Nat → Int32)) (x0_rows : (Nat → Nat → Int64)) (x0_moved : (Nat → Int64)) (x0_shown : (Nat → Int32)) (x0_tape : (Nat → Int32)) (x0_tapeSize : Int32) (x0_refused : (Nat → Int32)) (x0_lines : Int32) (x0_line : (Nat → Nat → Int32)) (x0_changes : (Nat → Int32)) (x0_coins : (Nat → Int32)) (x0_goods : Int32) (x0_good : (Nat → Nat → Int32)) (x0_works : Int32) (x0_work : (Nat → Nat → Int32)) (x0_years : Int32) (x0_gone : Int32) (x0_spent : Int32) (x0_at : Int32) (x0_token : Int32) (x0_from : Int32) (x0_figures : Int64) (x0_fault : Int32) (x0_numbers : (Nat → Int32)) (x0_statements : Int32) (x0_left : (Nat → Int32)) (x0_far : (Nat → Int32)) (x0_tons : Int32) (x0_way : (Nat → Int32)) (x0_steps : Int32) (x0_met : Int64) (x0_totals : (Nat → Int32)) (z4 : Int64) (z5 : Int32) (z6 : Int32) (z7 : (Nat → Int32)) : Option ((Int64 × Int32 × Int32 × (Nat → Int32)) ⊕ ((((Nat → Int32)) ⊕ ((Nat → Int32))))) :=
  if z5 ≤ z6 then (some (.inr (.inr z7))) else ((rd 36 z7 z6).bind fun v11 => if (v11 / 3) = p2 then (some (.inr (.inl z7))) else ((lp (u4 (fX7_canEnd_s62 x0_shelf x0_rowSort x0_rowSize x0_rows x0_moved x0_shown x0_tape x0_tapeSize x0_refused x0_lines x0_line x0_changes x0_coins x0_goods x0_good x0_works x0_work x0_years x0_gone x0_spent x0_at x0_token x0_from x0_figures x0_fault x0_numbers x0_statements x0_left x0_far x0_tons x0_way x0_steps x0_met x0_totals z6)) n (z4, z5, 0, z7)).bind (u3 fun w18 w19 w20 => some (.inl (w18, w19, (z6 + 1), w20)))))
def fX7_canEnd (n : Nat) (X0 : MdT) (p1 : Int32) (p2 : Int32) : Option (Int32 × (Nat → Int32)) :=
  u35 (fun (x0_shelf : (Nat → Int32)) (x0_rowSort : (Nat → Int32)) (x0_rowSize : (Nat → Int32)) (x0_rows : (Nat → Nat → Int64)) (x0_moved : (Nat → Int64)) (x0_shown : (Nat → Int32)) (x0_tape : (Nat → Int32)) (x0_tapeSize : Int32) (x0_refused : (Nat → Int32)) (x0_lines : Int32) (x0_line : (Nat → Nat → Int32)) (x0_changes : (Nat → Int32)) (x0_coins : (Nat → Int32)) (x0_goods : Int32) (x0_good : (Nat → Nat → Int32)) (x0_works : Int32) (x0_work : (Nat → Nat → Int32)) (x0_years : Int32) (x0_gone : Int32) (x0_spent : Int32) (x0_at : Int32) (x0_token : Int32) (x0_from : Int32) (x0_figures : Int64) (x0_fault : Int32) (x0_numbers : (Nat → Int32)) (x0_statements : Int32) (x0_left : (Nat → Int32)) (x0_far : (Nat → Int32)) (x0_tons : Int32) (x0_way : (Nat → Int32)) (x0_steps : Int32) (x0_met : Int64) (x0_queue : (Nat → Int32)) (x0_totals : (Nat → Int32)) => if (lg_cmp ((x0_met >>> ((p1).toInt64 &&& 63)) &&& (1 : Int64)) (0 : Int64)) = 0 then ((some (x0_met ||| ((1 : Int64) <<< ((p1).toInt64 &&& 63)))).bind fun t1 => (wr 36 x0_queue (0) p1).bind fun f2 => (lp (u4 (fX7_canEnd_s37 n p2 x0_shelf x0_rowSort x0_rowSize x0_rows x0_moved x0_shown x0_tape x0_tapeSize x0_refused x0_lines x0_line x0_changes x0_coins x0_goods x0_good x0_works x0_work x0_years x0_gone x0_spent x0_at x0_token x0_from x0_figures x0_fault x0_numbers x0_statements x0_left x0_far x0_tons x0_way x0_steps x0_met x0_totals)) n (t1, 1, 0, f2)).bind (Sum.elim (fun w9 => some (1, w9)) (fun w10 => some (0, w10)))) else (some (0, x0_queue))) X0
set_option maxHeartbeats 4000000 in
set_option maxRecDepth 100000 in
theorem kX7_canEnd (l : Launch) (d : DT) (h0 : Nat → Nat) (r0_rows : Nat → Nat) (r0_line : Nat → Nat) (r0_good : Nat → Nat) (r0_work : Nat → Nat) (a0_kept : Option Nat) (a0_tried : Option Nat) (a0_chosen : Option Nat) (n : Nat) (x0_shelf : (Nat → Int32)) (x0_rowSort : (Nat → Int32)) (x0_rowSize : (Nat → Int32)) (x0_rows : (Nat → Nat → Int64)) (x0_moved : (Nat → Int64)) (x0_shown : (Nat → Int32)) (x0_tape : (Nat → Int32)) (x0_tapeSize : Int32) (x0_refused : (Nat → Int32)) (x0_lines : Int32) (x0_line : (Nat → Nat → Int32)) (x0_changes : (Nat → Int32)) (x0_coins : (Nat → Int32)) (x0_goods : Int32) (x0_good : (Nat → Nat → Int32)) (x0_works : Int32) (x0_work : (Nat → Nat → Int32)) (x0_years : Int32) (x0_gone : Int32) (x0_spent : Int32) (x0_at : Int32) (x0_token : Int32) (x0_from : Int32) (x0_figures : Int64) (x0_fault : Int32) (x0_numbers : (Nat → Int32)) (x0_statements : Int32) (x0_left : (Nat → Int32)) (x0_far : (Nat → Int32)) (x0_tons : Int32) (x0_way : (Nat → Int32)) (x0_steps : Int32) (x0_met : Int64) (x0_queue : (Nat → Int32)) (x0_totals : (Nat → Int32)) (p1 : Int32) (p2 : Int32)  {out : Int32 × (Nat → Int32)} (hf : fX7_canEnd n (x0_shelf, x0_rowSort, x0_rowSize, x0_rows, x0_moved, x0_shown, x0_tape, x0_tapeSize, x0_refused, x0_lines, x0_line, x0_changes, x0_coins, x0_goods, x0_good, x0_works, x0_work, x0_years, x0_gone, x0_spent, x0_at, x0_token, x0_from, x0_figures, x0_fault, x0_numbers, x0_statements, x0_left, x0_far, x0_tons, x0_way, x0_steps, x0_met, x0_queue, x0_totals) p1 p2 = some out) : Ct l d yX7_canEnd cX7_canEnd 9 (some .boolean) { frames := 2, cells := 0, slots := 0, locals := 47 } [.ref (h0 0), .int p1, .int p2] [gMd d h0 a0_kept a0_tried a0_chosen r0_rows r0_line r0_good r0_work x0_shelf x0_rowSort x0_rowSize x0_moved x0_shown x0_tape x0_tapeSize x0_refused x0_lines x0_changes x0_coins x0_goods x0_works x0_years x0_gone x0_spent x0_at x0_token x0_from x0_figures x0_fault x0_numbers x0_statements x0_left x0_far x0_tons x0_way x0_steps x0_met x0_queue x0_totals, gridI d r0_line 20 7 x0_line] (fun _ : Unit => (some (.int out.1), [gMd d h0 a0_kept a0_tried a0_chosen r0_rows r0_line r0_good r0_work x0_shelf x0_rowSort x0_rowSize x0_moved x0_shown x0_tape x0_tapeSize x0_refused x0_lines x0_changes x0_coins x0_goods x0_works x0_years x0_gone x0_spent x0_at x0_token x0_from x0_figures x0_fault x0_numbers x0_statements x0_left x0_far x0_tons x0_way x0_steps x0_met (out.2) x0_totals, gridI d r0_line 20 7 x0_line])) := by
  refine Ct.of (by decide) (Nat.le_of_ble_eq_true rfl) ?_
  intro Φ hl hK hR
  subst hl
  have hK : Ok d Φ RX7 "canEnd" cX7_canEnd 9 (some .boolean) { frames := 2, cells := 0, slots := 0, locals := 47 } := hK
  unfold fX7_canEnd at hf
  have hf := un35 hf
  show J d Φ 9 [gMd d h0 a0_kept a0_tried a0_chosen r0_rows r0_line r0_good r0_work x0_shelf x0_rowSort x0_rowSize x0_moved x0_shown x0_tape x0_tapeSize x0_refused x0_lines x0_changes x0_coins x0_goods x0_works x0_years x0_gone x0_spent x0_at x0_token x0_from x0_figures x0_fault x0_numbers x0_statements x0_left x0_far x0_tons x0_way x0_steps x0_met x0_queue x0_totals, gridI d r0_line 20 7 x0_line] 0 0 0 [(0, .ref (h0 0)), (1, .int p1), (2, .int p2)] []
  refine J_aload_n hK qd3_109.1 rfl 0 rfl rfl ?_
  refine J_get hK fo_RX7_257 qd3_109.2.1 rfl 0 0 rfl rfl rfl ?_
  refine J_iload_n hK qd3_109.2.2.1 rfl 1 rfl rfl ?_
  refine J_lshr hK qd3_109.2.2.2.1 rfl ?_
  refine J_lconst (v := 1) hK qd3_109.2.2.2.2.1 rfl (by decide) ?_
  refine J_land hK qd3_109.2.2.2.2.2.1 rfl ?_
  refine J_lconst (v := 0) hK qd3_109.2.2.2.2.2.2.1 rfl (by decide) ?_
  refine J_lcmp hK qd3_109.2.2.2.2.2.2.2.1 rfl ?_
  refine J_if_eq (tg := 15) hK qd3_109.2.2.2.2.2.2.2.2.1 rfl rfl (fun hc10 => ?_) (fun hc10 => ?_)
  · have hf := ip hc10 hf
    refine J_aload_n hK qd3_109.2.2.2.2.2.2.2.2.2.2.2.1 rfl 0 rfl rfl ?_
    refine J_get hK fo_RX7_257 qd3_109.2.2.2.2.2.2.2.2.2.2.2.2.1 rfl 0 0 rfl rfl rfl ?_
    refine J_lconst (v := 1) hK qd3_109.2.2.2.2.2.2.2.2.2.2.2.2.2.1 rfl (by decide) ?_
    refine J_iload_n hK qd3_109.2.2.2.2.2.2.2.2.2.2.2.2.2.2.1 rfl 1 rfl rfl ?_
    refine J_lshl hK qd3_109.2.2.2.2.2.2.2.2.2.2.2.2.2.2.2.1 rfl ?_
    refine J_lor hK qd3_110.1 rfl ?_
    obtain ⟨t1, et1, hf⟩ := bs hf
    refine J_nml et1 ?_
    refine J_lstore_n (L' := [(3, .long t1), (0, .ref (h0 0)), (1, .int p1), (2, .int p2)]) hK qd3_110.2.1 rfl rfl (by decide) rfl ?_
    refine J_iconst (v := 1) hK qd3_110.2.2.1 rfl (by decide) ?_
    refine J_istore (L' := [(5, .int (1)), (3, .long t1), (0, .ref (h0 0)), (1, .int p1), (2, .int p2)]) hK qd3_110.2.2.2.1 rfl (by decide) rfl ?_
    refine J_aload_n hK qd3_110.2.2.2.2.1 rfl 2 rfl rfl ?_
    refine J_get hK fo_RX7_70 qd3_110.2.2.2.2.2.1 rfl 0 0 rfl rfl rfl ?_
    refine J_iconst (v := 0) hK qd3_110.2.2.2.2.2.2.1 rfl (by decide) ?_
    refine J_iload_n hK qd3_110.2.2.2.2.2.2.2.1 rfl 3 rfl rfl ?_
    obtain ⟨f2, ef2, hf⟩ := bs hf
    refine J_iast (g' := gMd d h0 a0_kept a0_tried a0_chosen r0_rows r0_line r0_good r0_work x0_shelf x0_rowSort x0_rowSize x0_moved x0_shown x0_tape x0_tapeSize x0_refused x0_lines x0_changes x0_coins x0_goods x0_works x0_years x0_gone x0_spent x0_at x0_token x0_from x0_figures x0_fault x0_numbers x0_statements x0_left x0_far x0_tons x0_way x0_steps x0_met f2 x0_totals) (gs' := [gMd d h0 a0_kept a0_tried a0_chosen r0_rows r0_line r0_good r0_work x0_shelf x0_rowSort x0_rowSize x0_moved x0_shown x0_tape x0_tapeSize x0_refused x0_lines x0_changes x0_coins x0_goods x0_works x0_years x0_gone x0_spent x0_at x0_token x0_from x0_figures x0_fault x0_numbers x0_statements x0_left x0_far x0_tons x0_way x0_steps x0_met f2 x0_totals, gridI d r0_line 20 7 x0_line]) hK qd3_110.2.2.2.2.2.2.2.2.1 rfl 0 18 rfl rfl ef2 rfl rfl ?_
    refine J_iconst (v := 0) hK qd3_110.2.2.2.2.2.2.2.2.2.1 rfl (by decide) ?_
    refine J_istore (L' := [(6, .int (0)), (5, .int (1)), (3, .long t1), (0, .ref (h0 0)), (1, .int p1), (2, .int p2)]) hK qd3_110.2.2.2.2.2.2.2.2.2.2.1 rfl (by decide) rfl ?_
    obtain ⟨e8, hl3, hf⟩ := bs hf
    have hx3_57 : ∀ (w9 : (Nat → Int32)), (.inl w9) = e8 → J d Φ 9 [gMd d h0 a0_kept a0_tried a0_chosen r0_rows r0_line r0_good r0_work x0_shelf x0_rowSort x0_rowSize x0_moved x0_shown x0_tape x0_tapeSize x0_refused x0_lines x0_changes x0_coins x0_goods x0_works x0_years x0_gone x0_spent x0_at x0_token x0_from x0_figures x0_fault x0_numbers x0_statements x0_left x0_far x0_tons x0_way x0_steps x0_met w9 x0_totals, gridI d r0_line 20 7 x0_line] 0 0 57 [] [] := by
      intro w9 he
      rw [← he] at hf
      simp only [Sum.elim_inl, Sum.elim_inr] at hf
      refine J_iconst (v := 1) hK qd3_111.2.2.2.2.2.2.1 rfl (by decide) ?_
      obtain rfl := Option.some.inj hf
      exact J_zret hK hR qd3_111.2.2.2.2.2.2.2.1 () rfl rfl (by decide) (by decide)
    have hx3_136 : ∀ (w10 : (Nat → Int32)), (.inr w10) = e8 → J d Φ 9 [gMd d h0 a0_kept a0_tried a0_chosen r0_rows r0_line r0_good r0_work x0_shelf x0_rowSort x0_rowSize x0_moved x0_shown x0_tape x0_tapeSize x0_refused x0_lines x0_changes x0_coins x0_goods x0_works x0_years x0_gone x0_spent x0_at x0_token x0_from x0_figures x0_fault x0_numbers x0_statements x0_left x0_far x0_tons x0_way x0_steps x0_met w10 x0_totals, gridI d r0_line 20 7 x0_line] 0 0 136 [] [] := by
      intro w10 he
      rw [← he] at hf
      simp only [Sum.elim_inl, Sum.elim_inr] at hf
      refine J_iconst (v := 0) hK qd3_114.2.2.2.1 rfl (by decide) ?_
      obtain rfl := Option.some.inj hf
      exact J_zret hK hR qd3_114.2.2.2.2.1 () rfl rfl (by decide) (by decide)
    have lo3 : ∀ (k : Nat) (z4 : Int64) (z5 : Int32) (z6 : Int32) (z7 : (Nat → Int32)), lp (u4 (fX7_canEnd_s37 n p2 x0_shelf x0_rowSort x0_rowSize x0_rows x0_moved x0_shown x0_tape x0_tapeSize x0_refused x0_lines x0_line x0_changes x0_coins x0_goods x0_good x0_works x0_work x0_years x0_gone x0_spent x0_at x0_token x0_from x0_figures x0_fault x0_numbers x0_statements x0_left x0_far x0_tons x0_way x0_steps x0_met x0_totals)) k (z4, z5, z6, z7) = some e8 → J d Φ 9 [gMd d h0 a0_kept a0_tried a0_chosen r0_rows r0_line r0_good r0_work x0_shelf x0_rowSort x0_rowSize x0_moved x0_shown x0_tape x0_tapeSize x0_refused x0_lines x0_changes x0_coins x0_goods x0_works x0_years x0_gone x0_spent x0_at x0_token x0_from x0_figures x0_fault x0_numbers x0_statements x0_left x0_far x0_tons x0_way x0_steps x0_met z7 x0_totals, gridI d r0_line 20 7 x0_line] 0 0 37 [(0, .ref (h0 0)), (2, .int p2), (3, .long z4), (5, .int z5), (6, .int z6)] [] := by
      intro k
      induction k with
      | zero => intro z4 z5 z6 z7 h; cases h
      | succ k ih3 =>
        intro z4 z5 z6 z7 h
        obtain ⟨k2, rr3, hk2, hs3, hr3⟩ := lp_ok h
        cases hk2
        have hs3 : fX7_canEnd_s37 n p2 x0_shelf x0_rowSort x0_rowSize x0_rows x0_moved x0_shown x0_tape x0_tapeSize x0_refused x0_lines x0_line x0_changes x0_coins x0_goods x0_good x0_works x0_work x0_years x0_gone x0_spent x0_at x0_token x0_from x0_figures x0_fault x0_numbers x0_statements x0_left x0_far x0_tons x0_way x0_steps x0_met x0_totals z4 z5 z6 z7 = some rr3 := hs3
        unfold fX7_canEnd_s37 at hs3
        refine J_iload hK qd3_110.2.2.2.2.2.2.2.2.2.2.2.1 rfl 4 rfl ?_
        refine J_iload hK qd3_110.2.2.2.2.2.2.2.2.2.2.2.2.1 rfl 3 rfl ?_
        refine J_icmp_ge (tg := 136) hK qd3_110.2.2.2.2.2.2.2.2.2.2.2.2.2.1 rfl rfl (fun hc41 => ?_) (fun hc41 => ?_)
        · have hs3 := ip hc41 hs3
          exact J_loc [] rfl (hx3_136 z7 (lpx hs3 hr3))
        · have hs3 := iq hc41 hs3
          refine J_aload_n hK qd3_110.2.2.2.2.2.2.2.2.2.2.2.2.2.2.1 rfl 0 rfl rfl ?_
          refine J_get hK fo_RX7_70 qd3_110.2.2.2.2.2.2.2.2.2.2.2.2.2.2.2.1 rfl 0 0 rfl rfl rfl ?_
          refine J_iload hK qd3_111.1 rfl 4 rfl ?_
          obtain ⟨v11, ev11, hs3⟩ := bs hs3
          refine J_iald hK qd3_111.2.1 rfl 0 18 rfl rfl ev11 ?_
          refine J_iconst (v := 3) hK qd3_111.2.2.1 rfl (by decide) ?_
          refine J_idiv hK qd3_111.2.2.2.1 rfl (by decide) ?_
          refine J_iload_n hK qd3_111.2.2.2.2.1 rfl 1 rfl rfl ?_
          refine J_icmp_ne (tg := 59) hK qd3_111.2.2.2.2.2.1 rfl rfl (fun hc54 => ?_) (fun hc54 => ?_)
          · have hs3 := iq hc54 hs3
            refine J_iconst (v := 0) hK qd3_111.2.2.2.2.2.2.2.2.1 rfl (by decide) ?_
            refine J_istore (L' := [(7, .int (0)), (0, .ref (h0 0)), (2, .int p2), (3, .long z4), (5, .int z5), (6, .int z6)]) hK qd3_111.2.2.2.2.2.2.2.2.2.1 rfl (by decide) rfl ?_
            obtain ⟨e17, hl12, hs3⟩ := bs hs3
            have hx12_130 : ∀ (w18 : Int64) (w19 : Int32) (w20 : (Nat → Int32)), (w18, w19, w20) = e17 → J d Φ 9 [gMd d h0 a0_kept a0_tried a0_chosen r0_rows r0_line r0_good r0_work x0_shelf x0_rowSort x0_rowSize x0_moved x0_shown x0_tape x0_tapeSize x0_refused x0_lines x0_changes x0_coins x0_goods x0_works x0_years x0_gone x0_spent x0_at x0_token x0_from x0_figures x0_fault x0_numbers x0_statements x0_left x0_far x0_tons x0_way x0_steps x0_met w20 x0_totals, gridI d r0_line 20 7 x0_line] 0 0 130 [(0, .ref (h0 0)), (2, .int p2), (3, .long w18), (5, .int w19), (6, .int z6)] [] := by
              intro w18 w19 w20 he
              rw [← he] at hs3
              have hs3 := un3 hs3
              refine J_iinc (L' := [(6, .int (z6 + 1)), (0, .ref (h0 0)), (2, .int p2), (3, .long w18), (5, .int w19)]) (v := (z6 + 1)) hK qd3_114.2.1 rfl 4 rfl rfl (by decide) rfl ?_
              refine J_goto hK qd3_114.2.2.1 (n := 37) rfl ?_
              exact J_loc [1, 2, 3, 4, 0] rfl (ih3 w18 w19 (z6 + 1) w20 (lpc hs3 hr3))
            have lo12 : ∀ (k : Nat) (z13 : Int64) (z14 : Int32) (z15 : Int32) (z16 : (Nat → Int32)), lp (u4 (fX7_canEnd_s62 x0_shelf x0_rowSort x0_rowSize x0_rows x0_moved x0_shown x0_tape x0_tapeSize x0_refused x0_lines x0_line x0_changes x0_coins x0_goods x0_good x0_works x0_work x0_years x0_gone x0_spent x0_at x0_token x0_from x0_figures x0_fault x0_numbers x0_statements x0_left x0_far x0_tons x0_way x0_steps x0_met x0_totals z6)) k (z13, z14, z15, z16) = some e17 → J d Φ 9 [gMd d h0 a0_kept a0_tried a0_chosen r0_rows r0_line r0_good r0_work x0_shelf x0_rowSort x0_rowSize x0_moved x0_shown x0_tape x0_tapeSize x0_refused x0_lines x0_changes x0_coins x0_goods x0_works x0_years x0_gone x0_spent x0_at x0_token x0_from x0_figures x0_fault x0_numbers x0_statements x0_left x0_far x0_tons x0_way x0_steps x0_met z16 x0_totals, gridI d r0_line 20 7 x0_line] 0 0 62 [(0, .ref (h0 0)), (2, .int p2), (3, .long z13), (5, .int z14), (6, .int z6), (7, .int z15)] [] := by
              intro k
              induction k with
              | zero => intro z13 z14 z15 z16 h; cases h
              | succ k ih12 =>
                intro z13 z14 z15 z16 h
                obtain ⟨k2, rr12, hk2, hs12, hr12⟩ := lp_ok h
                cases hk2
                have hs12 : fX7_canEnd_s62 x0_shelf x0_rowSort x0_rowSize x0_rows x0_moved x0_shown x0_tape x0_tapeSize x0_refused x0_lines x0_line x0_changes x0_coins x0_goods x0_good x0_works x0_work x0_years x0_gone x0_spent x0_at x0_token x0_from x0_figures x0_fault x0_numbers x0_statements x0_left x0_far x0_tons x0_way x0_steps x0_met x0_totals z6 z13 z14 z15 z16 = some rr12 := hs12
                unfold fX7_canEnd_s62 at hs12
                refine J_iload hK qd3_111.2.2.2.2.2.2.2.2.2.2.1 rfl 5 rfl ?_
                refine J_iconst (v := 3) hK qd3_111.2.2.2.2.2.2.2.2.2.2.2.1 rfl (by decide) ?_
                refine J_aload_n hK qd3_111.2.2.2.2.2.2.2.2.2.2.2.2.1 rfl 0 rfl rfl ?_
                refine J_get hK fo_RX7_82 qd3_111.2.2.2.2.2.2.2.2.2.2.2.2.2.1 rfl 0 0 rfl rfl rfl ?_
                refine J_iadd hK qd3_111.2.2.2.2.2.2.2.2.2.2.2.2.2.2.1 rfl ?_
                refine J_icmp_ge (tg := 130) hK qd3_111.2.2.2.2.2.2.2.2.2.2.2.2.2.2.2.1 rfl rfl (fun hc70 => ?_) (fun hc70 => ?_)
                · have hs12 := ip hc70 hs12
                  exact J_loc [0, 1, 2, 3, 4] rfl (hx12_130 z13 z14 z16 (lpx hs12 hr12))
                · have hs12 := iq hc70 hs12
                  refine J_aload_n hK qd3_112.1 rfl 0 rfl rfl ?_
                  refine J_aload_n hK qd3_112.2.1 rfl 0 rfl rfl ?_
                  refine J_get hK fo_RX7_70 qd3_112.2.2.1 rfl 0 0 rfl rfl rfl ?_
                  refine J_iload hK qd3_112.2.2.2.1 rfl 4 rfl ?_
                  obtain ⟨v21, ev21, hs12⟩ := bs hs12
                  refine J_iald hK qd3_112.2.2.2.2.1 rfl 0 18 rfl rfl ev21 ?_
                  refine J_iload hK qd3_112.2.2.2.2.2.1 rfl 5 rfl ?_
                  obtain ⟨v22, e23, hs12⟩ := bs hs12
                  refine J_callV (m := 2) (m' := 2) (ce' := 0) (sl' := 0) (gr := []) (gs' := fun _ => [gMd d h0 a0_kept a0_tried a0_chosen r0_rows r0_line r0_good r0_work x0_shelf x0_rowSort x0_rowSize x0_moved x0_shown x0_tape x0_tapeSize x0_refused x0_lines x0_changes x0_coins x0_goods x0_works x0_years x0_gone x0_spent x0_at x0_token x0_from x0_figures x0_fault x0_numbers x0_statements x0_left x0_far x0_tons x0_way x0_steps x0_met z16 x0_totals, gridI d r0_line 20 7 x0_line]) (st' := fun _ => [.int v22]) (st := []) hK qd3_112.2.2.2.2.2.2.1 cv_RX7_260 iv_yX7_stepTo (As := [.int v21, .int z15]) (kX7_stepTo _ d h0 r0_rows r0_line r0_good r0_work a0_kept a0_tried a0_chosen x0_shelf x0_rowSort x0_rowSize x0_rows x0_moved x0_shown x0_tape x0_tapeSize x0_refused x0_lines x0_line x0_changes x0_coins x0_goods x0_good x0_works x0_work x0_years x0_gone x0_spent x0_at x0_token x0_from x0_figures x0_fault x0_numbers x0_statements x0_left x0_far x0_tons x0_way x0_steps x0_met z16 x0_totals v21 z15 e23) rfl rfl (Nat.le_of_ble_eq_true rfl) (by decide) 0 0 rfl rfl rfl [0, 1] [] rfl (by decide +kernel) rfl rfl [0, 1] (by decide +kernel) (fun _ => rfl) (fun _ => rfl) rfl rfl rfl (fun _ => rfl) (fun _ => ?_)
                  refine J_istore (L' := [(8, .int v22), (0, .ref (h0 0)), (2, .int p2), (3, .long z13), (5, .int z14), (6, .int z6), (7, .int z15)]) hK qd3_112.2.2.2.2.2.2.2.1 rfl (by decide) rfl ?_
                  refine J_iload hK qd3_112.2.2.2.2.2.2.2.2.1 rfl 0 rfl ?_
                  refine J_iconst (v := (-1)) hK qd3_112.2.2.2.2.2.2.2.2.2.1 rfl (by decide) ?_
                  refine J_icmp_eq (tg := 124) hK qd3_112.2.2.2.2.2.2.2.2.2.2.1 rfl rfl (fun hc91 => ?_) (fun hc91 => ?_)
                  · have hs12 := ip hc91 hs12
                    refine J_iinc (L' := [(7, .int (z15 + 1)), (8, .int v22), (0, .ref (h0 0)), (2, .int p2), (3, .long z13), (5, .int z14), (6, .int z6)]) (v := (z15 + 1)) hK qd3_113.2.2.2.2.2.2.2.2.2.2.2.2.2.2.2.1 rfl 6 rfl rfl (by decide) rfl ?_
                    refine J_goto hK qd3_114.1 (n := 62) rfl ?_
                    exact J_loc [2, 3, 4, 5, 6, 0] rfl (ih12 z13 z14 (z15 + 1) z16 (lpc hs12 hr12))
                  · have hs12 := iq hc91 hs12
                    refine J_lload_n hK qd3_112.2.2.2.2.2.2.2.2.2.2.2.1 rfl 3 rfl rfl ?_
                    refine J_iload hK qd3_112.2.2.2.2.2.2.2.2.2.2.2.2.1 rfl 0 rfl ?_
                    refine J_lshr hK qd3_112.2.2.2.2.2.2.2.2.2.2.2.2.2.1 rfl ?_
                    refine J_lconst (v := 1) hK qd3_112.2.2.2.2.2.2.2.2.2.2.2.2.2.2.1 rfl (by decide) ?_
                    refine J_land hK qd3_112.2.2.2.2.2.2.2.2.2.2.2.2.2.2.2.1 rfl ?_
                    refine J_lconst (v := 0) hK qd3_113.1 rfl (by decide) ?_
                    refine J_lcmp hK qd3_113.2.1 rfl ?_
                    refine J_if_ne (tg := 124) hK qd3_113.2.2.1 rfl rfl (fun hc102 => ?_) (fun hc102 => ?_)
                    · have hs12 := iq hc102 hs12
                      refine J_iinc (L' := [(7, .int (z15 + 1)), (8, .int v22), (0, .ref (h0 0)), (2, .int p2), (3, .long z13), (5, .int z14), (6, .int z6)]) (v := (z15 + 1)) hK qd3_113.2.2.2.2.2.2.2.2.2.2.2.2.2.2.2.1 rfl 6 rfl rfl (by decide) rfl ?_
                      refine J_goto hK qd3_114.1 (n := 62) rfl ?_
                      exact J_loc [2, 3, 4, 5, 6, 0] rfl (ih12 z13 z14 (z15 + 1) z16 (lpc hs12 hr12))
                    · have hs12 := ip hc102 hs12
                      refine J_lload_n hK qd3_113.2.2.2.1 rfl 3 rfl rfl ?_
                      refine J_lconst (v := 1) hK qd3_113.2.2.2.2.1 rfl (by decide) ?_
                      refine J_iload hK qd3_113.2.2.2.2.2.1 rfl 0 rfl ?_
                      refine J_lshl hK qd3_113.2.2.2.2.2.2.1 rfl ?_
                      refine J_lor hK qd3_113.2.2.2.2.2.2.2.1 rfl ?_
                      obtain ⟨t24, et24, hs12⟩ := bs hs12
                      refine J_nml et24 ?_
                      refine J_lstore_n (L' := [(3, .long t24), (8, .int v22), (0, .ref (h0 0)), (2, .int p2), (5, .int z14), (6, .int z6), (7, .int z15)]) hK qd3_113.2.2.2.2.2.2.2.2.1 rfl rfl (by decide) rfl ?_
                      refine J_aload_n hK qd3_113.2.2.2.2.2.2.2.2.2.1 rfl 2 rfl rfl ?_
                      refine J_get hK fo_RX7_70 qd3_113.2.2.2.2.2.2.2.2.2.2.1 rfl 0 0 rfl rfl rfl ?_
                      refine J_iload hK qd3_113.2.2.2.2.2.2.2.2.2.2.2.1 rfl 4 rfl ?_
                      refine J_iinc (L' := [(5, .int (z14 + 1)), (3, .long t24), (8, .int v22), (0, .ref (h0 0)), (2, .int p2), (6, .int z6), (7, .int z15)]) (v := (z14 + 1)) hK qd3_113.2.2.2.2.2.2.2.2.2.2.2.2.1 rfl 4 rfl rfl (by decide) rfl ?_
                      refine J_iload hK qd3_113.2.2.2.2.2.2.2.2.2.2.2.2.2.1 rfl 2 rfl ?_
                      obtain ⟨f25, ef25, hs12⟩ := bs hs12
                      refine J_iast (g' := gMd d h0 a0_kept a0_tried a0_chosen r0_rows r0_line r0_good r0_work x0_shelf x0_rowSort x0_rowSize x0_moved x0_shown x0_tape x0_tapeSize x0_refused x0_lines x0_changes x0_coins x0_goods x0_works x0_years x0_gone x0_spent x0_at x0_token x0_from x0_figures x0_fault x0_numbers x0_statements x0_left x0_far x0_tons x0_way x0_steps x0_met f25 x0_totals) (gs' := [gMd d h0 a0_kept a0_tried a0_chosen r0_rows r0_line r0_good r0_work x0_shelf x0_rowSort x0_rowSize x0_moved x0_shown x0_tape x0_tapeSize x0_refused x0_lines x0_changes x0_coins x0_goods x0_works x0_years x0_gone x0_spent x0_at x0_token x0_from x0_figures x0_fault x0_numbers x0_statements x0_left x0_far x0_tons x0_way x0_steps x0_met f25 x0_totals, gridI d r0_line 20 7 x0_line]) hK qd3_113.2.2.2.2.2.2.2.2.2.2.2.2.2.2.1 rfl 0 18 rfl rfl ef25 rfl rfl ?_
                      refine J_iinc (L' := [(7, .int (z15 + 1)), (5, .int (z14 + 1)), (3, .long t24), (8, .int v22), (0, .ref (h0 0)), (2, .int p2), (6, .int z6)]) (v := (z15 + 1)) hK qd3_113.2.2.2.2.2.2.2.2.2.2.2.2.2.2.2.1 rfl 6 rfl rfl (by decide) rfl ?_
                      refine J_goto hK qd3_114.1 (n := 62) rfl ?_
                      exact J_loc [4, 5, 2, 1, 6, 0] rfl (ih12 t24 (z14 + 1) (z15 + 1) f25 (lpc hs12 hr12))
            exact J_loc [1, 2, 3, 4, 5, 0] rfl (lo12 n z4 z5 (0) z7 hl12)
          · have hs3 := ip hc54 hs3
            exact J_loc [] rfl (hx3_57 z7 (lpx hs3 hr3))
    exact J_loc [3, 5, 2, 1, 0] rfl (lo3 n t1 (1) (0) f2 hl3)
  · have hf := iq hc10 hf
    refine J_iconst (v := 0) hK qd3_109.2.2.2.2.2.2.2.2.2.1 rfl (by decide) ?_
    obtain rfl := Option.some.inj hf
    exact J_zret hK hR qd3_109.2.2.2.2.2.2.2.2.2.2.1 () rfl rfl (by decide) (by decide)

def fX7_findWay_j162 (x0_shelf : (Nat → Int32)) (x0_rowSort : (Nat → Int32)) (x0_rowSize : (Nat → Int32)) (x0_rows : (Nat → Nat → Int64)) (x0_moved : (Nat → Int64)) (x0_shown : (Nat → Int32)) (x0_tape : (Nat → Int32)) (x0_tapeSize : Int32) (x0_refused : (Nat → Int32)) (x0_lines : Int32) (x0_line : (Nat → Nat → Int32)) (x0_changes : (Nat → Int32)) (x0_coins : (Nat → Int32)) (x0_goods : Int32) (x0_good : (Nat → Nat → Int32)) (x0_works : Int32) (x0_work : (Nat → Nat → Int32)) (x0_years : Int32) (x0_gone : Int32) (x0_spent : Int32) (x0_at : Int32) (x0_token : Int32) (x0_from : Int32) (x0_figures : Int64) (x0_fault : Int32) (x0_numbers : (Nat → Int32)) (x0_statements : Int32) (x0_left : (Nat → Int32)) (x0_totals : (Nat → Int32)) (g1 : (Nat → Int32)) (g2 : Int32) (z16 : Int32) (z17 : (Nat → Int32)) (z18 : Int32) (z19 : Int64) (z29 : Int32) (x38 : (Nat → Int32)) : Option ((Int32 × Int32 × (Nat → Int32)) ⊕ (Int32 × Int32 × (Nat → Int32))) :=
  (fX7_stepTo (x0_shelf, x0_rowSort, x0_rowSize, x0_rows, x0_moved, x0_shown, x0_tape, x0_tapeSize, x0_refused, x0_lines, x0_line, x0_changes, x0_coins, x0_goods, x0_good, x0_works, x0_work, x0_years, x0_gone, x0_spent, x0_at, x0_token, x0_from, x0_figures, x0_fault, x0_numbers, x0_statements, x0_left, g1, g2, z17, z18, z19, x38, x0_totals) z16 (z29 + 1)).bind (fun v39 => some (.inl ((z29 + 1), v39, x38)))
def fX7_findWay_s146 (n : Nat) (p2 : Int32) (x0_shelf : (Nat → Int32)) (x0_rowSort : (Nat → Int32)) (x0_rowSize : (Nat → Int32)) (x0_rows : (Nat → Nat → Int64)) (x0_moved : (Nat → Int64)) (x0_shown : (Nat → Int32)) (x0_tape : (Nat → Int32)) (x0_tapeSize : Int32) (x0_refused : (Nat → Int32)) (x0_lines : Int32) (x0_line : (Nat → Nat → Int32)) (x0_changes : (Nat → Int32)) (x0_coins : (Nat → Int32)) (x0_goods : Int32) (x0_good : (Nat → Nat → Int32)) (x0_works : Int32) (x0_work : (Nat → Nat → Int32)) (x0_years : Int32) (x0_gone : Int32) (x0_spent : Int32) (x0_at : Int32) (x0_token : Int32) (x0_from : Int32) (x0_figures : Int64) (x0_fault : Int32) (x0_numbers : (Nat → Int32)) (x0_statements : Int32) (x0_left : (Nat → Int32)) (x0_totals : (Nat → Int32)) (g1 : (Nat → Int32)) (g2 : Int32) (z16 : Int32) (z17 : (Nat → Int32)) (z18 : Int32) (z19 : Int64) (z29 : Int32) (z30 : Int32) (z31 : (Nat → Int32)) : Option ((Int32 × Int32 × (Nat → Int32)) ⊕ (Int32 × Int32 × (Nat → Int32))) :=
  if z30 = (-1) then (fX7_findWay_j162 x0_shelf x0_rowSort x0_rowSize x0_rows x0_moved x0_shown x0_tape x0_tapeSize x0_refused x0_lines x0_line x0_changes x0_coins x0_goods x0_good x0_works x0_work x0_years x0_gone x0_spent x0_at x0_token x0_from x0_figures x0_fault x0_numbers x0_statements x0_left x0_totals g1 g2 z16 z17 z18 z19 z29 z31) else ((fX7_canEnd n (x0_shelf, x0_rowSort, x0_rowSize, x0_rows, x0_moved, x0_shown, x0_tape, x0_tapeSize, x0_refused, x0_lines, x0_line, x0_changes, x0_coins, x0_goods, x0_good, x0_works, x0_work, x0_years, x0_gone, x0_spent, x0_at, x0_token, x0_from, x0_figures, x0_fault, x0_numbers, x0_statements, x0_left, g1, g2, z17, z18, z19, z31, x0_totals) z30 p2).bind (u2 fun v41 g42 => if v41 = 0 then (fX7_findWay_j162 x0_shelf x0_rowSort x0_rowSize x0_rows x0_moved x0_shown x0_tape x0_tapeSize x0_refused x0_lines x0_line x0_changes x0_coins x0_goods x0_good x0_works x0_work x0_years x0_gone x0_spent x0_at x0_token x0_from x0_figures x0_fault x0_numbers x0_statements x0_left x0_totals g1 g2 z16 z17 z18 z19 z29 g42) else (some (.inr (z29, z30, g42)))))
def fX7_findWay_s125 (n : Nat) (p2 : Int32) (x0_shelf : (Nat → Int32)) (x0_rowSort : (Nat → Int32)) (x0_rowSize : (Nat → Int32)) (x0_rows : (Nat → Nat → Int64)) (x0_moved : (Nat → Int64)) (x0_shown : (Nat → Int32)) (x0_tape : (Nat → Int32)) (x0_tapeSize : Int32) (x0_refused : (Nat → Int32)) (x0_lines : Int32) (x0_line : (Nat → Nat → Int32)) (x0_changes : (Nat → Int32)) (x0_coins : (Nat → Int32)) (x0_goods : Int32) (x0_good : (Nat → Nat → Int32)) (x0_works : Int32) (x0_work : (Nat → Nat → Int32)) (x0_years : Int32) (x0_gone : Int32) (x0_spent : Int32) (x0_at : Int32) (x0_token : Int32) (x0_from : Int32) (x0_figures : Int64) (x0_fault : Int32) (x0_numbers : (Nat → Int32)) (x0_statements : Int32) (x0_left : (Nat → Int32)) (x0_totals : (Nat → Int32)) (g1 : (Nat → Int32)) (g2 : Int32) (z16 : Int32) (z17 : (Nat → Int32)) (z18 : Int32) (z19 : Int64) (z20 : (Nat → Int32)) : Option ((Int32 × (Nat → Int32) × Int32 × Int64 × (Nat → Int32)) ⊕ ((Nat → Int32) × Int32 × Int64 × (Nat → Int32))) :=
  if (z16 / 3) = p2 then (some (.inr (z17, z18, z19, z20))) else ((fX7_stepTo (x0_shelf, x0_rowSort, x0_rowSize, x0_rows, x0_moved, x0_shown, x0_tape, x0_tapeSize, x0_refused, x0_lines, x0_line, x0_changes, x0_coins, x0_goods, x0_good, x0_works, x0_work, x0_years, x0_gone, x0_spent, x0_at, x0_token, x0_from, x0_figures, x0_fault, x0_numbers, x0_statements, x0_left, g1, g2, z17, z18, z19, z20, x0_totals) z16 (0)).bind (fun v26 => (lp (u3 (fX7_findWay_s146 n p2 x0_shelf x0_rowSort x0_rowSize x0_rows x0_moved x0_shown x0_tape x0_tapeSize x0_refused x0_lines x0_line x0_changes x0_coins x0_goods x0_good x0_works x0_work x0_years x0_gone x0_spent x0_at x0_token x0_from x0_figures x0_fault x0_numbers x0_statements x0_left x0_totals g1 g2 z16 z17 z18 z19)) n (0, v26, z20)).bind (u3 fun w33 w34 w35 => (wr 37 z17 z18 w33).bind fun f36 => (some (z19 ||| ((1 : Int64) <<< ((w34).toInt64 &&& 63)))).bind fun t37 => some (.inl (w34, f36, (z18 + 1), t37, w35)))))
def fX7_findWay_s38 (n : Nat) (p1 : Int32) (p2 : Int32) (x0_shelf : (Nat → Int32)) (x0_rowSort : (Nat → Int32)) (x0_rowSize : (Nat → Int32)) (x0_rows : (Nat → Nat → Int64)) (x0_moved : (Nat → Int64)) (x0_shown : (Nat → Int32)) (x0_tape : (Nat → Int32)) (x0_tapeSize : Int32) (x0_refused : (Nat → Int32)) (x0_lines : Int32) (x0_line : (Nat → Nat → Int32)) (x0_changes : (Nat → Int32)) (x0_coins : (Nat → Int32)) (x0_goods : Int32) (x0_good : (Nat → Nat → Int32)) (x0_works : Int32) (x0_work : (Nat → Nat → Int32)) (x0_years : Int32) (x0_gone : Int32) (x0_spent : Int32) (x0_at : Int32) (x0_token : Int32) (x0_from : Int32) (x0_figures : Int64) (x0_fault : Int32) (x0_numbers : (Nat → Int32)) (x0_statements : Int32) (x0_left : (Nat → Int32)) (x0_way : (Nat → Int32)) (x0_totals : (Nat → Int32)) (g1 : (Nat → Int32)) (g2 : Int32) (v4 : Int32) (z7 : Int32) (z8 : Int32) (z9 : (Nat → Int32)) : Option ((Int32 × Int32 × (Nat → Int32)) ⊕ (Int32 × (Nat → Int32))) :=
  if z8 < 0 then (some (.inr (z7, z9))) else ((rd 36 g1 ((3 * p1) + z8)).bind fun v44 => if v44 = v4 then ((fX7_canEnd n (x0_shelf, x0_rowSort, x0_rowSize, x0_rows, x0_moved, x0_shown, x0_tape, x0_tapeSize, x0_refused, x0_lines, x0_line, x0_changes, x0_coins, x0_goods, x0_good, x0_works, x0_work, x0_years, x0_gone, x0_spent, x0_at, x0_token, x0_from, x0_figures, x0_fault, x0_numbers, x0_statements, x0_left, g1, g2, x0_way, 0, (0 : Int64), z9, x0_totals) ((3 * p1) + z8) p2).bind (u2 fun v45 g46 => if v45 = 0 then (some (.inl (z7, (z8 + (-1)), g46))) else (some (.inl (((3 * p1) + z8), (z8 + (-1)), g46))))) else (some (.inl (z7, (z8 + (-1)), z9))))
def fX7_findWay (n : Nat) (X0 : MdT) (p1 : Int32) (p2 : Int32) (p3 : Int32) : Option (Int32 × ((Nat → Int32) × Int32 × (Nat → Int32) × Int32 × Int64 × (Nat → Int32))) :=
  u35 (fun (x0_shelf : (Nat → Int32)) (x0_rowSort : (Nat → Int32)) (x0_rowSize : (Nat → Int32)) (x0_rows : (Nat → Nat → Int64)) (x0_moved : (Nat → Int64)) (x0_shown : (Nat → Int32)) (x0_tape : (Nat → Int32)) (x0_tapeSize : Int32) (x0_refused : (Nat → Int32)) (x0_lines : Int32) (x0_line : (Nat → Nat → Int32)) (x0_changes : (Nat → Int32)) (x0_coins : (Nat → Int32)) (x0_goods : Int32) (x0_good : (Nat → Nat → Int32)) (x0_works : Int32) (x0_work : (Nat → Nat → Int32)) (x0_years : Int32) (x0_gone : Int32) (x0_spent : Int32) (x0_at : Int32) (x0_token : Int32) (x0_from : Int32) (x0_figures : Int64) (x0_fault : Int32) (x0_numbers : (Nat → Int32)) (x0_statements : Int32) (x0_left : (Nat → Int32)) (x0_far : (Nat → Int32)) (x0_tons : Int32) (x0_way : (Nat → Int32)) (x0_steps : Int32) (x0_met : Int64) (x0_queue : (Nat → Int32)) (x0_totals : (Nat → Int32)) => (fX7_findFar n (x0_shelf, x0_rowSort, x0_rowSize, x0_rows, x0_moved, x0_shown, x0_tape, x0_tapeSize, x0_refused, x0_lines, x0_line, x0_changes, x0_coins, x0_goods, x0_good, x0_works, x0_work, x0_years, x0_gone, x0_spent, x0_at, x0_token, x0_from, x0_figures, x0_fault, x0_numbers, x0_statements, x0_left, x0_far, x0_tons, x0_way, x0_steps, x0_met, x0_queue, x0_totals) p2 p3).bind (u2 fun g1 g2 => (fX7_least n (x0_shelf, x0_rowSort, x0_rowSize, x0_rows, x0_moved, x0_shown, x0_tape, x0_tapeSize, x0_refused, x0_lines, x0_line, x0_changes, x0_coins, x0_goods, x0_good, x0_works, x0_work, x0_years, x0_gone, x0_spent, x0_at, x0_token, x0_from, x0_figures, x0_fault, x0_numbers, x0_statements, x0_left, g1, g2, x0_way, 0, (0 : Int64), x0_queue, x0_totals) p1).bind (fun v4 => if v4 < 1000000000 then ((lp (u3 (fX7_findWay_s38 n p1 p2 x0_shelf x0_rowSort x0_rowSize x0_rows x0_moved x0_shown x0_tape x0_tapeSize x0_refused x0_lines x0_line x0_changes x0_coins x0_goods x0_good x0_works x0_work x0_years x0_gone x0_spent x0_at x0_token x0_from x0_figures x0_fault x0_numbers x0_statements x0_left x0_way x0_totals g1 g2 v4)) n ((-1), 2, x0_queue)).bind (u2 fun w11 w12 => (wr 37 x0_way (0) (w11 - w11 / 3 * 3)).bind fun f13 => (some ((0 : Int64) ||| ((1 : Int64) <<< ((w11).toInt64 &&& 63)))).bind fun t14 => (lp (u5 (fX7_findWay_s125 n p2 x0_shelf x0_rowSort x0_rowSize x0_rows x0_moved x0_shown x0_tape x0_tapeSize x0_refused x0_lines x0_line x0_changes x0_coins x0_goods x0_good x0_works x0_work x0_years x0_gone x0_spent x0_at x0_token x0_from x0_figures x0_fault x0_numbers x0_statements x0_left x0_totals g1 g2)) n (w11, f13, ((0 : Int32) + 1), t14, w12)).bind (u4 fun w22 w23 w24 w25 => some (1, (g1, g2, w22, w23, w24, w25))))) else (some (0, (g1, g2, x0_way, 0, (0 : Int64), x0_queue)))))) X0
set_option maxHeartbeats 4000000 in
set_option maxRecDepth 100000 in
theorem kX7_findWay (l : Launch) (d : DT) (h0 : Nat → Nat) (r0_rows : Nat → Nat) (r0_line : Nat → Nat) (r0_good : Nat → Nat) (r0_work : Nat → Nat) (a0_kept : Option Nat) (a0_tried : Option Nat) (a0_chosen : Option Nat) (n : Nat) (x0_shelf : (Nat → Int32)) (x0_rowSort : (Nat → Int32)) (x0_rowSize : (Nat → Int32)) (x0_rows : (Nat → Nat → Int64)) (x0_moved : (Nat → Int64)) (x0_shown : (Nat → Int32)) (x0_tape : (Nat → Int32)) (x0_tapeSize : Int32) (x0_refused : (Nat → Int32)) (x0_lines : Int32) (x0_line : (Nat → Nat → Int32)) (x0_changes : (Nat → Int32)) (x0_coins : (Nat → Int32)) (x0_goods : Int32) (x0_good : (Nat → Nat → Int32)) (x0_works : Int32) (x0_work : (Nat → Nat → Int32)) (x0_years : Int32) (x0_gone : Int32) (x0_spent : Int32) (x0_at : Int32) (x0_token : Int32) (x0_from : Int32) (x0_figures : Int64) (x0_fault : Int32) (x0_numbers : (Nat → Int32)) (x0_statements : Int32) (x0_left : (Nat → Int32)) (x0_far : (Nat → Int32)) (x0_tons : Int32) (x0_way : (Nat → Int32)) (x0_steps : Int32) (x0_met : Int64) (x0_queue : (Nat → Int32)) (x0_totals : (Nat → Int32)) (p1 : Int32) (p2 : Int32) (p3 : Int32)  {out : Int32 × ((Nat → Int32) × Int32 × (Nat → Int32) × Int32 × Int64 × (Nat → Int32))} (hf : fX7_findWay n (x0_shelf, x0_rowSort, x0_rowSize, x0_rows, x0_moved, x0_shown, x0_tape, x0_tapeSize, x0_refused, x0_lines, x0_line, x0_changes, x0_coins, x0_goods, x0_good, x0_works, x0_work, x0_years, x0_gone, x0_spent, x0_at, x0_token, x0_from, x0_figures, x0_fault, x0_numbers, x0_statements, x0_left, x0_far, x0_tons, x0_way, x0_steps, x0_met, x0_queue, x0_totals) p1 p2 p3 = some out) : Ct l d yX7_findWay cX7_findWay 8 (some .boolean) { frames := 3, cells := 0, slots := 0, locals := 75 } [.ref (h0 0), .int p1, .int p2, .int p3] [gMd d h0 a0_kept a0_tried a0_chosen r0_rows r0_line r0_good r0_work x0_shelf x0_rowSort x0_rowSize x0_moved x0_shown x0_tape x0_tapeSize x0_refused x0_lines x0_changes x0_coins x0_goods x0_works x0_years x0_gone x0_spent x0_at x0_token x0_from x0_figures x0_fault x0_numbers x0_statements x0_left x0_far x0_tons x0_way x0_steps x0_met x0_queue x0_totals, gridI d r0_line 20 7 x0_line] (fun _ : Unit => (some (.int out.1), [gMd d h0 a0_kept a0_tried a0_chosen r0_rows r0_line r0_good r0_work x0_shelf x0_rowSort x0_rowSize x0_moved x0_shown x0_tape x0_tapeSize x0_refused x0_lines x0_changes x0_coins x0_goods x0_works x0_years x0_gone x0_spent x0_at x0_token x0_from x0_figures x0_fault x0_numbers x0_statements x0_left (out.2.1) (out.2.2.1) (out.2.2.2.1) (out.2.2.2.2.1) (out.2.2.2.2.2.1) (out.2.2.2.2.2.2) x0_totals, gridI d r0_line 20 7 x0_line])) := by
  refine Ct.of (by decide) (Nat.le_of_ble_eq_true rfl) ?_
  intro Φ hl hK hR
  subst hl
  have hK : Ok d Φ RX7 "findWay" cX7_findWay 8 (some .boolean) { frames := 3, cells := 0, slots := 0, locals := 75 } := hK
  unfold fX7_findWay at hf
  have hf := un35 hf
  show J d Φ 8 [gMd d h0 a0_kept a0_tried a0_chosen r0_rows r0_line r0_good r0_work x0_shelf x0_rowSort x0_rowSize x0_moved x0_shown x0_tape x0_tapeSize x0_refused x0_lines x0_changes x0_coins x0_goods x0_works x0_years x0_gone x0_spent x0_at x0_token x0_from x0_figures x0_fault x0_numbers x0_statements x0_left x0_far x0_tons x0_way x0_steps x0_met x0_queue x0_totals, gridI d r0_line 20 7 x0_line] 0 0 0 [(0, .ref (h0 0)), (1, .int p1), (2, .int p2), (3, .int p3)] []
  refine J_aload_n hK qd3_115.1 rfl 0 rfl rfl ?_
  refine J_iload_n hK qd3_115.2.1 rfl 2 rfl rfl ?_
  refine J_iload_n hK qd3_115.2.2.1 rfl 3 rfl rfl ?_
  obtain ⟨⟨g1, g2⟩, e3, hf⟩ := bs hf
  have hf := un2 hf
  refine J_callV (m := 2) (m' := 2) (ce' := 0) (sl' := 0) (gr := []) (gs' := fun _ => [gMd d h0 a0_kept a0_tried a0_chosen r0_rows r0_line r0_good r0_work x0_shelf x0_rowSort x0_rowSize x0_moved x0_shown x0_tape x0_tapeSize x0_refused x0_lines x0_changes x0_coins x0_goods x0_works x0_years x0_gone x0_spent x0_at x0_token x0_from x0_figures x0_fault x0_numbers x0_statements x0_left g1 g2 x0_way x0_steps x0_met x0_queue x0_totals, gridI d r0_line 20 7 x0_line]) (st' := fun _ => []) (st := []) hK qd3_115.2.2.2.1 cv_RX7_264 iv_yX7_findFar (As := [.int p2, .int p3]) (kX7_findFar _ d h0 r0_rows r0_line r0_good r0_work a0_kept a0_tried a0_chosen n x0_shelf x0_rowSort x0_rowSize x0_rows x0_moved x0_shown x0_tape x0_tapeSize x0_refused x0_lines x0_line x0_changes x0_coins x0_goods x0_good x0_works x0_work x0_years x0_gone x0_spent x0_at x0_token x0_from x0_figures x0_fault x0_numbers x0_statements x0_left x0_far x0_tons x0_way x0_steps x0_met x0_queue x0_totals p2 p3 e3) rfl rfl (Nat.le_of_ble_eq_true rfl) (by decide) 0 0 rfl rfl rfl [0, 1] [] rfl (by decide +kernel) rfl rfl [0, 1] (by decide +kernel) (fun _ => rfl) (fun _ => rfl) rfl rfl rfl (fun _ => rfl) (fun _ => ?_)
  refine J_aload_n hK qd3_115.2.2.2.2.1 rfl 0 rfl rfl ?_
  refine J_iconst (v := 0) hK qd3_115.2.2.2.2.2.1 rfl (by decide) ?_
  refine J_put (g' := gMd d h0 a0_kept a0_tried a0_chosen r0_rows r0_line r0_good r0_work x0_shelf x0_rowSort x0_rowSize x0_moved x0_shown x0_tape x0_tapeSize x0_refused x0_lines x0_changes x0_coins x0_goods x0_works x0_years x0_gone x0_spent x0_at x0_token x0_from x0_figures x0_fault x0_numbers x0_statements x0_left g1 g2 x0_way (0) x0_met x0_queue x0_totals) (gs' := [gMd d h0 a0_kept a0_tried a0_chosen r0_rows r0_line r0_good r0_work x0_shelf x0_rowSort x0_rowSize x0_moved x0_shown x0_tape x0_tapeSize x0_refused x0_lines x0_changes x0_coins x0_goods x0_works x0_years x0_gone x0_spent x0_at x0_token x0_from x0_figures x0_fault x0_numbers x0_statements x0_left g1 g2 x0_way (0) x0_met x0_queue x0_totals, gridI d r0_line 20 7 x0_line]) hK fp_RX7_267 qd3_115.2.2.2.2.2.2.1 rfl 0 0 rfl rfl rfl rfl (Nat.le_of_ble_eq_true rfl) rfl rfl ?_
  refine J_aload_n hK qd3_115.2.2.2.2.2.2.2.1 rfl 0 rfl rfl ?_
  refine J_lconst (v := 0) hK qd3_115.2.2.2.2.2.2.2.2.1 rfl (by decide) ?_
  refine J_put (g' := gMd d h0 a0_kept a0_tried a0_chosen r0_rows r0_line r0_good r0_work x0_shelf x0_rowSort x0_rowSize x0_moved x0_shown x0_tape x0_tapeSize x0_refused x0_lines x0_changes x0_coins x0_goods x0_works x0_years x0_gone x0_spent x0_at x0_token x0_from x0_figures x0_fault x0_numbers x0_statements x0_left g1 g2 x0_way (0) (0 : Int64) x0_queue x0_totals) (gs' := [gMd d h0 a0_kept a0_tried a0_chosen r0_rows r0_line r0_good r0_work x0_shelf x0_rowSort x0_rowSize x0_moved x0_shown x0_tape x0_tapeSize x0_refused x0_lines x0_changes x0_coins x0_goods x0_works x0_years x0_gone x0_spent x0_at x0_token x0_from x0_figures x0_fault x0_numbers x0_statements x0_left g1 g2 x0_way (0) (0 : Int64) x0_queue x0_totals, gridI d r0_line 20 7 x0_line]) hK fp_RX7_257 qd3_115.2.2.2.2.2.2.2.2.2.1 rfl 0 0 rfl rfl rfl rfl (Nat.le_of_ble_eq_true rfl) rfl rfl ?_
  refine J_aload_n hK qd3_115.2.2.2.2.2.2.2.2.2.2.1 rfl 0 rfl rfl ?_
  refine J_iload_n hK qd3_115.2.2.2.2.2.2.2.2.2.2.2.1 rfl 1 rfl rfl ?_
  obtain ⟨v4, e5, hf⟩ := bs hf
  refine J_callV (m := 2) (m' := 2) (ce' := 0) (sl' := 0) (gr := [gridI d r0_line 20 7 x0_line]) (gs' := fun _ => [gMd d h0 a0_kept a0_tried a0_chosen r0_rows r0_line r0_good r0_work x0_shelf x0_rowSort x0_rowSize x0_moved x0_shown x0_tape x0_tapeSize x0_refused x0_lines x0_changes x0_coins x0_goods x0_works x0_years x0_gone x0_spent x0_at x0_token x0_from x0_figures x0_fault x0_numbers x0_statements x0_left g1 g2 x0_way (0) (0 : Int64) x0_queue x0_totals, gridI d r0_line 20 7 x0_line]) (st' := fun _ => [.int v4]) (st := []) hK qd3_115.2.2.2.2.2.2.2.2.2.2.2.2.1 cv_RX7_270 iv_yX7_least (As := [.int p1]) (kX7_least _ d h0 r0_rows r0_line r0_good r0_work a0_kept a0_tried a0_chosen n x0_shelf x0_rowSort x0_rowSize x0_rows x0_moved x0_shown x0_tape x0_tapeSize x0_refused x0_lines x0_line x0_changes x0_coins x0_goods x0_good x0_works x0_work x0_years x0_gone x0_spent x0_at x0_token x0_from x0_figures x0_fault x0_numbers x0_statements x0_left g1 g2 x0_way (0) (0 : Int64) x0_queue x0_totals p1 e5) rfl rfl (Nat.le_of_ble_eq_true rfl) (by decide) 0 0 rfl rfl rfl [0] [1] rfl (by decide +kernel) rfl rfl [1, 0] (by decide +kernel) (fun _ => rfl) (fun _ => rfl) rfl rfl rfl (fun _ => rfl) (fun _ => ?_)
  refine J_istore (L' := [(4, .int v4), (0, .ref (h0 0)), (1, .int p1), (2, .int p2), (3, .int p3)]) hK qd3_115.2.2.2.2.2.2.2.2.2.2.2.2.2.1 rfl (by decide) rfl ?_
  refine J_iload hK qd3_115.2.2.2.2.2.2.2.2.2.2.2.2.2.2.1 rfl 0 rfl ?_
  refine J_ldc (v := 1000000000) hK qd3_115.2.2.2.2.2.2.2.2.2.2.2.2.2.2.2.1 rfl wk_RX7_254 ?_
  refine J_icmp_lt (tg := 32) hK qd3_116.1 rfl rfl (fun hc27 => ?_) (fun hc27 => ?_)
  · have hf := ip hc27 hf
    refine J_iconst (v := (-1)) hK qd3_116.2.2.2.1 rfl (by decide) ?_
    refine J_istore (L' := [(5, .int (-1)), (4, .int v4), (0, .ref (h0 0)), (1, .int p1), (2, .int p2), (3, .int p3)]) hK qd3_116.2.2.2.2.1 rfl (by decide) rfl ?_
    refine J_iconst (v := 2) hK qd3_116.2.2.2.2.2.1 rfl (by decide) ?_
    refine J_istore (L' := [(6, .int (2)), (5, .int (-1)), (4, .int v4), (0, .ref (h0 0)), (1, .int p1), (2, .int p2), (3, .int p3)]) hK qd3_116.2.2.2.2.2.2.1 rfl (by decide) rfl ?_
    obtain ⟨e10, hl6, hf⟩ := bs hf
    have hx6_92 : ∀ (w11 : Int32) (w12 : (Nat → Int32)), (w11, w12) = e10 → J d Φ 8 [gMd d h0 a0_kept a0_tried a0_chosen r0_rows r0_line r0_good r0_work x0_shelf x0_rowSort x0_rowSize x0_moved x0_shown x0_tape x0_tapeSize x0_refused x0_lines x0_changes x0_coins x0_goods x0_works x0_years x0_gone x0_spent x0_at x0_token x0_from x0_figures x0_fault x0_numbers x0_statements x0_left g1 g2 x0_way (0) (0 : Int64) w12 x0_totals, gridI d r0_line 20 7 x0_line] 0 0 92 [(0, .ref (h0 0)), (2, .int p2), (5, .int w11)] [] := by
      intro w11 w12 he
      rw [← he] at hf
      have hf := un2 hf
      refine J_aload_n hK qd3_118.2.2.2.2.2.2.1 rfl 0 rfl rfl ?_
      refine J_get hK fo_RX7_67 qd3_118.2.2.2.2.2.2.2.1 rfl 0 0 rfl rfl rfl ?_
      refine J_aload_n hK qd3_118.2.2.2.2.2.2.2.2.1 rfl 0 rfl rfl ?_
      refine J_dup hK qd3_118.2.2.2.2.2.2.2.2.2.1 rfl rfl ?_
      refine J_get hK fo_RX7_267 qd3_118.2.2.2.2.2.2.2.2.2.2.1 rfl 0 0 rfl rfl rfl ?_
      refine J_dup_x1 hK qd3_118.2.2.2.2.2.2.2.2.2.2.2.1 rfl rfl rfl ?_
      refine J_iconst (v := 1) hK qd3_118.2.2.2.2.2.2.2.2.2.2.2.2.1 rfl (by decide) ?_
      refine J_iadd hK qd3_118.2.2.2.2.2.2.2.2.2.2.2.2.2.1 rfl ?_
      refine J_put (g' := gMd d h0 a0_kept a0_tried a0_chosen r0_rows r0_line r0_good r0_work x0_shelf x0_rowSort x0_rowSize x0_moved x0_shown x0_tape x0_tapeSize x0_refused x0_lines x0_changes x0_coins x0_goods x0_works x0_years x0_gone x0_spent x0_at x0_token x0_from x0_figures x0_fault x0_numbers x0_statements x0_left g1 g2 x0_way ((0 : Int32) + 1) (0 : Int64) w12 x0_totals) (gs' := [gMd d h0 a0_kept a0_tried a0_chosen r0_rows r0_line r0_good r0_work x0_shelf x0_rowSort x0_rowSize x0_moved x0_shown x0_tape x0_tapeSize x0_refused x0_lines x0_changes x0_coins x0_goods x0_works x0_years x0_gone x0_spent x0_at x0_token x0_from x0_figures x0_fault x0_numbers x0_statements x0_left g1 g2 x0_way ((0 : Int32) + 1) (0 : Int64) w12 x0_totals, gridI d r0_line 20 7 x0_line]) hK fp_RX7_267 qd3_118.2.2.2.2.2.2.2.2.2.2.2.2.2.2.1 rfl 0 0 rfl rfl rfl rfl (Nat.le_of_ble_eq_true rfl) rfl rfl ?_
      refine J_iload hK qd3_118.2.2.2.2.2.2.2.2.2.2.2.2.2.2.2.1 rfl 2 rfl ?_
      refine J_iconst (v := 3) hK qd3_119.1 rfl (by decide) ?_
      refine J_irem hK qd3_119.2.1 rfl (by decide) ?_
      obtain ⟨f13, ef13, hf⟩ := bs hf
      refine J_iast (g' := gMd d h0 a0_kept a0_tried a0_chosen r0_rows r0_line r0_good r0_work x0_shelf x0_rowSort x0_rowSize x0_moved x0_shown x0_tape x0_tapeSize x0_refused x0_lines x0_changes x0_coins x0_goods x0_works x0_years x0_gone x0_spent x0_at x0_token x0_from x0_figures x0_fault x0_numbers x0_statements x0_left g1 g2 f13 ((0 : Int32) + 1) (0 : Int64) w12 x0_totals) (gs' := [gMd d h0 a0_kept a0_tried a0_chosen r0_rows r0_line r0_good r0_work x0_shelf x0_rowSort x0_rowSize x0_moved x0_shown x0_tape x0_tapeSize x0_refused x0_lines x0_changes x0_coins x0_goods x0_works x0_years x0_gone x0_spent x0_at x0_token x0_from x0_figures x0_fault x0_numbers x0_statements x0_left g1 g2 f13 ((0 : Int32) + 1) (0 : Int64) w12 x0_totals, gridI d r0_line 20 7 x0_line]) hK qd3_119.2.2.1 rfl 0 17 rfl rfl ef13 rfl rfl ?_
      refine J_aload_n hK qd3_119.2.2.2.1 rfl 0 rfl rfl ?_
      refine J_dup hK qd3_119.2.2.2.2.1 rfl rfl ?_
      refine J_get hK fo_RX7_257 qd3_119.2.2.2.2.2.1 rfl 0 0 rfl rfl rfl ?_
      refine J_lconst (v := 1) hK qd3_119.2.2.2.2.2.2.1 rfl (by decide) ?_
      refine J_iload hK qd3_119.2.2.2.2.2.2.2.1 rfl 2 rfl ?_
      refine J_lshl hK qd3_119.2.2.2.2.2.2.2.2.1 rfl ?_
      refine J_lor hK qd3_119.2.2.2.2.2.2.2.2.2.1 rfl ?_
      obtain ⟨t14, et14, hf⟩ := bs hf
      refine J_nml et14 ?_
      refine J_put (g' := gMd d h0 a0_kept a0_tried a0_chosen r0_rows r0_line r0_good r0_work x0_shelf x0_rowSort x0_rowSize x0_moved x0_shown x0_tape x0_tapeSize x0_refused x0_lines x0_changes x0_coins x0_goods x0_works x0_years x0_gone x0_spent x0_at x0_token x0_from x0_figures x0_fault x0_numbers x0_statements x0_left g1 g2 f13 ((0 : Int32) + 1) t14 w12 x0_totals) (gs' := [gMd d h0 a0_kept a0_tried a0_chosen r0_rows r0_line r0_good r0_work x0_shelf x0_rowSort x0_rowSize x0_moved x0_shown x0_tape x0_tapeSize x0_refused x0_lines x0_changes x0_coins x0_goods x0_works x0_years x0_gone x0_spent x0_at x0_token x0_from x0_figures x0_fault x0_numbers x0_statements x0_left g1 g2 f13 ((0 : Int32) + 1) t14 w12 x0_totals, gridI d r0_line 20 7 x0_line]) hK fp_RX7_257 qd3_119.2.2.2.2.2.2.2.2.2.2.1 rfl 0 0 rfl rfl rfl rfl (Nat.le_of_ble_eq_true rfl) rfl rfl ?_
      obtain ⟨e21, hl15, hf⟩ := bs hf
      have hx15_216 : ∀ (w22 : (Nat → Int32)) (w23 : Int32) (w24 : Int64) (w25 : (Nat → Int32)), (w22, w23, w24, w25) = e21 → J d Φ 8 [gMd d h0 a0_kept a0_tried a0_chosen r0_rows r0_line r0_good r0_work x0_shelf x0_rowSort x0_rowSize x0_moved x0_shown x0_tape x0_tapeSize x0_refused x0_lines x0_changes x0_coins x0_goods x0_works x0_years x0_gone x0_spent x0_at x0_token x0_from x0_figures x0_fault x0_numbers x0_statements x0_left g1 g2 w22 w23 w24 w25 x0_totals, gridI d r0_line 20 7 x0_line] 0 0 216 [] [] := by
        intro w22 w23 w24 w25 he
        rw [← he] at hf
        have hf := un4 hf
        refine J_iconst (v := 1) hK qd3_122.2.2.2.2.2.2.2.2.2.2.2.2.1 rfl (by decide) ?_
        obtain rfl := Option.some.inj hf
        exact J_zret hK hR qd3_122.2.2.2.2.2.2.2.2.2.2.2.2.2.1 () rfl rfl (by decide) (by decide)
      have lo15 : ∀ (k : Nat) (z16 : Int32) (z17 : (Nat → Int32)) (z18 : Int32) (z19 : Int64) (z20 : (Nat → Int32)), lp (u5 (fX7_findWay_s125 n p2 x0_shelf x0_rowSort x0_rowSize x0_rows x0_moved x0_shown x0_tape x0_tapeSize x0_refused x0_lines x0_line x0_changes x0_coins x0_goods x0_good x0_works x0_work x0_years x0_gone x0_spent x0_at x0_token x0_from x0_figures x0_fault x0_numbers x0_statements x0_left x0_totals g1 g2)) k (z16, z17, z18, z19, z20) = some e21 → J d Φ 8 [gMd d h0 a0_kept a0_tried a0_chosen r0_rows r0_line r0_good r0_work x0_shelf x0_rowSort x0_rowSize x0_moved x0_shown x0_tape x0_tapeSize x0_refused x0_lines x0_changes x0_coins x0_goods x0_works x0_years x0_gone x0_spent x0_at x0_token x0_from x0_figures x0_fault x0_numbers x0_statements x0_left g1 g2 z17 z18 z19 z20 x0_totals, gridI d r0_line 20 7 x0_line] 0 0 125 [(0, .ref (h0 0)), (2, .int p2), (5, .int z16)] [] := by
        intro k
        induction k with
        | zero => intro z16 z17 z18 z19 z20 h; cases h
        | succ k ih15 =>
          intro z16 z17 z18 z19 z20 h
          obtain ⟨k2, rr15, hk2, hs15, hr15⟩ := lp_ok h
          cases hk2
          have hs15 : fX7_findWay_s125 n p2 x0_shelf x0_rowSort x0_rowSize x0_rows x0_moved x0_shown x0_tape x0_tapeSize x0_refused x0_lines x0_line x0_changes x0_coins x0_goods x0_good x0_works x0_work x0_years x0_gone x0_spent x0_at x0_token x0_from x0_figures x0_fault x0_numbers x0_statements x0_left x0_totals g1 g2 z16 z17 z18 z19 z20 = some rr15 := hs15
          unfold fX7_findWay_s125 at hs15
          refine J_iload hK qd3_119.2.2.2.2.2.2.2.2.2.2.2.1 rfl 2 rfl ?_
          refine J_iconst (v := 3) hK qd3_119.2.2.2.2.2.2.2.2.2.2.2.2.1 rfl (by decide) ?_
          refine J_idiv hK qd3_119.2.2.2.2.2.2.2.2.2.2.2.2.2.1 rfl (by decide) ?_
          refine J_iload_n hK qd3_119.2.2.2.2.2.2.2.2.2.2.2.2.2.2.1 rfl 1 rfl rfl ?_
          refine J_icmp_eq (tg := 216) hK qd3_119.2.2.2.2.2.2.2.2.2.2.2.2.2.2.2.1 rfl rfl (fun hc130 => ?_) (fun hc130 => ?_)
          · have hs15 := ip hc130 hs15
            exact J_loc [] rfl (hx15_216 z17 z18 z19 z20 (lpx hs15 hr15))
          · have hs15 := iq hc130 hs15
            refine J_iconst (v := 0) hK qd3_120.1 rfl (by decide) ?_
            refine J_istore (L' := [(6, .int (0)), (0, .ref (h0 0)), (2, .int p2), (5, .int z16)]) hK qd3_120.2.1 rfl (by decide) rfl ?_
            refine J_aload_n hK qd3_120.2.2.1 rfl 1 rfl rfl ?_
            refine J_iload hK qd3_120.2.2.2.1 rfl 3 rfl ?_
            refine J_iload hK qd3_120.2.2.2.2.1 rfl 0 rfl ?_
            obtain ⟨v26, e27, hs15⟩ := bs hs15
            refine J_callV (m := 2) (m' := 2) (ce' := 0) (sl' := 0) (gr := []) (gs' := fun _ => [gMd d h0 a0_kept a0_tried a0_chosen r0_rows r0_line r0_good r0_work x0_shelf x0_rowSort x0_rowSize x0_moved x0_shown x0_tape x0_tapeSize x0_refused x0_lines x0_changes x0_coins x0_goods x0_works x0_years x0_gone x0_spent x0_at x0_token x0_from x0_figures x0_fault x0_numbers x0_statements x0_left g1 g2 z17 z18 z19 z20 x0_totals, gridI d r0_line 20 7 x0_line]) (st' := fun _ => [.int v26]) (st := []) hK qd3_120.2.2.2.2.2.1 cv_RX7_260 iv_yX7_stepTo (As := [.int z16, .int (0)]) (kX7_stepTo _ d h0 r0_rows r0_line r0_good r0_work a0_kept a0_tried a0_chosen x0_shelf x0_rowSort x0_rowSize x0_rows x0_moved x0_shown x0_tape x0_tapeSize x0_refused x0_lines x0_line x0_changes x0_coins x0_goods x0_good x0_works x0_work x0_years x0_gone x0_spent x0_at x0_token x0_from x0_figures x0_fault x0_numbers x0_statements x0_left g1 g2 z17 z18 z19 z20 x0_totals z16 (0) e27) rfl rfl (Nat.le_of_ble_eq_true rfl) (by decide) 0 0 rfl rfl rfl [0, 1] [] rfl (by decide +kernel) rfl rfl [0, 1] (by decide +kernel) (fun _ => rfl) (fun _ => rfl) rfl rfl rfl (fun _ => rfl) (fun _ => ?_)
            refine J_istore (L' := [(7, .int v26), (6, .int (0)), (0, .ref (h0 0)), (2, .int p2), (5, .int z16)]) hK qd3_120.2.2.2.2.2.2.1 rfl (by decide) rfl ?_
            obtain ⟨e32, hl28, hs15⟩ := bs hs15
            have hx28_178 : ∀ (w33 : Int32) (w34 : Int32) (w35 : (Nat → Int32)), (w33, w34, w35) = e32 → J d Φ 8 [gMd d h0 a0_kept a0_tried a0_chosen r0_rows r0_line r0_good r0_work x0_shelf x0_rowSort x0_rowSize x0_moved x0_shown x0_tape x0_tapeSize x0_refused x0_lines x0_changes x0_coins x0_goods x0_works x0_years x0_gone x0_spent x0_at x0_token x0_from x0_figures x0_fault x0_numbers x0_statements x0_left g1 g2 z17 z18 z19 w35 x0_totals, gridI d r0_line 20 7 x0_line] 0 0 178 [(0, .ref (h0 0)), (2, .int p2), (6, .int w33), (7, .int w34)] [] := by
              intro w33 w34 w35 he
              rw [← he] at hs15
              have hs15 := un3 hs15
              refine J_aload_n hK qd3_121.2.2.2.2.2.2.1 rfl 0 rfl rfl ?_
              refine J_get hK fo_RX7_67 qd3_121.2.2.2.2.2.2.2.1 rfl 0 0 rfl rfl rfl ?_
              refine J_aload_n hK qd3_121.2.2.2.2.2.2.2.2.1 rfl 0 rfl rfl ?_
              refine J_dup hK qd3_121.2.2.2.2.2.2.2.2.2.1 rfl rfl ?_
              refine J_get hK fo_RX7_267 qd3_121.2.2.2.2.2.2.2.2.2.2.1 rfl 0 0 rfl rfl rfl ?_
              refine J_dup_x1 hK qd3_121.2.2.2.2.2.2.2.2.2.2.2.1 rfl rfl rfl ?_
              refine J_iconst (v := 1) hK qd3_121.2.2.2.2.2.2.2.2.2.2.2.2.1 rfl (by decide) ?_
              refine J_iadd hK qd3_121.2.2.2.2.2.2.2.2.2.2.2.2.2.1 rfl ?_
              refine J_put (g' := gMd d h0 a0_kept a0_tried a0_chosen r0_rows r0_line r0_good r0_work x0_shelf x0_rowSort x0_rowSize x0_moved x0_shown x0_tape x0_tapeSize x0_refused x0_lines x0_changes x0_coins x0_goods x0_works x0_years x0_gone x0_spent x0_at x0_token x0_from x0_figures x0_fault x0_numbers x0_statements x0_left g1 g2 z17 (z18 + 1) z19 w35 x0_totals) (gs' := [gMd d h0 a0_kept a0_tried a0_chosen r0_rows r0_line r0_good r0_work x0_shelf x0_rowSort x0_rowSize x0_moved x0_shown x0_tape x0_tapeSize x0_refused x0_lines x0_changes x0_coins x0_goods x0_works x0_years x0_gone x0_spent x0_at x0_token x0_from x0_figures x0_fault x0_numbers x0_statements x0_left g1 g2 z17 (z18 + 1) z19 w35 x0_totals, gridI d r0_line 20 7 x0_line]) hK fp_RX7_267 qd3_121.2.2.2.2.2.2.2.2.2.2.2.2.2.2.1 rfl 0 0 rfl rfl rfl rfl (Nat.le_of_ble_eq_true rfl) rfl rfl ?_
              refine J_iload hK qd3_121.2.2.2.2.2.2.2.2.2.2.2.2.2.2.2.1 rfl 2 rfl ?_
              obtain ⟨f36, ef36, hs15⟩ := bs hs15
              refine J_iast (g' := gMd d h0 a0_kept a0_tried a0_chosen r0_rows r0_line r0_good r0_work x0_shelf x0_rowSort x0_rowSize x0_moved x0_shown x0_tape x0_tapeSize x0_refused x0_lines x0_changes x0_coins x0_goods x0_works x0_years x0_gone x0_spent x0_at x0_token x0_from x0_figures x0_fault x0_numbers x0_statements x0_left g1 g2 f36 (z18 + 1) z19 w35 x0_totals) (gs' := [gMd d h0 a0_kept a0_tried a0_chosen r0_rows r0_line r0_good r0_work x0_shelf x0_rowSort x0_rowSize x0_moved x0_shown x0_tape x0_tapeSize x0_refused x0_lines x0_changes x0_coins x0_goods x0_works x0_years x0_gone x0_spent x0_at x0_token x0_from x0_figures x0_fault x0_numbers x0_statements x0_left g1 g2 f36 (z18 + 1) z19 w35 x0_totals, gridI d r0_line 20 7 x0_line]) hK qd3_122.1 rfl 0 17 rfl rfl ef36 rfl rfl ?_
              refine J_iload hK qd3_122.2.1 rfl 3 rfl ?_
              refine J_istore (L' := [(5, .int w34), (0, .ref (h0 0)), (2, .int p2), (6, .int w33), (7, .int w34)]) hK qd3_122.2.2.1 rfl (by decide) rfl ?_
              refine J_aload_n hK qd3_122.2.2.2.1 rfl 1 rfl rfl ?_
              refine J_dup hK qd3_122.2.2.2.2.1 rfl rfl ?_
              refine J_get hK fo_RX7_257 qd3_122.2.2.2.2.2.1 rfl 0 0 rfl rfl rfl ?_
              refine J_lconst (v := 1) hK qd3_122.2.2.2.2.2.2.1 rfl (by decide) ?_
              refine J_iload hK qd3_122.2.2.2.2.2.2.2.1 rfl 0 rfl ?_
              refine J_lshl hK qd3_122.2.2.2.2.2.2.2.2.1 rfl ?_
              refine J_lor hK qd3_122.2.2.2.2.2.2.2.2.2.1 rfl ?_
              obtain ⟨t37, et37, hs15⟩ := bs hs15
              refine J_nml et37 ?_
              refine J_put (g' := gMd d h0 a0_kept a0_tried a0_chosen r0_rows r0_line r0_good r0_work x0_shelf x0_rowSort x0_rowSize x0_moved x0_shown x0_tape x0_tapeSize x0_refused x0_lines x0_changes x0_coins x0_goods x0_works x0_years x0_gone x0_spent x0_at x0_token x0_from x0_figures x0_fault x0_numbers x0_statements x0_left g1 g2 f36 (z18 + 1) t37 w35 x0_totals) (gs' := [gMd d h0 a0_kept a0_tried a0_chosen r0_rows r0_line r0_good r0_work x0_shelf x0_rowSort x0_rowSize x0_moved x0_shown x0_tape x0_tapeSize x0_refused x0_lines x0_changes x0_coins x0_goods x0_works x0_years x0_gone x0_spent x0_at x0_token x0_from x0_figures x0_fault x0_numbers x0_statements x0_left g1 g2 f36 (z18 + 1) t37 w35 x0_totals, gridI d r0_line 20 7 x0_line]) hK fp_RX7_257 qd3_122.2.2.2.2.2.2.2.2.2.2.1 rfl 0 0 rfl rfl rfl rfl (Nat.le_of_ble_eq_true rfl) rfl rfl ?_
              refine J_goto hK qd3_122.2.2.2.2.2.2.2.2.2.2.2.1 (n := 125) rfl ?_
              exact J_loc [1, 2, 0] rfl (ih15 w34 f36 (z18 + 1) t37 w35 (lpc hs15 hr15))
            have lo28 : ∀ (k : Nat) (z29 : Int32) (z30 : Int32) (z31 : (Nat → Int32)), lp (u3 (fX7_findWay_s146 n p2 x0_shelf x0_rowSort x0_rowSize x0_rows x0_moved x0_shown x0_tape x0_tapeSize x0_refused x0_lines x0_line x0_changes x0_coins x0_goods x0_good x0_works x0_work x0_years x0_gone x0_spent x0_at x0_token x0_from x0_figures x0_fault x0_numbers x0_statements x0_left x0_totals g1 g2 z16 z17 z18 z19)) k (z29, z30, z31) = some e32 → J d Φ 8 [gMd d h0 a0_kept a0_tried a0_chosen r0_rows r0_line r0_good r0_work x0_shelf x0_rowSort x0_rowSize x0_moved x0_shown x0_tape x0_tapeSize x0_refused x0_lines x0_changes x0_coins x0_goods x0_works x0_years x0_gone x0_spent x0_at x0_token x0_from x0_figures x0_fault x0_numbers x0_statements x0_left g1 g2 z17 z18 z19 z31 x0_totals, gridI d r0_line 20 7 x0_line] 0 0 146 [(0, .ref (h0 0)), (2, .int p2), (5, .int z16), (6, .int z29), (7, .int z30)] [] := by
              intro k
              induction k with
              | zero => intro z29 z30 z31 h; cases h
              | succ k ih28 =>
                intro z29 z30 z31 h
                obtain ⟨k2, rr28, hk2, hs28, hr28⟩ := lp_ok h
                cases hk2
                have hs28 : fX7_findWay_s146 n p2 x0_shelf x0_rowSort x0_rowSize x0_rows x0_moved x0_shown x0_tape x0_tapeSize x0_refused x0_lines x0_line x0_changes x0_coins x0_goods x0_good x0_works x0_work x0_years x0_gone x0_spent x0_at x0_token x0_from x0_figures x0_fault x0_numbers x0_statements x0_left x0_totals g1 g2 z16 z17 z18 z19 z29 z30 z31 = some rr28 := hs28
                unfold fX7_findWay_s146 at hs28
                refine J_iload hK qd3_120.2.2.2.2.2.2.2.1 rfl 4 rfl ?_
                refine J_iconst (v := (-1)) hK qd3_120.2.2.2.2.2.2.2.2.1 rfl (by decide) ?_
                have j162 : ∀ (x38 : (Nat → Int32)), fX7_findWay_j162 x0_shelf x0_rowSort x0_rowSize x0_rows x0_moved x0_shown x0_tape x0_tapeSize x0_refused x0_lines x0_line x0_changes x0_coins x0_goods x0_good x0_works x0_work x0_years x0_gone x0_spent x0_at x0_token x0_from x0_figures x0_fault x0_numbers x0_statements x0_left x0_totals g1 g2 z16 z17 z18 z19 z29 x38 = some rr28 → J d Φ 8 [gMd d h0 a0_kept a0_tried a0_chosen r0_rows r0_line r0_good r0_work x0_shelf x0_rowSort x0_rowSize x0_moved x0_shown x0_tape x0_tapeSize x0_refused x0_lines x0_changes x0_coins x0_goods x0_works x0_years x0_gone x0_spent x0_at x0_token x0_from x0_figures x0_fault x0_numbers x0_statements x0_left g1 g2 z17 z18 z19 x38 x0_totals, gridI d r0_line 20 7 x0_line] 0 0 162 [(0, .ref (h0 0)), (2, .int p2), (5, .int z16), (6, .int z29)] [] := by
                  intro x38 hs28
                  unfold fX7_findWay_j162 at hs28
                  refine J_iinc (L' := [(6, .int (z29 + 1)), (0, .ref (h0 0)), (2, .int p2), (5, .int z16)]) (v := (z29 + 1)) hK qd3_120.2.2.2.2.2.2.2.2.2.2.2.2.2.2.2.1 rfl 3 rfl rfl (by decide) rfl ?_
                  refine J_aload_n hK qd3_121.1 rfl 1 rfl rfl ?_
                  refine J_iload hK qd3_121.2.1 rfl 3 rfl ?_
                  refine J_iload hK qd3_121.2.2.1 rfl 0 rfl ?_
                  obtain ⟨v39, e40, hs28⟩ := bs hs28
                  refine J_callV (m := 2) (m' := 2) (ce' := 0) (sl' := 0) (gr := []) (gs' := fun _ => [gMd d h0 a0_kept a0_tried a0_chosen r0_rows r0_line r0_good r0_work x0_shelf x0_rowSort x0_rowSize x0_moved x0_shown x0_tape x0_tapeSize x0_refused x0_lines x0_changes x0_coins x0_goods x0_works x0_years x0_gone x0_spent x0_at x0_token x0_from x0_figures x0_fault x0_numbers x0_statements x0_left g1 g2 z17 z18 z19 x38 x0_totals, gridI d r0_line 20 7 x0_line]) (st' := fun _ => [.int v39]) (st := []) hK qd3_121.2.2.2.1 cv_RX7_260 iv_yX7_stepTo (As := [.int z16, .int (z29 + 1)]) (kX7_stepTo _ d h0 r0_rows r0_line r0_good r0_work a0_kept a0_tried a0_chosen x0_shelf x0_rowSort x0_rowSize x0_rows x0_moved x0_shown x0_tape x0_tapeSize x0_refused x0_lines x0_line x0_changes x0_coins x0_goods x0_good x0_works x0_work x0_years x0_gone x0_spent x0_at x0_token x0_from x0_figures x0_fault x0_numbers x0_statements x0_left g1 g2 z17 z18 z19 x38 x0_totals z16 (z29 + 1) e40) rfl rfl (Nat.le_of_ble_eq_true rfl) (by decide) 0 0 rfl rfl rfl [0, 1] [] rfl (by decide +kernel) rfl rfl [0, 1] (by decide +kernel) (fun _ => rfl) (fun _ => rfl) rfl rfl rfl (fun _ => rfl) (fun _ => ?_)
                  refine J_istore (L' := [(7, .int v39), (6, .int (z29 + 1)), (0, .ref (h0 0)), (2, .int p2), (5, .int z16)]) hK qd3_121.2.2.2.2.1 rfl (by decide) rfl ?_
                  refine J_goto hK qd3_121.2.2.2.2.2.1 (n := 146) rfl ?_
                  exact J_loc [2, 3, 4, 1, 0] rfl (ih28 (z29 + 1) v39 x38 (lpc hs28 hr28))
                refine J_icmp_eq (tg := 162) hK qd3_120.2.2.2.2.2.2.2.2.2.1 rfl rfl (fun hc149 => ?_) (fun hc149 => ?_)
                · have hs28 := ip hc149 hs28
                  exact J_loc [0, 1, 2, 3] rfl (j162 z31 hs28)
                · have hs28 := iq hc149 hs28
                  refine J_aload_n hK qd3_120.2.2.2.2.2.2.2.2.2.2.1 rfl 0 rfl rfl ?_
                  refine J_iload hK qd3_120.2.2.2.2.2.2.2.2.2.2.2.1 rfl 4 rfl ?_
                  refine J_iload_n hK qd3_120.2.2.2.2.2.2.2.2.2.2.2.2.1 rfl 1 rfl rfl ?_
                  obtain ⟨⟨v41, g42⟩, e43, hs28⟩ := bs hs28
                  have hs28 := un2 hs28
                  refine J_callV (m := 2) (m' := 2) (ce' := 0) (sl' := 0) (gr := []) (gs' := fun _ => [gMd d h0 a0_kept a0_tried a0_chosen r0_rows r0_line r0_good r0_work x0_shelf x0_rowSort x0_rowSize x0_moved x0_shown x0_tape x0_tapeSize x0_refused x0_lines x0_changes x0_coins x0_goods x0_works x0_years x0_gone x0_spent x0_at x0_token x0_from x0_figures x0_fault x0_numbers x0_statements x0_left g1 g2 z17 z18 z19 g42 x0_totals, gridI d r0_line 20 7 x0_line]) (st' := fun _ => [.int v41]) (st := []) hK qd3_120.2.2.2.2.2.2.2.2.2.2.2.2.2.1 cv_RX7_273 iv_yX7_canEnd (As := [.int z30, .int p2]) (kX7_canEnd _ d h0 r0_rows r0_line r0_good r0_work a0_kept a0_tried a0_chosen n x0_shelf x0_rowSort x0_rowSize x0_rows x0_moved x0_shown x0_tape x0_tapeSize x0_refused x0_lines x0_line x0_changes x0_coins x0_goods x0_good x0_works x0_work x0_years x0_gone x0_spent x0_at x0_token x0_from x0_figures x0_fault x0_numbers x0_statements x0_left g1 g2 z17 z18 z19 z31 x0_totals z30 p2 e43) rfl rfl (Nat.le_of_ble_eq_true rfl) (by decide) 0 0 rfl rfl rfl [0, 1] [] rfl (by decide +kernel) rfl rfl [0, 1] (by decide +kernel) (fun _ => rfl) (fun _ => rfl) rfl rfl rfl (fun _ => rfl) (fun _ => ?_)
                  refine J_if_ne (tg := 178) hK qd3_120.2.2.2.2.2.2.2.2.2.2.2.2.2.2.1 rfl rfl (fun hc159 => ?_) (fun hc159 => ?_)
                  · have hs28 := iq hc159 hs28
                    exact J_loc [0, 1, 3, 4] rfl (hx28_178 z29 z30 g42 (lpx hs28 hr28))
                  · have hs28 := ip hc159 hs28
                    exact J_loc [0, 1, 2, 3] rfl (j162 g42 hs28)
            exact J_loc [2, 3, 4, 1, 0] rfl (lo28 n (0) v26 z20 hl28)
      exact (lo15 n w11 f13 ((0 : Int32) + 1) t14 w12 hl15)
    have lo6 : ∀ (k : Nat) (z7 : Int32) (z8 : Int32) (z9 : (Nat → Int32)), lp (u3 (fX7_findWay_s38 n p1 p2 x0_shelf x0_rowSort x0_rowSize x0_rows x0_moved x0_shown x0_tape x0_tapeSize x0_refused x0_lines x0_line x0_changes x0_coins x0_goods x0_good x0_works x0_work x0_years x0_gone x0_spent x0_at x0_token x0_from x0_figures x0_fault x0_numbers x0_statements x0_left x0_way x0_totals g1 g2 v4)) k (z7, z8, z9) = some e10 → J d Φ 8 [gMd d h0 a0_kept a0_tried a0_chosen r0_rows r0_line r0_good r0_work x0_shelf x0_rowSort x0_rowSize x0_moved x0_shown x0_tape x0_tapeSize x0_refused x0_lines x0_changes x0_coins x0_goods x0_works x0_years x0_gone x0_spent x0_at x0_token x0_from x0_figures x0_fault x0_numbers x0_statements x0_left g1 g2 x0_way (0) (0 : Int64) z9 x0_totals, gridI d r0_line 20 7 x0_line] 0 0 38 [(0, .ref (h0 0)), (1, .int p1), (2, .int p2), (4, .int v4), (5, .int z7), (6, .int z8)] [] := by
      intro k
      induction k with
      | zero => intro z7 z8 z9 h; cases h
      | succ k ih6 =>
        intro z7 z8 z9 h
        obtain ⟨k2, rr6, hk2, hs6, hr6⟩ := lp_ok h
        cases hk2
        have hs6 : fX7_findWay_s38 n p1 p2 x0_shelf x0_rowSort x0_rowSize x0_rows x0_moved x0_shown x0_tape x0_tapeSize x0_refused x0_lines x0_line x0_changes x0_coins x0_goods x0_good x0_works x0_work x0_years x0_gone x0_spent x0_at x0_token x0_from x0_figures x0_fault x0_numbers x0_statements x0_left x0_way x0_totals g1 g2 v4 z7 z8 z9 = some rr6 := hs6
        unfold fX7_findWay_s38 at hs6
        refine J_iload hK qd3_116.2.2.2.2.2.2.2.1 rfl 5 rfl ?_
        refine J_if_lt (tg := 92) hK qd3_116.2.2.2.2.2.2.2.2.1 rfl rfl (fun hc40 => ?_) (fun hc40 => ?_)
        · have hs6 := ip hc40 hs6
          exact J_loc [0, 2, 4] rfl (hx6_92 z7 z9 (lpx hs6 hr6))
        · have hs6 := iq hc40 hs6
          refine J_aload_n hK qd3_116.2.2.2.2.2.2.2.2.2.1 rfl 0 rfl rfl ?_
          refine J_get hK fo_RX7_64 qd3_116.2.2.2.2.2.2.2.2.2.2.1 rfl 0 0 rfl rfl rfl ?_
          refine J_iconst (v := 3) hK qd3_116.2.2.2.2.2.2.2.2.2.2.2.1 rfl (by decide) ?_
          refine J_iload_n hK qd3_116.2.2.2.2.2.2.2.2.2.2.2.2.1 rfl 1 rfl rfl ?_
          refine J_imul hK qd3_116.2.2.2.2.2.2.2.2.2.2.2.2.2.1 rfl ?_
          refine J_iload hK qd3_116.2.2.2.2.2.2.2.2.2.2.2.2.2.2.1 rfl 5 rfl ?_
          refine J_iadd hK qd3_116.2.2.2.2.2.2.2.2.2.2.2.2.2.2.2.1 rfl ?_
          obtain ⟨v44, ev44, hs6⟩ := bs hs6
          refine J_iald hK qd3_117.1 rfl 0 16 rfl rfl ev44 ?_
          refine J_iload hK qd3_117.2.1 rfl 3 rfl ?_
          refine J_icmp_ne (tg := 82) hK qd3_117.2.2.1 rfl rfl (fun hc56 => ?_) (fun hc56 => ?_)
          · have hs6 := iq hc56 hs6
            refine J_iload hK qd3_118.2.2.1 rfl 4 rfl ?_
            refine J_istore (L' := [(5, .int z7), (0, .ref (h0 0)), (1, .int p1), (2, .int p2), (4, .int v4), (6, .int z8)]) hK qd3_118.2.2.2.1 rfl (by decide) rfl ?_
            refine J_iinc (L' := [(6, .int (z8 + (-1))), (5, .int z7), (0, .ref (h0 0)), (1, .int p1), (2, .int p2), (4, .int v4)]) (v := (z8 + (-1))) hK qd3_118.2.2.2.2.1 rfl 5 rfl rfl (by decide) rfl ?_
            refine J_goto hK qd3_118.2.2.2.2.2.1 (n := 38) rfl ?_
            exact J_loc [2, 3, 4, 5, 1, 0] rfl (ih6 z7 (z8 + (-1)) z9 (lpc hs6 hr6))
          · have hs6 := ip hc56 hs6
            refine J_aload_n hK qd3_117.2.2.2.1 rfl 0 rfl rfl ?_
            refine J_iconst (v := 3) hK qd3_117.2.2.2.2.1 rfl (by decide) ?_
            refine J_iload_n hK qd3_117.2.2.2.2.2.1 rfl 1 rfl rfl ?_
            refine J_imul hK qd3_117.2.2.2.2.2.2.1 rfl ?_
            refine J_iload hK qd3_117.2.2.2.2.2.2.2.1 rfl 5 rfl ?_
            refine J_iadd hK qd3_117.2.2.2.2.2.2.2.2.1 rfl ?_
            refine J_iload_n hK qd3_117.2.2.2.2.2.2.2.2.2.1 rfl 2 rfl rfl ?_
            obtain ⟨⟨v45, g46⟩, e47, hs6⟩ := bs hs6
            have hs6 := un2 hs6
            refine J_callV (m := 2) (m' := 2) (ce' := 0) (sl' := 0) (gr := []) (gs' := fun _ => [gMd d h0 a0_kept a0_tried a0_chosen r0_rows r0_line r0_good r0_work x0_shelf x0_rowSort x0_rowSize x0_moved x0_shown x0_tape x0_tapeSize x0_refused x0_lines x0_changes x0_coins x0_goods x0_works x0_years x0_gone x0_spent x0_at x0_token x0_from x0_figures x0_fault x0_numbers x0_statements x0_left g1 g2 x0_way (0) (0 : Int64) g46 x0_totals, gridI d r0_line 20 7 x0_line]) (st' := fun _ => [.int v45]) (st := []) hK qd3_117.2.2.2.2.2.2.2.2.2.2.1 cv_RX7_273 iv_yX7_canEnd (As := [.int ((3 * p1) + z8), .int p2]) (kX7_canEnd _ d h0 r0_rows r0_line r0_good r0_work a0_kept a0_tried a0_chosen n x0_shelf x0_rowSort x0_rowSize x0_rows x0_moved x0_shown x0_tape x0_tapeSize x0_refused x0_lines x0_line x0_changes x0_coins x0_goods x0_good x0_works x0_work x0_years x0_gone x0_spent x0_at x0_token x0_from x0_figures x0_fault x0_numbers x0_statements x0_left g1 g2 x0_way (0) (0 : Int64) z9 x0_totals ((3 * p1) + z8) p2 e47) rfl rfl (Nat.le_of_ble_eq_true rfl) (by decide) 0 0 rfl rfl rfl [0, 1] [] rfl (by decide +kernel) rfl rfl [0, 1] (by decide +kernel) (fun _ => rfl) (fun _ => rfl) rfl rfl rfl (fun _ => rfl) (fun _ => ?_)
            refine J_if_eq (tg := 82) hK qd3_117.2.2.2.2.2.2.2.2.2.2.2.1 rfl rfl (fun hc70 => ?_) (fun hc70 => ?_)
            · have hs6 := ip hc70 hs6
              refine J_iload hK qd3_118.2.2.1 rfl 4 rfl ?_
              refine J_istore (L' := [(5, .int z7), (0, .ref (h0 0)), (1, .int p1), (2, .int p2), (4, .int v4), (6, .int z8)]) hK qd3_118.2.2.2.1 rfl (by decide) rfl ?_
              refine J_iinc (L' := [(6, .int (z8 + (-1))), (5, .int z7), (0, .ref (h0 0)), (1, .int p1), (2, .int p2), (4, .int v4)]) (v := (z8 + (-1))) hK qd3_118.2.2.2.2.1 rfl 5 rfl rfl (by decide) rfl ?_
              refine J_goto hK qd3_118.2.2.2.2.2.1 (n := 38) rfl ?_
              exact J_loc [2, 3, 4, 5, 1, 0] rfl (ih6 z7 (z8 + (-1)) g46 (lpc hs6 hr6))
            · have hs6 := iq hc70 hs6
              refine J_iconst (v := 3) hK qd3_117.2.2.2.2.2.2.2.2.2.2.2.2.1 rfl (by decide) ?_
              refine J_iload_n hK qd3_117.2.2.2.2.2.2.2.2.2.2.2.2.2.1 rfl 1 rfl rfl ?_
              refine J_imul hK qd3_117.2.2.2.2.2.2.2.2.2.2.2.2.2.2.1 rfl ?_
              refine J_iload hK qd3_117.2.2.2.2.2.2.2.2.2.2.2.2.2.2.2.1 rfl 5 rfl ?_
              refine J_iadd hK qd3_118.1 rfl ?_
              refine J_goto hK qd3_118.2.1 (n := 84) rfl ?_
              refine J_istore (L' := [(5, .int ((3 * p1) + z8)), (0, .ref (h0 0)), (1, .int p1), (2, .int p2), (4, .int v4), (6, .int z8)]) hK qd3_118.2.2.2.1 rfl (by decide) rfl ?_
              refine J_iinc (L' := [(6, .int (z8 + (-1))), (5, .int ((3 * p1) + z8)), (0, .ref (h0 0)), (1, .int p1), (2, .int p2), (4, .int v4)]) (v := (z8 + (-1))) hK qd3_118.2.2.2.2.1 rfl 5 rfl rfl (by decide) rfl ?_
              refine J_goto hK qd3_118.2.2.2.2.2.1 (n := 38) rfl ?_
              exact J_loc [2, 3, 4, 5, 1, 0] rfl (ih6 ((3 * p1) + z8) (z8 + (-1)) g46 (lpc hs6 hr6))
    exact J_loc [3, 4, 5, 2, 1, 0] rfl (lo6 n (-1) (2) x0_queue hl6)
  · have hf := iq hc27 hf
    refine J_iconst (v := 0) hK qd3_116.2.1 rfl (by decide) ?_
    obtain rfl := Option.some.inj hf
    exact J_zret hK hR qd3_116.2.2.1 () rfl rfl (by decide) (by decide)

def fX7_cheapest (n : Nat) (X0 : MdT) (p1 : Int32) (p2 : Int32) : Option (Int32 × (Nat → Int32) × (Nat → Int32) × (Nat → Int32) × Int32) :=
  u35 (fun (x0_shelf : (Nat → Int32)) (x0_rowSort : (Nat → Int32)) (x0_rowSize : (Nat → Int32)) (x0_rows : (Nat → Nat → Int64)) (x0_moved : (Nat → Int64)) (x0_shown : (Nat → Int32)) (x0_tape : (Nat → Int32)) (x0_tapeSize : Int32) (x0_refused : (Nat → Int32)) (x0_lines : Int32) (x0_line : (Nat → Nat → Int32)) (x0_changes : (Nat → Int32)) (x0_coins : (Nat → Int32)) (x0_goods : Int32) (x0_good : (Nat → Nat → Int32)) (x0_works : Int32) (x0_work : (Nat → Nat → Int32)) (x0_years : Int32) (x0_gone : Int32) (x0_spent : Int32) (x0_at : Int32) (x0_token : Int32) (x0_from : Int32) (x0_figures : Int64) (x0_fault : Int32) (x0_numbers : (Nat → Int32)) (x0_statements : Int32) (x0_left : (Nat → Int32)) (x0_far : (Nat → Int32)) (x0_tons : Int32) (x0_way : (Nat → Int32)) (x0_steps : Int32) (x0_met : Int64) (x0_queue : (Nat → Int32)) (x0_totals : (Nat → Int32)) => (fX7_isPlace p1).bind (fun v1 => if v1 = 0 then ((fX7_refuse (x0_shelf, x0_rowSort, x0_rowSize, x0_rows, x0_moved, x0_shown, x0_tape, x0_tapeSize, x0_refused, x0_lines, x0_line, x0_changes, x0_coins, x0_goods, x0_good, x0_works, x0_work, x0_years, x0_gone, x0_spent, x0_at, x0_token, x0_from, x0_figures, x0_fault, x0_numbers, x0_statements, x0_left, x0_far, x0_tons, x0_way, x0_steps, x0_met, x0_queue, x0_totals) (-2)).bind (u2 fun v3 g4 => some (v3, g4, x0_left, x0_far, x0_tons))) else ((fX7_isPlace p2).bind (fun v6 => if v6 = 0 then ((fX7_refuse (x0_shelf, x0_rowSort, x0_rowSize, x0_rows, x0_moved, x0_shown, x0_tape, x0_tapeSize, x0_refused, x0_lines, x0_line, x0_changes, x0_coins, x0_goods, x0_good, x0_works, x0_work, x0_years, x0_gone, x0_spent, x0_at, x0_token, x0_from, x0_figures, x0_fault, x0_numbers, x0_statements, x0_left, x0_far, x0_tons, x0_way, x0_steps, x0_met, x0_queue, x0_totals) (-2)).bind (u2 fun v20 g21 => some (v20, g21, x0_left, x0_far, x0_tons))) else ((fX7_refill n (x0_shelf, x0_rowSort, x0_rowSize, x0_rows, x0_moved, x0_shown, x0_tape, x0_tapeSize, x0_refused, x0_lines, x0_line, x0_changes, x0_coins, x0_goods, x0_good, x0_works, x0_work, x0_years, x0_gone, x0_spent, x0_at, x0_token, x0_from, x0_figures, x0_fault, x0_numbers, x0_statements, x0_left, x0_far, x0_tons, x0_way, x0_steps, x0_met, x0_queue, x0_totals)).bind (fun g8 => (fX7_findFar n (x0_shelf, x0_rowSort, x0_rowSize, x0_rows, x0_moved, x0_shown, x0_tape, x0_tapeSize, x0_refused, x0_lines, x0_line, x0_changes, x0_coins, x0_goods, x0_good, x0_works, x0_work, x0_years, x0_gone, x0_spent, x0_at, x0_token, x0_from, x0_figures, x0_fault, x0_numbers, x0_statements, g8, x0_far, x0_tons, x0_way, x0_steps, x0_met, x0_queue, x0_totals) p2 (0)).bind (u2 fun g10 g11 => (fX7_least n (x0_shelf, x0_rowSort, x0_rowSize, x0_rows, x0_moved, x0_shown, x0_tape, x0_tapeSize, x0_refused, x0_lines, x0_line, x0_changes, x0_coins, x0_goods, x0_good, x0_works, x0_work, x0_years, x0_gone, x0_spent, x0_at, x0_token, x0_from, x0_figures, x0_fault, x0_numbers, x0_statements, g8, g10, g11, x0_way, x0_steps, x0_met, x0_queue, x0_totals) p1).bind (fun v13 => if v13 < 1000000000 then ((fX7_least n (x0_shelf, x0_rowSort, x0_rowSize, x0_rows, x0_moved, x0_shown, x0_tape, x0_tapeSize, x0_refused, x0_lines, x0_line, x0_changes, x0_coins, x0_goods, x0_good, x0_works, x0_work, x0_years, x0_gone, x0_spent, x0_at, x0_token, x0_from, x0_figures, x0_fault, x0_numbers, x0_statements, g8, g10, g11, x0_way, x0_steps, x0_met, x0_queue, x0_totals) p1).bind (fun v15 => some (v15, x0_refused, g8, g10, g11))) else ((fX7_refuse (x0_shelf, x0_rowSort, x0_rowSize, x0_rows, x0_moved, x0_shown, x0_tape, x0_tapeSize, x0_refused, x0_lines, x0_line, x0_changes, x0_coins, x0_goods, x0_good, x0_works, x0_work, x0_years, x0_gone, x0_spent, x0_at, x0_token, x0_from, x0_figures, x0_fault, x0_numbers, x0_statements, g8, g10, g11, x0_way, x0_steps, x0_met, x0_queue, x0_totals) (-5)).bind (u2 fun v17 g18 => some (v17, g18, g8, g10, g11))))))))))) X0
set_option maxHeartbeats 4000000 in
set_option maxRecDepth 100000 in
theorem kX7_cheapest (l : Launch) (d : DT) (h0 : Nat → Nat) (r0_rows : Nat → Nat) (r0_line : Nat → Nat) (r0_good : Nat → Nat) (r0_work : Nat → Nat) (a0_kept : Option Nat) (a0_tried : Option Nat) (a0_chosen : Option Nat) (n : Nat) (x0_shelf : (Nat → Int32)) (x0_rowSort : (Nat → Int32)) (x0_rowSize : (Nat → Int32)) (x0_rows : (Nat → Nat → Int64)) (x0_moved : (Nat → Int64)) (x0_shown : (Nat → Int32)) (x0_tape : (Nat → Int32)) (x0_tapeSize : Int32) (x0_refused : (Nat → Int32)) (x0_lines : Int32) (x0_line : (Nat → Nat → Int32)) (x0_changes : (Nat → Int32)) (x0_coins : (Nat → Int32)) (x0_goods : Int32) (x0_good : (Nat → Nat → Int32)) (x0_works : Int32) (x0_work : (Nat → Nat → Int32)) (x0_years : Int32) (x0_gone : Int32) (x0_spent : Int32) (x0_at : Int32) (x0_token : Int32) (x0_from : Int32) (x0_figures : Int64) (x0_fault : Int32) (x0_numbers : (Nat → Int32)) (x0_statements : Int32) (x0_left : (Nat → Int32)) (x0_far : (Nat → Int32)) (x0_tons : Int32) (x0_way : (Nat → Int32)) (x0_steps : Int32) (x0_met : Int64) (x0_queue : (Nat → Int32)) (x0_totals : (Nat → Int32)) (p1 : Int32) (p2 : Int32)  {out : Int32 × (Nat → Int32) × (Nat → Int32) × (Nat → Int32) × Int32} (hf : fX7_cheapest n (x0_shelf, x0_rowSort, x0_rowSize, x0_rows, x0_moved, x0_shown, x0_tape, x0_tapeSize, x0_refused, x0_lines, x0_line, x0_changes, x0_coins, x0_goods, x0_good, x0_works, x0_work, x0_years, x0_gone, x0_spent, x0_at, x0_token, x0_from, x0_figures, x0_fault, x0_numbers, x0_statements, x0_left, x0_far, x0_tons, x0_way, x0_steps, x0_met, x0_queue, x0_totals) p1 p2 = some out) : Ct l d yX7_cheapest cX7_cheapest 3 (some .int) { frames := 2, cells := 0, slots := 0, locals := 50 } [.ref (h0 0), .int p1, .int p2] [gMd d h0 a0_kept a0_tried a0_chosen r0_rows r0_line r0_good r0_work x0_shelf x0_rowSort x0_rowSize x0_moved x0_shown x0_tape x0_tapeSize x0_refused x0_lines x0_changes x0_coins x0_goods x0_works x0_years x0_gone x0_spent x0_at x0_token x0_from x0_figures x0_fault x0_numbers x0_statements x0_left x0_far x0_tons x0_way x0_steps x0_met x0_queue x0_totals, gridI d r0_line 20 7 x0_line] (fun _ : Unit => (some (.int out.1), [gMd d h0 a0_kept a0_tried a0_chosen r0_rows r0_line r0_good r0_work x0_shelf x0_rowSort x0_rowSize x0_moved x0_shown x0_tape x0_tapeSize (out.2.1) x0_lines x0_changes x0_coins x0_goods x0_works x0_years x0_gone x0_spent x0_at x0_token x0_from x0_figures x0_fault x0_numbers x0_statements (out.2.2.1) (out.2.2.2.1) (out.2.2.2.2) x0_way x0_steps x0_met x0_queue x0_totals, gridI d r0_line 20 7 x0_line])) := by
  refine Ct.of (by decide) (Nat.le_of_ble_eq_true rfl) ?_
  intro Φ hl hK hR
  subst hl
  have hK : Ok d Φ RX7 "cheapest" cX7_cheapest 3 (some .int) { frames := 2, cells := 0, slots := 0, locals := 50 } := hK
  unfold fX7_cheapest at hf
  have hf := un35 hf
  show J d Φ 3 [gMd d h0 a0_kept a0_tried a0_chosen r0_rows r0_line r0_good r0_work x0_shelf x0_rowSort x0_rowSize x0_moved x0_shown x0_tape x0_tapeSize x0_refused x0_lines x0_changes x0_coins x0_goods x0_works x0_years x0_gone x0_spent x0_at x0_token x0_from x0_figures x0_fault x0_numbers x0_statements x0_left x0_far x0_tons x0_way x0_steps x0_met x0_queue x0_totals, gridI d r0_line 20 7 x0_line] 0 0 0 [(0, .ref (h0 0)), (1, .int p1), (2, .int p2)] []
  refine J_iload_n hK qd3_123.1 rfl 1 rfl rfl ?_
  obtain ⟨v1, e2, hf⟩ := bs hf
  refine J_callS (m := 2) (m' := 2) (ce' := 0) (sl' := 0) (gr := [gMd d h0 a0_kept a0_tried a0_chosen r0_rows r0_line r0_good r0_work x0_shelf x0_rowSort x0_rowSize x0_moved x0_shown x0_tape x0_tapeSize x0_refused x0_lines x0_changes x0_coins x0_goods x0_works x0_years x0_gone x0_spent x0_at x0_token x0_from x0_figures x0_fault x0_numbers x0_statements x0_left x0_far x0_tons x0_way x0_steps x0_met x0_queue x0_totals, gridI d r0_line 20 7 x0_line]) (gs' := fun _ => [gMd d h0 a0_kept a0_tried a0_chosen r0_rows r0_line r0_good r0_work x0_shelf x0_rowSort x0_rowSize x0_moved x0_shown x0_tape x0_tapeSize x0_refused x0_lines x0_changes x0_coins x0_goods x0_works x0_years x0_gone x0_spent x0_at x0_token x0_from x0_figures x0_fault x0_numbers x0_statements x0_left x0_far x0_tons x0_way x0_steps x0_met x0_queue x0_totals, gridI d r0_line 20 7 x0_line]) (st' := fun _ => [.int v1]) (st := []) hK qd3_123.2.1 cv_RX7_112 ws_yX7_isPlace (As := [.int p1]) (kX7_isPlace _ d p1 e2) rfl rfl (Nat.le_of_ble_eq_true rfl) (by decide) [] [0, 1] rfl (by decide +kernel) rfl rfl [0, 1] (by decide +kernel) (fun _ => rfl) (fun _ => rfl) rfl rfl rfl (fun _ => rfl) (fun _ => ?_)
  refine J_if_eq (tg := 14) hK qd3_123.2.2.1 rfl rfl (fun hc4 => ?_) (fun hc4 => ?_)
  · have hf := ip hc4 hf
    refine J_aload_n hK qd3_123.2.2.2.2.2.2.1 rfl 0 rfl rfl ?_
    refine J_bipush (v := (-2)) hK qd3_123.2.2.2.2.2.2.2.1 rfl (by decide) ?_
    obtain ⟨⟨v3, g4⟩, e5, hf⟩ := bs hf
    have hf := un2 hf
    refine J_callV (m := 2) (m' := 2) (ce' := 0) (sl' := 0) (gr := [gridI d r0_line 20 7 x0_line]) (gs' := fun _ => [gMd d h0 a0_kept a0_tried a0_chosen r0_rows r0_line r0_good r0_work x0_shelf x0_rowSort x0_rowSize x0_moved x0_shown x0_tape x0_tapeSize g4 x0_lines x0_changes x0_coins x0_goods x0_works x0_years x0_gone x0_spent x0_at x0_token x0_from x0_figures x0_fault x0_numbers x0_statements x0_left x0_far x0_tons x0_way x0_steps x0_met x0_queue x0_totals, gridI d r0_line 20 7 x0_line]) (st' := fun _ => [.int v3]) (st := []) hK qd3_123.2.2.2.2.2.2.2.2.1 cv_RX7_94 iv_yX7_refuse (As := [.int (-2)]) (kX7_refuse _ d h0 r0_rows r0_line r0_good r0_work a0_kept a0_tried a0_chosen x0_shelf x0_rowSort x0_rowSize x0_rows x0_moved x0_shown x0_tape x0_tapeSize x0_refused x0_lines x0_line x0_changes x0_coins x0_goods x0_good x0_works x0_work x0_years x0_gone x0_spent x0_at x0_token x0_from x0_figures x0_fault x0_numbers x0_statements x0_left x0_far x0_tons x0_way x0_steps x0_met x0_queue x0_totals (-2) e5) rfl rfl (Nat.le_of_ble_eq_true rfl) (by decide) 0 0 rfl rfl rfl [0] [1] rfl (by decide +kernel) rfl rfl [1, 0] (by decide +kernel) (fun _ => rfl) (fun _ => rfl) rfl rfl rfl (fun _ => rfl) (fun _ => ?_)
    obtain rfl := Option.some.inj hf
    exact J_iret hK hR qd3_123.2.2.2.2.2.2.2.2.2.1 () rfl (by decide) (by decide)
  · have hf := iq hc4 hf
    refine J_iload_n hK qd3_123.2.2.2.1 rfl 2 rfl rfl ?_
    obtain ⟨v6, e7, hf⟩ := bs hf
    refine J_callS (m := 2) (m' := 2) (ce' := 0) (sl' := 0) (gr := [gMd d h0 a0_kept a0_tried a0_chosen r0_rows r0_line r0_good r0_work x0_shelf x0_rowSort x0_rowSize x0_moved x0_shown x0_tape x0_tapeSize x0_refused x0_lines x0_changes x0_coins x0_goods x0_works x0_years x0_gone x0_spent x0_at x0_token x0_from x0_figures x0_fault x0_numbers x0_statements x0_left x0_far x0_tons x0_way x0_steps x0_met x0_queue x0_totals, gridI d r0_line 20 7 x0_line]) (gs' := fun _ => [gMd d h0 a0_kept a0_tried a0_chosen r0_rows r0_line r0_good r0_work x0_shelf x0_rowSort x0_rowSize x0_moved x0_shown x0_tape x0_tapeSize x0_refused x0_lines x0_changes x0_coins x0_goods x0_works x0_years x0_gone x0_spent x0_at x0_token x0_from x0_figures x0_fault x0_numbers x0_statements x0_left x0_far x0_tons x0_way x0_steps x0_met x0_queue x0_totals, gridI d r0_line 20 7 x0_line]) (st' := fun _ => [.int v6]) (st := []) hK qd3_123.2.2.2.2.1 cv_RX7_112 ws_yX7_isPlace (As := [.int p2]) (kX7_isPlace _ d p2 e7) rfl rfl (Nat.le_of_ble_eq_true rfl) (by decide) [] [0, 1] rfl (by decide +kernel) rfl rfl [0, 1] (by decide +kernel) (fun _ => rfl) (fun _ => rfl) rfl rfl rfl (fun _ => rfl) (fun _ => ?_)
    refine J_if_ne (tg := 21) hK qd3_123.2.2.2.2.2.1 rfl rfl (fun hc11 => ?_) (fun hc11 => ?_)
    · have hf := iq hc11 hf
      refine J_aload_n hK qd3_123.2.2.2.2.2.2.2.2.2.2.1 rfl 0 rfl rfl ?_
      obtain ⟨g8, e9, hf⟩ := bs hf
      refine J_callV (m := 2) (m' := 2) (ce' := 0) (sl' := 0) (gr := []) (gs' := fun _ => [gMd d h0 a0_kept a0_tried a0_chosen r0_rows r0_line r0_good r0_work x0_shelf x0_rowSort x0_rowSize x0_moved x0_shown x0_tape x0_tapeSize x0_refused x0_lines x0_changes x0_coins x0_goods x0_works x0_years x0_gone x0_spent x0_at x0_token x0_from x0_figures x0_fault x0_numbers x0_statements g8 x0_far x0_tons x0_way x0_steps x0_met x0_queue x0_totals, gridI d r0_line 20 7 x0_line]) (st' := fun _ => []) (st := []) hK qd3_123.2.2.2.2.2.2.2.2.2.2.2.1 cv_RX7_276 iv_yX7_refill (As := []) (kX7_refill _ d h0 r0_rows r0_line r0_good r0_work a0_kept a0_tried a0_chosen n x0_shelf x0_rowSort x0_rowSize x0_rows x0_moved x0_shown x0_tape x0_tapeSize x0_refused x0_lines x0_line x0_changes x0_coins x0_goods x0_good x0_works x0_work x0_years x0_gone x0_spent x0_at x0_token x0_from x0_figures x0_fault x0_numbers x0_statements x0_left x0_far x0_tons x0_way x0_steps x0_met x0_queue x0_totals e9) rfl rfl (Nat.le_of_ble_eq_true rfl) (by decide) 0 0 rfl rfl rfl [0, 1] [] rfl (by decide +kernel) rfl rfl [0, 1] (by decide +kernel) (fun _ => rfl) (fun _ => rfl) rfl rfl rfl (fun _ => rfl) (fun _ => ?_)
      refine J_aload_n hK qd3_123.2.2.2.2.2.2.2.2.2.2.2.2.1 rfl 0 rfl rfl ?_
      refine J_iload_n hK qd3_123.2.2.2.2.2.2.2.2.2.2.2.2.2.1 rfl 2 rfl rfl ?_
      refine J_iconst (v := 0) hK qd3_123.2.2.2.2.2.2.2.2.2.2.2.2.2.2.1 rfl (by decide) ?_
      obtain ⟨⟨g10, g11⟩, e12, hf⟩ := bs hf
      have hf := un2 hf
      refine J_callV (m := 2) (m' := 2) (ce' := 0) (sl' := 0) (gr := []) (gs' := fun _ => [gMd d h0 a0_kept a0_tried a0_chosen r0_rows r0_line r0_good r0_work x0_shelf x0_rowSort x0_rowSize x0_moved x0_shown x0_tape x0_tapeSize x0_refused x0_lines x0_changes x0_coins x0_goods x0_works x0_years x0_gone x0_spent x0_at x0_token x0_from x0_figures x0_fault x0_numbers x0_statements g8 g10 g11 x0_way x0_steps x0_met x0_queue x0_totals, gridI d r0_line 20 7 x0_line]) (st' := fun _ => []) (st := []) hK qd3_123.2.2.2.2.2.2.2.2.2.2.2.2.2.2.2.1 cv_RX7_264 iv_yX7_findFar (As := [.int p2, .int (0)]) (kX7_findFar _ d h0 r0_rows r0_line r0_good r0_work a0_kept a0_tried a0_chosen n x0_shelf x0_rowSort x0_rowSize x0_rows x0_moved x0_shown x0_tape x0_tapeSize x0_refused x0_lines x0_line x0_changes x0_coins x0_goods x0_good x0_works x0_work x0_years x0_gone x0_spent x0_at x0_token x0_from x0_figures x0_fault x0_numbers x0_statements g8 x0_far x0_tons x0_way x0_steps x0_met x0_queue x0_totals p2 (0) e12) rfl rfl (Nat.le_of_ble_eq_true rfl) (by decide) 0 0 rfl rfl rfl [0, 1] [] rfl (by decide +kernel) rfl rfl [0, 1] (by decide +kernel) (fun _ => rfl) (fun _ => rfl) rfl rfl rfl (fun _ => rfl) (fun _ => ?_)
      refine J_aload_n hK qd3_124.1 rfl 0 rfl rfl ?_
      refine J_iload_n hK qd3_124.2.1 rfl 1 rfl rfl ?_
      obtain ⟨v13, e14, hf⟩ := bs hf
      refine J_callV (m := 2) (m' := 2) (ce' := 0) (sl' := 0) (gr := [gridI d r0_line 20 7 x0_line]) (gs' := fun _ => [gMd d h0 a0_kept a0_tried a0_chosen r0_rows r0_line r0_good r0_work x0_shelf x0_rowSort x0_rowSize x0_moved x0_shown x0_tape x0_tapeSize x0_refused x0_lines x0_changes x0_coins x0_goods x0_works x0_years x0_gone x0_spent x0_at x0_token x0_from x0_figures x0_fault x0_numbers x0_statements g8 g10 g11 x0_way x0_steps x0_met x0_queue x0_totals, gridI d r0_line 20 7 x0_line]) (st' := fun _ => [.int v13]) (st := []) hK qd3_124.2.2.1 cv_RX7_270 iv_yX7_least (As := [.int p1]) (kX7_least _ d h0 r0_rows r0_line r0_good r0_work a0_kept a0_tried a0_chosen n x0_shelf x0_rowSort x0_rowSize x0_rows x0_moved x0_shown x0_tape x0_tapeSize x0_refused x0_lines x0_line x0_changes x0_coins x0_goods x0_good x0_works x0_work x0_years x0_gone x0_spent x0_at x0_token x0_from x0_figures x0_fault x0_numbers x0_statements g8 g10 g11 x0_way x0_steps x0_met x0_queue x0_totals p1 e14) rfl rfl (Nat.le_of_ble_eq_true rfl) (by decide) 0 0 rfl rfl rfl [0] [1] rfl (by decide +kernel) rfl rfl [1, 0] (by decide +kernel) (fun _ => rfl) (fun _ => rfl) rfl rfl rfl (fun _ => rfl) (fun _ => ?_)
      refine J_ldc (v := 1000000000) hK qd3_124.2.2.2.1 rfl wk_RX7_254 ?_
      refine J_icmp_lt (tg := 50) hK qd3_124.2.2.2.2.1 rfl rfl (fun hc38 => ?_) (fun hc38 => ?_)
      · have hf := ip hc38 hf
        refine J_aload_n hK qd3_124.2.2.2.2.2.2.2.2.2.1 rfl 0 rfl rfl ?_
        refine J_iload_n hK qd3_124.2.2.2.2.2.2.2.2.2.2.1 rfl 1 rfl rfl ?_
        obtain ⟨v15, e16, hf⟩ := bs hf
        refine J_callV (m := 2) (m' := 2) (ce' := 0) (sl' := 0) (gr := [gridI d r0_line 20 7 x0_line]) (gs' := fun _ => [gMd d h0 a0_kept a0_tried a0_chosen r0_rows r0_line r0_good r0_work x0_shelf x0_rowSort x0_rowSize x0_moved x0_shown x0_tape x0_tapeSize x0_refused x0_lines x0_changes x0_coins x0_goods x0_works x0_years x0_gone x0_spent x0_at x0_token x0_from x0_figures x0_fault x0_numbers x0_statements g8 g10 g11 x0_way x0_steps x0_met x0_queue x0_totals, gridI d r0_line 20 7 x0_line]) (st' := fun _ => [.int v15]) (st := []) hK qd3_124.2.2.2.2.2.2.2.2.2.2.2.1 cv_RX7_270 iv_yX7_least (As := [.int p1]) (kX7_least _ d h0 r0_rows r0_line r0_good r0_work a0_kept a0_tried a0_chosen n x0_shelf x0_rowSort x0_rowSize x0_rows x0_moved x0_shown x0_tape x0_tapeSize x0_refused x0_lines x0_line x0_changes x0_coins x0_goods x0_good x0_works x0_work x0_years x0_gone x0_spent x0_at x0_token x0_from x0_figures x0_fault x0_numbers x0_statements g8 g10 g11 x0_way x0_steps x0_met x0_queue x0_totals p1 e16) rfl rfl (Nat.le_of_ble_eq_true rfl) (by decide) 0 0 rfl rfl rfl [0] [1] rfl (by decide +kernel) rfl rfl [1, 0] (by decide +kernel) (fun _ => rfl) (fun _ => rfl) rfl rfl rfl (fun _ => rfl) (fun _ => ?_)
        obtain rfl := Option.some.inj hf
        exact J_iret hK hR qd3_124.2.2.2.2.2.2.2.2.2.2.2.2.1 () rfl (by decide) (by decide)
      · have hf := iq hc38 hf
        refine J_aload_n hK qd3_124.2.2.2.2.2.1 rfl 0 rfl rfl ?_
        refine J_bipush (v := (-5)) hK qd3_124.2.2.2.2.2.2.1 rfl (by decide) ?_
        obtain ⟨⟨v17, g18⟩, e19, hf⟩ := bs hf
        have hf := un2 hf
        refine J_callV (m := 2) (m' := 2) (ce' := 0) (sl' := 0) (gr := [gridI d r0_line 20 7 x0_line]) (gs' := fun _ => [gMd d h0 a0_kept a0_tried a0_chosen r0_rows r0_line r0_good r0_work x0_shelf x0_rowSort x0_rowSize x0_moved x0_shown x0_tape x0_tapeSize g18 x0_lines x0_changes x0_coins x0_goods x0_works x0_years x0_gone x0_spent x0_at x0_token x0_from x0_figures x0_fault x0_numbers x0_statements g8 g10 g11 x0_way x0_steps x0_met x0_queue x0_totals, gridI d r0_line 20 7 x0_line]) (st' := fun _ => [.int v17]) (st := []) hK qd3_124.2.2.2.2.2.2.2.1 cv_RX7_94 iv_yX7_refuse (As := [.int (-5)]) (kX7_refuse _ d h0 r0_rows r0_line r0_good r0_work a0_kept a0_tried a0_chosen x0_shelf x0_rowSort x0_rowSize x0_rows x0_moved x0_shown x0_tape x0_tapeSize x0_refused x0_lines x0_line x0_changes x0_coins x0_goods x0_good x0_works x0_work x0_years x0_gone x0_spent x0_at x0_token x0_from x0_figures x0_fault x0_numbers x0_statements g8 g10 g11 x0_way x0_steps x0_met x0_queue x0_totals (-5) e19) rfl rfl (Nat.le_of_ble_eq_true rfl) (by decide) 0 0 rfl rfl rfl [0] [1] rfl (by decide +kernel) rfl rfl [1, 0] (by decide +kernel) (fun _ => rfl) (fun _ => rfl) rfl rfl rfl (fun _ => rfl) (fun _ => ?_)
        refine J_goto hK qd3_124.2.2.2.2.2.2.2.2.1 (n := 55) rfl ?_
        obtain rfl := Option.some.inj hf
        exact J_iret hK hR qd3_124.2.2.2.2.2.2.2.2.2.2.2.2.1 () rfl (by decide) (by decide)
    · have hf := ip hc11 hf
      refine J_aload_n hK qd3_123.2.2.2.2.2.2.1 rfl 0 rfl rfl ?_
      refine J_bipush (v := (-2)) hK qd3_123.2.2.2.2.2.2.2.1 rfl (by decide) ?_
      obtain ⟨⟨v20, g21⟩, e22, hf⟩ := bs hf
      have hf := un2 hf
      refine J_callV (m := 2) (m' := 2) (ce' := 0) (sl' := 0) (gr := [gridI d r0_line 20 7 x0_line]) (gs' := fun _ => [gMd d h0 a0_kept a0_tried a0_chosen r0_rows r0_line r0_good r0_work x0_shelf x0_rowSort x0_rowSize x0_moved x0_shown x0_tape x0_tapeSize g21 x0_lines x0_changes x0_coins x0_goods x0_works x0_years x0_gone x0_spent x0_at x0_token x0_from x0_figures x0_fault x0_numbers x0_statements x0_left x0_far x0_tons x0_way x0_steps x0_met x0_queue x0_totals, gridI d r0_line 20 7 x0_line]) (st' := fun _ => [.int v20]) (st := []) hK qd3_123.2.2.2.2.2.2.2.2.1 cv_RX7_94 iv_yX7_refuse (As := [.int (-2)]) (kX7_refuse _ d h0 r0_rows r0_line r0_good r0_work a0_kept a0_tried a0_chosen x0_shelf x0_rowSort x0_rowSize x0_rows x0_moved x0_shown x0_tape x0_tapeSize x0_refused x0_lines x0_line x0_changes x0_coins x0_goods x0_good x0_works x0_work x0_years x0_gone x0_spent x0_at x0_token x0_from x0_figures x0_fault x0_numbers x0_statements x0_left x0_far x0_tons x0_way x0_steps x0_met x0_queue x0_totals (-2) e22) rfl rfl (Nat.le_of_ble_eq_true rfl) (by decide) 0 0 rfl rfl rfl [0] [1] rfl (by decide +kernel) rfl rfl [1, 0] (by decide +kernel) (fun _ => rfl) (fun _ => rfl) rfl rfl rfl (fun _ => rfl) (fun _ => ?_)
      obtain rfl := Option.some.inj hf
      exact J_iret hK hR qd3_123.2.2.2.2.2.2.2.2.2.1 () rfl (by decide) (by decide)

def fX7_findGoods (n : Nat) (X0 : MdT) (p1 : Int32) : Option (Int32 × ((Nat → Int32) × (Nat → Int32) × Int32 × (Nat → Int32) × Int32 × Int64 × (Nat → Int32))) :=
  u35 (fun (x0_shelf : (Nat → Int32)) (x0_rowSort : (Nat → Int32)) (x0_rowSize : (Nat → Int32)) (x0_rows : (Nat → Nat → Int64)) (x0_moved : (Nat → Int64)) (x0_shown : (Nat → Int32)) (x0_tape : (Nat → Int32)) (x0_tapeSize : Int32) (x0_refused : (Nat → Int32)) (x0_lines : Int32) (x0_line : (Nat → Nat → Int32)) (x0_changes : (Nat → Int32)) (x0_coins : (Nat → Int32)) (x0_goods : Int32) (x0_good : (Nat → Nat → Int32)) (x0_works : Int32) (x0_work : (Nat → Nat → Int32)) (x0_years : Int32) (x0_gone : Int32) (x0_spent : Int32) (x0_at : Int32) (x0_token : Int32) (x0_from : Int32) (x0_figures : Int64) (x0_fault : Int32) (x0_numbers : (Nat → Int32)) (x0_statements : Int32) (x0_left : (Nat → Int32)) (x0_far : (Nat → Int32)) (x0_tons : Int32) (x0_way : (Nat → Int32)) (x0_steps : Int32) (x0_met : Int64) (x0_queue : (Nat → Int32)) (x0_totals : (Nat → Int32)) => (fX7_refill n (x0_shelf, x0_rowSort, x0_rowSize, x0_rows, x0_moved, x0_shown, x0_tape, x0_tapeSize, x0_refused, x0_lines, x0_line, x0_changes, x0_coins, x0_goods, x0_good, x0_works, x0_work, x0_years, x0_gone, x0_spent, x0_at, x0_token, x0_from, x0_figures, x0_fault, x0_numbers, x0_statements, x0_left, x0_far, x0_tons, x0_way, x0_steps, x0_met, x0_queue, x0_totals)).bind (fun g1 => (ck p1 8).bind fun q3 => (rd 3 (x0_good q3) (0)).bind fun v4 => (ck p1 8).bind fun q5 => (rd 3 (x0_good q5) (1)).bind fun v6 => (fX7_findWay n (x0_shelf, x0_rowSort, x0_rowSize, x0_rows, x0_moved, x0_shown, x0_tape, x0_tapeSize, x0_refused, x0_lines, x0_line, x0_changes, x0_coins, x0_goods, x0_good, x0_works, x0_work, x0_years, x0_gone, x0_spent, x0_at, x0_token, x0_from, x0_figures, x0_fault, x0_numbers, x0_statements, g1, x0_far, x0_tons, x0_way, x0_steps, x0_met, x0_queue, x0_totals) v4 v6 (0)).bind (u2 fun v7 G8 => u6 (fun g9 g10 g11 g12 g13 g14 => (zb v7).bind fun v16 => some (v16, (g1, g9, g10, g11, g12, g13, g14))) G8))) X0
set_option maxHeartbeats 4000000 in
set_option maxRecDepth 100000 in
theorem kX7_findGoods (l : Launch) (d : DT) (h0 : Nat → Nat) (r0_rows : Nat → Nat) (r0_line : Nat → Nat) (r0_good : Nat → Nat) (r0_work : Nat → Nat) (a0_kept : Option Nat) (a0_tried : Option Nat) (a0_chosen : Option Nat) (n : Nat) (x0_shelf : (Nat → Int32)) (x0_rowSort : (Nat → Int32)) (x0_rowSize : (Nat → Int32)) (x0_rows : (Nat → Nat → Int64)) (x0_moved : (Nat → Int64)) (x0_shown : (Nat → Int32)) (x0_tape : (Nat → Int32)) (x0_tapeSize : Int32) (x0_refused : (Nat → Int32)) (x0_lines : Int32) (x0_line : (Nat → Nat → Int32)) (x0_changes : (Nat → Int32)) (x0_coins : (Nat → Int32)) (x0_goods : Int32) (x0_good : (Nat → Nat → Int32)) (x0_works : Int32) (x0_work : (Nat → Nat → Int32)) (x0_years : Int32) (x0_gone : Int32) (x0_spent : Int32) (x0_at : Int32) (x0_token : Int32) (x0_from : Int32) (x0_figures : Int64) (x0_fault : Int32) (x0_numbers : (Nat → Int32)) (x0_statements : Int32) (x0_left : (Nat → Int32)) (x0_far : (Nat → Int32)) (x0_tons : Int32) (x0_way : (Nat → Int32)) (x0_steps : Int32) (x0_met : Int64) (x0_queue : (Nat → Int32)) (x0_totals : (Nat → Int32)) (p1 : Int32)  {out : Int32 × ((Nat → Int32) × (Nat → Int32) × Int32 × (Nat → Int32) × Int32 × Int64 × (Nat → Int32))} (hf : fX7_findGoods n (x0_shelf, x0_rowSort, x0_rowSize, x0_rows, x0_moved, x0_shown, x0_tape, x0_tapeSize, x0_refused, x0_lines, x0_line, x0_changes, x0_coins, x0_goods, x0_good, x0_works, x0_work, x0_years, x0_gone, x0_spent, x0_at, x0_token, x0_from, x0_figures, x0_fault, x0_numbers, x0_statements, x0_left, x0_far, x0_tons, x0_way, x0_steps, x0_met, x0_queue, x0_totals) p1 = some out) : Ct l d yX7_findGoods cX7_findGoods 2 (some .boolean) { frames := 4, cells := 0, slots := 0, locals := 102 } [.ref (h0 0), .int p1] [gMd d h0 a0_kept a0_tried a0_chosen r0_rows r0_line r0_good r0_work x0_shelf x0_rowSort x0_rowSize x0_moved x0_shown x0_tape x0_tapeSize x0_refused x0_lines x0_changes x0_coins x0_goods x0_works x0_years x0_gone x0_spent x0_at x0_token x0_from x0_figures x0_fault x0_numbers x0_statements x0_left x0_far x0_tons x0_way x0_steps x0_met x0_queue x0_totals, gridI d r0_line 20 7 x0_line, gridI d r0_good 8 3 x0_good] (fun _ : Unit => (some (.int out.1), [gMd d h0 a0_kept a0_tried a0_chosen r0_rows r0_line r0_good r0_work x0_shelf x0_rowSort x0_rowSize x0_moved x0_shown x0_tape x0_tapeSize x0_refused x0_lines x0_changes x0_coins x0_goods x0_works x0_years x0_gone x0_spent x0_at x0_token x0_from x0_figures x0_fault x0_numbers x0_statements (out.2.1) (out.2.2.1) (out.2.2.2.1) (out.2.2.2.2.1) (out.2.2.2.2.2.1) (out.2.2.2.2.2.2.1) (out.2.2.2.2.2.2.2) x0_totals, gridI d r0_line 20 7 x0_line, gridI d r0_good 8 3 x0_good])) := by
  refine Ct.of (by decide) (Nat.le_of_ble_eq_true rfl) ?_
  intro Φ hl hK hR
  subst hl
  have hK : Ok d Φ RX7 "findGoods" cX7_findGoods 2 (some .boolean) { frames := 4, cells := 0, slots := 0, locals := 102 } := hK
  unfold fX7_findGoods at hf
  have hf := un35 hf
  show J d Φ 2 [gMd d h0 a0_kept a0_tried a0_chosen r0_rows r0_line r0_good r0_work x0_shelf x0_rowSort x0_rowSize x0_moved x0_shown x0_tape x0_tapeSize x0_refused x0_lines x0_changes x0_coins x0_goods x0_works x0_years x0_gone x0_spent x0_at x0_token x0_from x0_figures x0_fault x0_numbers x0_statements x0_left x0_far x0_tons x0_way x0_steps x0_met x0_queue x0_totals, gridI d r0_line 20 7 x0_line, gridI d r0_good 8 3 x0_good] 0 0 0 [(0, .ref (h0 0)), (1, .int p1)] []
  refine J_aload_n hK qd3_125.1 rfl 0 rfl rfl ?_
  obtain ⟨g1, e2, hf⟩ := bs hf
  refine J_callV (m := 3) (m' := 3) (ce' := 0) (sl' := 0) (gr := [gridI d r0_good 8 3 x0_good]) (gs' := fun _ => [gMd d h0 a0_kept a0_tried a0_chosen r0_rows r0_line r0_good r0_work x0_shelf x0_rowSort x0_rowSize x0_moved x0_shown x0_tape x0_tapeSize x0_refused x0_lines x0_changes x0_coins x0_goods x0_works x0_years x0_gone x0_spent x0_at x0_token x0_from x0_figures x0_fault x0_numbers x0_statements g1 x0_far x0_tons x0_way x0_steps x0_met x0_queue x0_totals, gridI d r0_line 20 7 x0_line, gridI d r0_good 8 3 x0_good]) (st' := fun _ => []) (st := []) hK qd3_125.2.1 cv_RX7_276 iv_yX7_refill (As := []) (kX7_refill _ d h0 r0_rows r0_line r0_good r0_work a0_kept a0_tried a0_chosen n x0_shelf x0_rowSort x0_rowSize x0_rows x0_moved x0_shown x0_tape x0_tapeSize x0_refused x0_lines x0_line x0_changes x0_coins x0_goods x0_good x0_works x0_work x0_years x0_gone x0_spent x0_at x0_token x0_from x0_figures x0_fault x0_numbers x0_statements x0_left x0_far x0_tons x0_way x0_steps x0_met x0_queue x0_totals e2) rfl rfl (Nat.le_of_ble_eq_true rfl) (by decide) 0 0 rfl rfl rfl [0, 1] [2] rfl (by decide +kernel) rfl rfl [1, 2, 0] (by decide +kernel) (fun _ => rfl) (fun _ => rfl) rfl rfl rfl (fun _ => rfl) (fun _ => ?_)
  refine J_aload_n hK qd3_125.2.2.1 rfl 0 rfl rfl ?_
  refine J_aload_n hK qd3_125.2.2.2.1 rfl 0 rfl rfl ?_
  refine J_get hK fo_RX7_48 qd3_125.2.2.2.2.1 rfl 0 0 rfl rfl rfl ?_
  refine J_iload_n hK qd3_125.2.2.2.2.2.1 rfl 1 rfl rfl ?_
  obtain ⟨q3, eq3, hf⟩ := bs hf
  refine J_aald hK qd3_125.2.2.2.2.2.2.1 rfl 0 12 rfl rfl rfl eq3 ?_
  refine J_iconst (v := 0) hK qd3_125.2.2.2.2.2.2.2.1 rfl (by decide) ?_
  obtain ⟨v4, ev4, hf⟩ := bs hf
  refine J_iald hK qd3_125.2.2.2.2.2.2.2.2.1 rfl 2 q3 rfl (gridI_at (ck_ok eq3).2.2) ev4 ?_
  refine J_aload_n hK qd3_125.2.2.2.2.2.2.2.2.2.1 rfl 0 rfl rfl ?_
  refine J_get hK fo_RX7_48 qd3_125.2.2.2.2.2.2.2.2.2.2.1 rfl 0 0 rfl rfl rfl ?_
  refine J_iload_n hK qd3_125.2.2.2.2.2.2.2.2.2.2.2.1 rfl 1 rfl rfl ?_
  obtain ⟨q5, eq5, hf⟩ := bs hf
  refine J_aald hK qd3_125.2.2.2.2.2.2.2.2.2.2.2.2.1 rfl 0 12 rfl rfl rfl eq5 ?_
  refine J_iconst (v := 1) hK qd3_125.2.2.2.2.2.2.2.2.2.2.2.2.2.1 rfl (by decide) ?_
  obtain ⟨v6, ev6, hf⟩ := bs hf
  refine J_iald hK qd3_125.2.2.2.2.2.2.2.2.2.2.2.2.2.2.1 rfl 2 q5 rfl (gridI_at (ck_ok eq5).2.2) ev6 ?_
  refine J_iconst (v := 0) hK qd3_125.2.2.2.2.2.2.2.2.2.2.2.2.2.2.2.1 rfl (by decide) ?_
  obtain ⟨⟨v7, ⟨g9, g10, g11, g12, g13, g14⟩⟩, e15, hf⟩ := bs hf
  have hf := un2 hf
  have hf := un6 hf
  refine J_callV (m := 3) (m' := 3) (ce' := 0) (sl' := 0) (gr := [gridI d r0_good 8 3 x0_good]) (gs' := fun _ => [gMd d h0 a0_kept a0_tried a0_chosen r0_rows r0_line r0_good r0_work x0_shelf x0_rowSort x0_rowSize x0_moved x0_shown x0_tape x0_tapeSize x0_refused x0_lines x0_changes x0_coins x0_goods x0_works x0_years x0_gone x0_spent x0_at x0_token x0_from x0_figures x0_fault x0_numbers x0_statements g1 g9 g10 g11 g12 g13 g14 x0_totals, gridI d r0_line 20 7 x0_line, gridI d r0_good 8 3 x0_good]) (st' := fun _ => [.int v7]) (st := []) hK qd3_126.1 cv_RX7_279 iv_yX7_findWay (As := [.int v4, .int v6, .int (0)]) (kX7_findWay _ d h0 r0_rows r0_line r0_good r0_work a0_kept a0_tried a0_chosen n x0_shelf x0_rowSort x0_rowSize x0_rows x0_moved x0_shown x0_tape x0_tapeSize x0_refused x0_lines x0_line x0_changes x0_coins x0_goods x0_good x0_works x0_work x0_years x0_gone x0_spent x0_at x0_token x0_from x0_figures x0_fault x0_numbers x0_statements g1 x0_far x0_tons x0_way x0_steps x0_met x0_queue x0_totals v4 v6 (0) e15) rfl rfl (Nat.le_of_ble_eq_true rfl) (by decide) 0 0 rfl rfl rfl [0, 1] [2] rfl (by decide +kernel) rfl rfl [1, 2, 0] (by decide +kernel) (fun _ => rfl) (fun _ => rfl) rfl rfl rfl (fun _ => rfl) (fun _ => ?_)
  obtain ⟨v16, ev16, hf⟩ := bs hf
  obtain rfl := Option.some.inj hf
  exact J_zret hK hR qd3_126.2.1 () (zb_ok ev16).2 (by rw [(zb_ok ev16).1]) (by decide) (by decide)

def fX7_way_j150 (p2 : Int32) (x0_shelf : (Nat → Int32)) (x0_rowSort : (Nat → Int32)) (x0_rowSize : (Nat → Int32)) (x0_rows : (Nat → Nat → Int64)) (x0_moved : (Nat → Int64)) (x0_shown : (Nat → Int32)) (x0_tape : (Nat → Int32)) (x0_tapeSize : Int32) (x0_refused : (Nat → Int32)) (x0_lines : Int32) (x0_line : (Nat → Nat → Int32)) (x0_changes : (Nat → Int32)) (x0_coins : (Nat → Int32)) (x0_goods : Int32) (x0_good : (Nat → Nat → Int32)) (x0_works : Int32) (x0_work : (Nat → Nat → Int32)) (x0_years : Int32) (x0_gone : Int32) (x0_spent : Int32) (x0_at : Int32) (x0_token : Int32) (x0_from : Int32) (x0_figures : Int64) (x0_fault : Int32) (x0_numbers : (Nat → Int32)) (x0_statements : Int32) (x0_totals : (Nat → Int32)) (v9 : Int32) (g11 : (Nat → Int32)) (g12 : (Nat → Int32)) (g13 : Int32) (g14 : (Nat → Int32)) (g15 : Int32) (g16 : Int64) (g17 : (Nat → Int32)) (w26 : Int32) (w27 : Int32) (w28 : Int32) : Option (Int32 × ((Nat → Int32) × (Nat → Int32) × (Nat → Int32) × Int32 × (Nat → Int32) × Int32 × Int64 × (Nat → Int32))) :=
  if v9 = 0 then ((fX7_refuse (x0_shelf, x0_rowSort, x0_rowSize, x0_rows, x0_moved, x0_shown, x0_tape, x0_tapeSize, x0_refused, x0_lines, x0_line, x0_changes, x0_coins, x0_goods, x0_good, x0_works, x0_work, x0_years, x0_gone, x0_spent, x0_at, x0_token, x0_from, x0_figures, x0_fault, x0_numbers, x0_statements, g11, g12, g13, g14, g15, g16, g17, x0_totals) (-5)).bind (u2 fun v30 g31 => some (v30, (g31, g11, g12, g13, g14, g15, g16, g17)))) else (if p2 = 0 then (some (w26, (x0_refused, g11, g12, g13, g14, g15, g16, g17))) else (if p2 = 1 then (some (((g15 - 1) - w26), (x0_refused, g11, g12, g13, g14, g15, g16, g17))) else (if p2 = 2 then ((rd 37 g14 (0)).bind fun v29 => some (v29, (x0_refused, g11, g12, g13, g14, g15, g16, g17))) else (if p2 = 3 then (some (w28, (x0_refused, g11, g12, g13, g14, g15, g16, g17))) else (some (w27, (x0_refused, g11, g12, g13, g14, g15, g16, g17)))))))
def fX7_way_s61 (p2 : Int32) (g14 : (Nat → Int32)) (g15 : Int32) (z21 : Int32) (z22 : Int32) (z23 : Int32) (z24 : Int32) : Option ((Int32 × Int32 × Int32 × Int32) ⊕ (Int32 × Int32 × Int32)) :=
  if g15 ≤ z24 then (some (.inr (z21, z22, z23))) else ((rd 37 g14 z24).bind fun v36 => if v36 < 3 then ((rd 37 g14 z24).bind fun v37 => some (.inl (z21, z22, v37, (z24 + 1)))) else (if z21 = (p2 - 10) then ((rd 37 g14 z24).bind fun v38 => some (.inl ((z21 + 1), (v38 - 3), z23, (z24 + 1)))) else (some (.inl ((z21 + 1), z22, z23, (z24 + 1))))))
def fX7_way_j38 (n : Nat) (p1 : Int32) (p2 : Int32) (x0_shelf : (Nat → Int32)) (x0_rowSort : (Nat → Int32)) (x0_rowSize : (Nat → Int32)) (x0_rows : (Nat → Nat → Int64)) (x0_moved : (Nat → Int64)) (x0_shown : (Nat → Int32)) (x0_tape : (Nat → Int32)) (x0_tapeSize : Int32) (x0_refused : (Nat → Int32)) (x0_lines : Int32) (x0_line : (Nat → Nat → Int32)) (x0_changes : (Nat → Int32)) (x0_coins : (Nat → Int32)) (x0_goods : Int32) (x0_good : (Nat → Nat → Int32)) (x0_works : Int32) (x0_work : (Nat → Nat → Int32)) (x0_years : Int32) (x0_gone : Int32) (x0_spent : Int32) (x0_at : Int32) (x0_token : Int32) (x0_from : Int32) (x0_figures : Int64) (x0_fault : Int32) (x0_numbers : (Nat → Int32)) (x0_statements : Int32) (x0_left : (Nat → Int32)) (x0_far : (Nat → Int32)) (x0_tons : Int32) (x0_way : (Nat → Int32)) (x0_steps : Int32) (x0_met : Int64) (x0_queue : (Nat → Int32)) (x0_totals : (Nat → Int32)) : Option (Int32 × ((Nat → Int32) × (Nat → Int32) × (Nat → Int32) × Int32 × (Nat → Int32) × Int32 × Int64 × (Nat → Int32))) :=
  (fX7_findGoods n (x0_shelf, x0_rowSort, x0_rowSize, x0_rows, x0_moved, x0_shown, x0_tape, x0_tapeSize, x0_refused, x0_lines, x0_line, x0_changes, x0_coins, x0_goods, x0_good, x0_works, x0_work, x0_years, x0_gone, x0_spent, x0_at, x0_token, x0_from, x0_figures, x0_fault, x0_numbers, x0_statements, x0_left, x0_far, x0_tons, x0_way, x0_steps, x0_met, x0_queue, x0_totals) p1).bind (u2 fun v9 G10 => u7 (fun g11 g12 g13 g14 g15 g16 g17 => (rd 37 g14 (0)).bind fun v19 => (lp (u4 (fX7_way_s61 p2 g14 g15)) n (0, (-1), v19, 1)).bind (u3 fun w26 w27 w28 => if v9 = 0 then (fX7_way_j150 p2 x0_shelf x0_rowSort x0_rowSize x0_rows x0_moved x0_shown x0_tape x0_tapeSize x0_refused x0_lines x0_line x0_changes x0_coins x0_goods x0_good x0_works x0_work x0_years x0_gone x0_spent x0_at x0_token x0_from x0_figures x0_fault x0_numbers x0_statements x0_totals v9 g11 g12 g13 g14 g15 g16 g17 w26 w27 w28) else (if p2 < 10 then (fX7_way_j150 p2 x0_shelf x0_rowSort x0_rowSize x0_rows x0_moved x0_shown x0_tape x0_tapeSize x0_refused x0_lines x0_line x0_changes x0_coins x0_goods x0_good x0_works x0_work x0_years x0_gone x0_spent x0_at x0_token x0_from x0_figures x0_fault x0_numbers x0_statements x0_totals v9 g11 g12 g13 g14 g15 g16 g17 w26 w27 w28) else (if w27 = (-1) then ((fX7_refuse (x0_shelf, x0_rowSort, x0_rowSize, x0_rows, x0_moved, x0_shown, x0_tape, x0_tapeSize, x0_refused, x0_lines, x0_line, x0_changes, x0_coins, x0_goods, x0_good, x0_works, x0_work, x0_years, x0_gone, x0_spent, x0_at, x0_token, x0_from, x0_figures, x0_fault, x0_numbers, x0_statements, g11, g12, g13, g14, g15, g16, g17, x0_totals) (-2)).bind (u2 fun v33 g34 => some (v33, (g34, g11, g12, g13, g14, g15, g16, g17)))) else (fX7_way_j150 p2 x0_shelf x0_rowSort x0_rowSize x0_rows x0_moved x0_shown x0_tape x0_tapeSize x0_refused x0_lines x0_line x0_changes x0_coins x0_goods x0_good x0_works x0_work x0_years x0_gone x0_spent x0_at x0_token x0_from x0_figures x0_fault x0_numbers x0_statements x0_totals v9 g11 g12 g13 g14 g15 g16 g17 w26 w27 w28))))) G10)
def fX7_way (n : Nat) (X0 : MdT) (p1 : Int32) (p2 : Int32) : Option (Int32 × ((Nat → Int32) × (Nat → Int32) × (Nat → Int32) × Int32 × (Nat → Int32) × Int32 × Int64 × (Nat → Int32))) :=
  u35 (fun (x0_shelf : (Nat → Int32)) (x0_rowSort : (Nat → Int32)) (x0_rowSize : (Nat → Int32)) (x0_rows : (Nat → Nat → Int64)) (x0_moved : (Nat → Int64)) (x0_shown : (Nat → Int32)) (x0_tape : (Nat → Int32)) (x0_tapeSize : Int32) (x0_refused : (Nat → Int32)) (x0_lines : Int32) (x0_line : (Nat → Nat → Int32)) (x0_changes : (Nat → Int32)) (x0_coins : (Nat → Int32)) (x0_goods : Int32) (x0_good : (Nat → Nat → Int32)) (x0_works : Int32) (x0_work : (Nat → Nat → Int32)) (x0_years : Int32) (x0_gone : Int32) (x0_spent : Int32) (x0_at : Int32) (x0_token : Int32) (x0_from : Int32) (x0_figures : Int64) (x0_fault : Int32) (x0_numbers : (Nat → Int32)) (x0_statements : Int32) (x0_left : (Nat → Int32)) (x0_far : (Nat → Int32)) (x0_tons : Int32) (x0_way : (Nat → Int32)) (x0_steps : Int32) (x0_met : Int64) (x0_queue : (Nat → Int32)) (x0_totals : (Nat → Int32)) => (fX7_in ((p1).toInt64) (0 : Int64) (((x0_goods - 1)).toInt64)).bind (fun v1 => if v1 = 0 then ((fX7_refuse (x0_shelf, x0_rowSort, x0_rowSize, x0_rows, x0_moved, x0_shown, x0_tape, x0_tapeSize, x0_refused, x0_lines, x0_line, x0_changes, x0_coins, x0_goods, x0_good, x0_works, x0_work, x0_years, x0_gone, x0_spent, x0_at, x0_token, x0_from, x0_figures, x0_fault, x0_numbers, x0_statements, x0_left, x0_far, x0_tons, x0_way, x0_steps, x0_met, x0_queue, x0_totals) (-2)).bind (u2 fun v3 g4 => some (v3, (g4, x0_left, x0_far, x0_tons, x0_way, x0_steps, x0_met, x0_queue)))) else (if p2 < 0 then ((fX7_refuse (x0_shelf, x0_rowSort, x0_rowSize, x0_rows, x0_moved, x0_shown, x0_tape, x0_tapeSize, x0_refused, x0_lines, x0_line, x0_changes, x0_coins, x0_goods, x0_good, x0_works, x0_work, x0_years, x0_gone, x0_spent, x0_at, x0_token, x0_from, x0_figures, x0_fault, x0_numbers, x0_statements, x0_left, x0_far, x0_tons, x0_way, x0_steps, x0_met, x0_queue, x0_totals) (-2)).bind (u2 fun v6 g7 => some (v6, (g7, x0_left, x0_far, x0_tons, x0_way, x0_steps, x0_met, x0_queue)))) else (if p2 ≤ 3 then (fX7_way_j38 n p1 p2 x0_shelf x0_rowSort x0_rowSize x0_rows x0_moved x0_shown x0_tape x0_tapeSize x0_refused x0_lines x0_line x0_changes x0_coins x0_goods x0_good x0_works x0_work x0_years x0_gone x0_spent x0_at x0_token x0_from x0_figures x0_fault x0_numbers x0_statements x0_left x0_far x0_tons x0_way x0_steps x0_met x0_queue x0_totals) else (if 10 ≤ p2 then (fX7_way_j38 n p1 p2 x0_shelf x0_rowSort x0_rowSize x0_rows x0_moved x0_shown x0_tape x0_tapeSize x0_refused x0_lines x0_line x0_changes x0_coins x0_goods x0_good x0_works x0_work x0_years x0_gone x0_spent x0_at x0_token x0_from x0_figures x0_fault x0_numbers x0_statements x0_left x0_far x0_tons x0_way x0_steps x0_met x0_queue x0_totals) else ((fX7_refuse (x0_shelf, x0_rowSort, x0_rowSize, x0_rows, x0_moved, x0_shown, x0_tape, x0_tapeSize, x0_refused, x0_lines, x0_line, x0_changes, x0_coins, x0_goods, x0_good, x0_works, x0_work, x0_years, x0_gone, x0_spent, x0_at, x0_token, x0_from, x0_figures, x0_fault, x0_numbers, x0_statements, x0_left, x0_far, x0_tons, x0_way, x0_steps, x0_met, x0_queue, x0_totals) (-2)).bind (u2 fun v39 g40 => some (v39, (g40, x0_left, x0_far, x0_tons, x0_way, x0_steps, x0_met, x0_queue))))))))) X0
set_option maxHeartbeats 4000000 in
set_option maxRecDepth 100000 in
theorem kX7_way (l : Launch) (d : DT) (h0 : Nat → Nat) (r0_rows : Nat → Nat) (r0_line : Nat → Nat) (r0_good : Nat → Nat) (r0_work : Nat → Nat) (a0_kept : Option Nat) (a0_tried : Option Nat) (a0_chosen : Option Nat) (n : Nat) (x0_shelf : (Nat → Int32)) (x0_rowSort : (Nat → Int32)) (x0_rowSize : (Nat → Int32)) (x0_rows : (Nat → Nat → Int64)) (x0_moved : (Nat → Int64)) (x0_shown : (Nat → Int32)) (x0_tape : (Nat → Int32)) (x0_tapeSize : Int32) (x0_refused : (Nat → Int32)) (x0_lines : Int32) (x0_line : (Nat → Nat → Int32)) (x0_changes : (Nat → Int32)) (x0_coins : (Nat → Int32)) (x0_goods : Int32) (x0_good : (Nat → Nat → Int32)) (x0_works : Int32) (x0_work : (Nat → Nat → Int32)) (x0_years : Int32) (x0_gone : Int32) (x0_spent : Int32) (x0_at : Int32) (x0_token : Int32) (x0_from : Int32) (x0_figures : Int64) (x0_fault : Int32) (x0_numbers : (Nat → Int32)) (x0_statements : Int32) (x0_left : (Nat → Int32)) (x0_far : (Nat → Int32)) (x0_tons : Int32) (x0_way : (Nat → Int32)) (x0_steps : Int32) (x0_met : Int64) (x0_queue : (Nat → Int32)) (x0_totals : (Nat → Int32)) (p1 : Int32) (p2 : Int32)  {out : Int32 × ((Nat → Int32) × (Nat → Int32) × (Nat → Int32) × Int32 × (Nat → Int32) × Int32 × Int64 × (Nat → Int32))} (hf : fX7_way n (x0_shelf, x0_rowSort, x0_rowSize, x0_rows, x0_moved, x0_shown, x0_tape, x0_tapeSize, x0_refused, x0_lines, x0_line, x0_changes, x0_coins, x0_goods, x0_good, x0_works, x0_work, x0_years, x0_gone, x0_spent, x0_at, x0_token, x0_from, x0_figures, x0_fault, x0_numbers, x0_statements, x0_left, x0_far, x0_tons, x0_way, x0_steps, x0_met, x0_queue, x0_totals) p1 p2 = some out) : Ct l d yX7_way cX7_way 8 (some .int) { frames := 5, cells := 0, slots := 0, locals := 123 } [.ref (h0 0), .int p1, .int p2] [gMd d h0 a0_kept a0_tried a0_chosen r0_rows r0_line r0_good r0_work x0_shelf x0_rowSort x0_rowSize x0_moved x0_shown x0_tape x0_tapeSize x0_refused x0_lines x0_changes x0_coins x0_goods x0_works x0_years x0_gone x0_spent x0_at x0_token x0_from x0_figures x0_fault x0_numbers x0_statements x0_left x0_far x0_tons x0_way x0_steps x0_met x0_queue x0_totals, gridI d r0_line 20 7 x0_line, gridI d r0_good 8 3 x0_good] (fun _ : Unit => (some (.int out.1), [gMd d h0 a0_kept a0_tried a0_chosen r0_rows r0_line r0_good r0_work x0_shelf x0_rowSort x0_rowSize x0_moved x0_shown x0_tape x0_tapeSize (out.2.1) x0_lines x0_changes x0_coins x0_goods x0_works x0_years x0_gone x0_spent x0_at x0_token x0_from x0_figures x0_fault x0_numbers x0_statements (out.2.2.1) (out.2.2.2.1) (out.2.2.2.2.1) (out.2.2.2.2.2.1) (out.2.2.2.2.2.2.1) (out.2.2.2.2.2.2.2.1) (out.2.2.2.2.2.2.2.2) x0_totals, gridI d r0_line 20 7 x0_line, gridI d r0_good 8 3 x0_good])) := by
  refine Ct.of (by decide) (Nat.le_of_ble_eq_true rfl) ?_
  intro Φ hl hK hR
  subst hl
  have hK : Ok d Φ RX7 "way" cX7_way 8 (some .int) { frames := 5, cells := 0, slots := 0, locals := 123 } := hK
  unfold fX7_way at hf
  have hf := un35 hf
  show J d Φ 8 [gMd d h0 a0_kept a0_tried a0_chosen r0_rows r0_line r0_good r0_work x0_shelf x0_rowSort x0_rowSize x0_moved x0_shown x0_tape x0_tapeSize x0_refused x0_lines x0_changes x0_coins x0_goods x0_works x0_years x0_gone x0_spent x0_at x0_token x0_from x0_figures x0_fault x0_numbers x0_statements x0_left x0_far x0_tons x0_way x0_steps x0_met x0_queue x0_totals, gridI d r0_line 20 7 x0_line, gridI d r0_good 8 3 x0_good] 0 0 0 [(0, .ref (h0 0)), (1, .int p1), (2, .int p2)] []
  refine J_iload_n hK qd3_127.1 rfl 1 rfl rfl ?_
  refine J_i2l hK qd3_127.2.1 rfl ?_
  refine J_lconst (v := 0) hK qd3_127.2.2.1 rfl (by decide) ?_
  refine J_aload_n hK qd3_127.2.2.2.1 rfl 0 rfl rfl ?_
  refine J_get hK fo_RX7_125 qd3_127.2.2.2.2.1 rfl 0 0 rfl rfl rfl ?_
  refine J_iconst (v := 1) hK qd3_127.2.2.2.2.2.1 rfl (by decide) ?_
  refine J_isub hK qd3_127.2.2.2.2.2.2.1 rfl ?_
  refine J_i2l hK qd3_127.2.2.2.2.2.2.2.1 rfl ?_
  obtain ⟨v1, e2, hf⟩ := bs hf
  refine J_callS (m := 3) (m' := 3) (ce' := 0) (sl' := 0) (gr := [gMd d h0 a0_kept a0_tried a0_chosen r0_rows r0_line r0_good r0_work x0_shelf x0_rowSort x0_rowSize x0_moved x0_shown x0_tape x0_tapeSize x0_refused x0_lines x0_changes x0_coins x0_goods x0_works x0_years x0_gone x0_spent x0_at x0_token x0_from x0_figures x0_fault x0_numbers x0_statements x0_left x0_far x0_tons x0_way x0_steps x0_met x0_queue x0_totals, gridI d r0_line 20 7 x0_line, gridI d r0_good 8 3 x0_good]) (gs' := fun _ => [gMd d h0 a0_kept a0_tried a0_chosen r0_rows r0_line r0_good r0_work x0_shelf x0_rowSort x0_rowSize x0_moved x0_shown x0_tape x0_tapeSize x0_refused x0_lines x0_changes x0_coins x0_goods x0_works x0_years x0_gone x0_spent x0_at x0_token x0_from x0_figures x0_fault x0_numbers x0_statements x0_left x0_far x0_tons x0_way x0_steps x0_met x0_queue x0_totals, gridI d r0_line 20 7 x0_line, gridI d r0_good 8 3 x0_good]) (st' := fun _ => [.int v1]) (st := []) hK qd3_127.2.2.2.2.2.2.2.2.1 cv_RX7_78 ws_yX7_in (As := [.long ((p1).toInt64), .long (0 : Int64), .long (((x0_goods - 1)).toInt64)]) (kX7_in _ d ((p1).toInt64) (0 : Int64) (((x0_goods - 1)).toInt64) e2) rfl rfl (Nat.le_of_ble_eq_true rfl) (by decide) [] [0, 1, 2] rfl (by decide +kernel) rfl rfl [0, 1, 2] (by decide +kernel) (fun _ => rfl) (fun _ => rfl) rfl rfl rfl (fun _ => rfl) (fun _ => ?_)
  refine J_if_eq (tg := 31) hK qd3_127.2.2.2.2.2.2.2.2.2.1 rfl rfl (fun hc13 => ?_) (fun hc13 => ?_)
  · have hf := ip hc13 hf
    refine J_aload_n hK qd3_128.2.2.1 rfl 0 rfl rfl ?_
    refine J_bipush (v := (-2)) hK qd3_128.2.2.2.1 rfl (by decide) ?_
    obtain ⟨⟨v3, g4⟩, e5, hf⟩ := bs hf
    have hf := un2 hf
    refine J_callV (m := 3) (m' := 3) (ce' := 0) (sl' := 0) (gr := [gridI d r0_line 20 7 x0_line, gridI d r0_good 8 3 x0_good]) (gs' := fun _ => [gMd d h0 a0_kept a0_tried a0_chosen r0_rows r0_line r0_good r0_work x0_shelf x0_rowSort x0_rowSize x0_moved x0_shown x0_tape x0_tapeSize g4 x0_lines x0_changes x0_coins x0_goods x0_works x0_years x0_gone x0_spent x0_at x0_token x0_from x0_figures x0_fault x0_numbers x0_statements x0_left x0_far x0_tons x0_way x0_steps x0_met x0_queue x0_totals, gridI d r0_line 20 7 x0_line, gridI d r0_good 8 3 x0_good]) (st' := fun _ => [.int v3]) (st := []) hK qd3_128.2.2.2.2.1 cv_RX7_94 iv_yX7_refuse (As := [.int (-2)]) (kX7_refuse _ d h0 r0_rows r0_line r0_good r0_work a0_kept a0_tried a0_chosen x0_shelf x0_rowSort x0_rowSize x0_rows x0_moved x0_shown x0_tape x0_tapeSize x0_refused x0_lines x0_line x0_changes x0_coins x0_goods x0_good x0_works x0_work x0_years x0_gone x0_spent x0_at x0_token x0_from x0_figures x0_fault x0_numbers x0_statements x0_left x0_far x0_tons x0_way x0_steps x0_met x0_queue x0_totals (-2) e5) rfl rfl (Nat.le_of_ble_eq_true rfl) (by decide) 0 0 rfl rfl rfl [0] [1, 2] rfl (by decide +kernel) rfl rfl [2, 0, 1] (by decide +kernel) (fun _ => rfl) (fun _ => rfl) rfl rfl rfl (fun _ => rfl) (fun _ => ?_)
    obtain rfl := Option.some.inj hf
    exact J_iret hK hR qd3_128.2.2.2.2.2.1 () rfl (by decide) (by decide)
  · have hf := iq hc13 hf
    refine J_iload_n hK qd3_127.2.2.2.2.2.2.2.2.2.2.1 rfl 2 rfl rfl ?_
    refine J_if_lt (tg := 31) hK qd3_127.2.2.2.2.2.2.2.2.2.2.2.1 rfl rfl (fun hc17 => ?_) (fun hc17 => ?_)
    · have hf := ip hc17 hf
      refine J_aload_n hK qd3_128.2.2.1 rfl 0 rfl rfl ?_
      refine J_bipush (v := (-2)) hK qd3_128.2.2.2.1 rfl (by decide) ?_
      obtain ⟨⟨v6, g7⟩, e8, hf⟩ := bs hf
      have hf := un2 hf
      refine J_callV (m := 3) (m' := 3) (ce' := 0) (sl' := 0) (gr := [gridI d r0_line 20 7 x0_line, gridI d r0_good 8 3 x0_good]) (gs' := fun _ => [gMd d h0 a0_kept a0_tried a0_chosen r0_rows r0_line r0_good r0_work x0_shelf x0_rowSort x0_rowSize x0_moved x0_shown x0_tape x0_tapeSize g7 x0_lines x0_changes x0_coins x0_goods x0_works x0_years x0_gone x0_spent x0_at x0_token x0_from x0_figures x0_fault x0_numbers x0_statements x0_left x0_far x0_tons x0_way x0_steps x0_met x0_queue x0_totals, gridI d r0_line 20 7 x0_line, gridI d r0_good 8 3 x0_good]) (st' := fun _ => [.int v6]) (st := []) hK qd3_128.2.2.2.2.1 cv_RX7_94 iv_yX7_refuse (As := [.int (-2)]) (kX7_refuse _ d h0 r0_rows r0_line r0_good r0_work a0_kept a0_tried a0_chosen x0_shelf x0_rowSort x0_rowSize x0_rows x0_moved x0_shown x0_tape x0_tapeSize x0_refused x0_lines x0_line x0_changes x0_coins x0_goods x0_good x0_works x0_work x0_years x0_gone x0_spent x0_at x0_token x0_from x0_figures x0_fault x0_numbers x0_statements x0_left x0_far x0_tons x0_way x0_steps x0_met x0_queue x0_totals (-2) e8) rfl rfl (Nat.le_of_ble_eq_true rfl) (by decide) 0 0 rfl rfl rfl [0] [1, 2] rfl (by decide +kernel) rfl rfl [2, 0, 1] (by decide +kernel) (fun _ => rfl) (fun _ => rfl) rfl rfl rfl (fun _ => rfl) (fun _ => ?_)
      obtain rfl := Option.some.inj hf
      exact J_iret hK hR qd3_128.2.2.2.2.2.1 () rfl (by decide) (by decide)
    · have hf := iq hc17 hf
      refine J_iload_n hK qd3_127.2.2.2.2.2.2.2.2.2.2.2.2.1 rfl 2 rfl rfl ?_
      refine J_iconst (v := 3) hK qd3_127.2.2.2.2.2.2.2.2.2.2.2.2.2.1 rfl (by decide) ?_
      have j38 : fX7_way_j38 n p1 p2 x0_shelf x0_rowSort x0_rowSize x0_rows x0_moved x0_shown x0_tape x0_tapeSize x0_refused x0_lines x0_line x0_changes x0_coins x0_goods x0_good x0_works x0_work x0_years x0_gone x0_spent x0_at x0_token x0_from x0_figures x0_fault x0_numbers x0_statements x0_left x0_far x0_tons x0_way x0_steps x0_met x0_queue x0_totals = some out → J d Φ 8 [gMd d h0 a0_kept a0_tried a0_chosen r0_rows r0_line r0_good r0_work x0_shelf x0_rowSort x0_rowSize x0_moved x0_shown x0_tape x0_tapeSize x0_refused x0_lines x0_changes x0_coins x0_goods x0_works x0_years x0_gone x0_spent x0_at x0_token x0_from x0_figures x0_fault x0_numbers x0_statements x0_left x0_far x0_tons x0_way x0_steps x0_met x0_queue x0_totals, gridI d r0_line 20 7 x0_line, gridI d r0_good 8 3 x0_good] 0 0 38 [(0, .ref (h0 0)), (1, .int p1), (2, .int p2)] [] := by
        intro  hf
        unfold fX7_way_j38 at hf
        refine J_aload_n hK qd3_128.2.2.2.2.2.2.1 rfl 0 rfl rfl ?_
        refine J_iload_n hK qd3_128.2.2.2.2.2.2.2.1 rfl 1 rfl rfl ?_
        obtain ⟨⟨v9, ⟨g11, g12, g13, g14, g15, g16, g17⟩⟩, e18, hf⟩ := bs hf
        have hf := un2 hf
        have hf := un7 hf
        refine J_callV (m := 3) (m' := 3) (ce' := 0) (sl' := 0) (gr := []) (gs' := fun _ => [gMd d h0 a0_kept a0_tried a0_chosen r0_rows r0_line r0_good r0_work x0_shelf x0_rowSort x0_rowSize x0_moved x0_shown x0_tape x0_tapeSize x0_refused x0_lines x0_changes x0_coins x0_goods x0_works x0_years x0_gone x0_spent x0_at x0_token x0_from x0_figures x0_fault x0_numbers x0_statements g11 g12 g13 g14 g15 g16 g17 x0_totals, gridI d r0_line 20 7 x0_line, gridI d r0_good 8 3 x0_good]) (st' := fun _ => [.int v9]) (st := []) hK qd3_128.2.2.2.2.2.2.2.2.1 cv_RX7_282 iv_yX7_findGoods (As := [.int p1]) (kX7_findGoods _ d h0 r0_rows r0_line r0_good r0_work a0_kept a0_tried a0_chosen n x0_shelf x0_rowSort x0_rowSize x0_rows x0_moved x0_shown x0_tape x0_tapeSize x0_refused x0_lines x0_line x0_changes x0_coins x0_goods x0_good x0_works x0_work x0_years x0_gone x0_spent x0_at x0_token x0_from x0_figures x0_fault x0_numbers x0_statements x0_left x0_far x0_tons x0_way x0_steps x0_met x0_queue x0_totals p1 e18) rfl rfl (Nat.le_of_ble_eq_true rfl) (by decide) 0 0 rfl rfl rfl [0, 1, 2] [] rfl (by decide +kernel) rfl rfl [0, 1, 2] (by decide +kernel) (fun _ => rfl) (fun _ => rfl) rfl rfl rfl (fun _ => rfl) (fun _ => ?_)
        refine J_istore_n (L' := [(3, .int v9), (0, .ref (h0 0)), (1, .int p1), (2, .int p2)]) hK qd3_128.2.2.2.2.2.2.2.2.2.1 rfl rfl (by decide) rfl ?_
        refine J_iconst (v := 0) hK qd3_128.2.2.2.2.2.2.2.2.2.2.1 rfl (by decide) ?_
        refine J_istore (L' := [(4, .int (0)), (3, .int v9), (0, .ref (h0 0)), (1, .int p1), (2, .int p2)]) hK qd3_128.2.2.2.2.2.2.2.2.2.2.2.1 rfl (by decide) rfl ?_
        refine J_iconst (v := (-1)) hK qd3_128.2.2.2.2.2.2.2.2.2.2.2.2.1 rfl (by decide) ?_
        refine J_istore (L' := [(5, .int (-1)), (4, .int (0)), (3, .int v9), (0, .ref (h0 0)), (1, .int p1), (2, .int p2)]) hK qd3_128.2.2.2.2.2.2.2.2.2.2.2.2.2.1 rfl (by decide) rfl ?_
        refine J_aload_n hK qd3_128.2.2.2.2.2.2.2.2.2.2.2.2.2.2.1 rfl 3 rfl rfl ?_
        refine J_get hK fo_RX7_67 qd3_128.2.2.2.2.2.2.2.2.2.2.2.2.2.2.2.1 rfl 0 0 rfl rfl rfl ?_
        refine J_iconst (v := 0) hK qd3_129.1 rfl (by decide) ?_
        obtain ⟨v19, ev19, hf⟩ := bs hf
        refine J_iald hK qd3_129.2.1 rfl 0 17 rfl rfl ev19 ?_
        refine J_istore (L' := [(6, .int v19), (5, .int (-1)), (4, .int (0)), (3, .int v9), (0, .ref (h0 0)), (1, .int p1), (2, .int p2)]) hK qd3_129.2.2.1 rfl (by decide) rfl ?_
        refine J_iconst (v := 1) hK qd3_129.2.2.2.1 rfl (by decide) ?_
        refine J_istore (L' := [(7, .int (1)), (6, .int v19), (5, .int (-1)), (4, .int (0)), (3, .int v9), (0, .ref (h0 0)), (1, .int p1), (2, .int p2)]) hK qd3_129.2.2.2.2.1 rfl (by decide) rfl ?_
        obtain ⟨e25, hl20, hf⟩ := bs hf
        have hx20_127 : ∀ (w26 : Int32) (w27 : Int32) (w28 : Int32), (w26, w27, w28) = e25 → J d Φ 8 [gMd d h0 a0_kept a0_tried a0_chosen r0_rows r0_line r0_good r0_work x0_shelf x0_rowSort x0_rowSize x0_moved x0_shown x0_tape x0_tapeSize x0_refused x0_lines x0_changes x0_coins x0_goods x0_works x0_years x0_gone x0_spent x0_at x0_token x0_from x0_figures x0_fault x0_numbers x0_statements g11 g12 g13 g14 g15 g16 g17 x0_totals, gridI d r0_line 20 7 x0_line, gridI d r0_good 8 3 x0_good] 0 0 127 [(0, .ref (h0 0)), (2, .int p2), (3, .int v9), (4, .int w26), (5, .int w27), (6, .int w28)] [] := by
          intro w26 w27 w28 he
          rw [← he] at hf
          have hf := un3 hf
          refine J_iload_n hK qd3_131.2.2.2.2.2.2.1 rfl 2 rfl rfl ?_
          have j150 : fX7_way_j150 p2 x0_shelf x0_rowSort x0_rowSize x0_rows x0_moved x0_shown x0_tape x0_tapeSize x0_refused x0_lines x0_line x0_changes x0_coins x0_goods x0_good x0_works x0_work x0_years x0_gone x0_spent x0_at x0_token x0_from x0_figures x0_fault x0_numbers x0_statements x0_totals v9 g11 g12 g13 g14 g15 g16 g17 w26 w27 w28 = some out → J d Φ 8 [gMd d h0 a0_kept a0_tried a0_chosen r0_rows r0_line r0_good r0_work x0_shelf x0_rowSort x0_rowSize x0_moved x0_shown x0_tape x0_tapeSize x0_refused x0_lines x0_changes x0_coins x0_goods x0_works x0_years x0_gone x0_spent x0_at x0_token x0_from x0_figures x0_fault x0_numbers x0_statements g11 g12 g13 g14 g15 g16 g17 x0_totals, gridI d r0_line 20 7 x0_line, gridI d r0_good 8 3 x0_good] 0 0 150 [(0, .ref (h0 0)), (2, .int p2), (3, .int v9), (4, .int w26), (5, .int w27), (6, .int w28)] [] := by
            intro  hf
            unfold fX7_way_j150 at hf
            refine J_iload_n hK qd3_132.2.2.1 rfl 2 rfl rfl ?_
            refine J_if_ne (tg := 161) hK qd3_132.2.2.2.1 rfl rfl (fun hc151 => ?_) (fun hc151 => ?_)
            · have hf := iq hc151 hf
              refine J_iload_n hK qd3_132.2.2.2.2.2.2.2.2.1 rfl 1 rfl rfl ?_
              by_cases hc162_0 : p2 = 0
              · have hf := ip hc162_0 hf
                refine J_swI (tg := 192) hK dX7_way_162 (by rw [hc162_0]; decide) (by rw [hc162_0]; decide) (by rw [hc162_0]; rfl) rfl ?_
                refine J_iload hK qd3_133.1 rfl 3 rfl ?_
                obtain rfl := Option.some.inj hf
                exact J_iret hK hR qd3_133.2.1 () rfl (by decide) (by decide)
              have hf := iq hc162_0 hf
              by_cases hc162_1 : p2 = 1
              · have hf := ip hc162_1 hf
                refine J_swI (tg := 195) hK dX7_way_162 (by rw [hc162_1]; decide) (by rw [hc162_1]; decide) (by rw [hc162_1]; rfl) rfl ?_
                refine J_aload_n hK qd3_133.2.2.1 rfl 0 rfl rfl ?_
                refine J_get hK fo_RX7_267 qd3_133.2.2.2.1 rfl 0 0 rfl rfl rfl ?_
                refine J_iconst (v := 1) hK qd3_133.2.2.2.2.1 rfl (by decide) ?_
                refine J_isub hK qd3_133.2.2.2.2.2.1 rfl ?_
                refine J_iload hK qd3_133.2.2.2.2.2.2.1 rfl 3 rfl ?_
                refine J_isub hK qd3_133.2.2.2.2.2.2.2.1 rfl ?_
                obtain rfl := Option.some.inj hf
                exact J_iret hK hR qd3_133.2.2.2.2.2.2.2.2.1 () rfl (by decide) (by decide)
              have hf := iq hc162_1 hf
              by_cases hc162_2 : p2 = 2
              · have hf := ip hc162_2 hf
                refine J_swI (tg := 205) hK dX7_way_162 (by rw [hc162_2]; decide) (by rw [hc162_2]; decide) (by rw [hc162_2]; rfl) rfl ?_
                refine J_aload_n hK qd3_133.2.2.2.2.2.2.2.2.2.1 rfl 0 rfl rfl ?_
                refine J_get hK fo_RX7_67 qd3_133.2.2.2.2.2.2.2.2.2.2.1 rfl 0 0 rfl rfl rfl ?_
                refine J_iconst (v := 0) hK qd3_133.2.2.2.2.2.2.2.2.2.2.2.1 rfl (by decide) ?_
                obtain ⟨v29, ev29, hf⟩ := bs hf
                refine J_iald hK qd3_133.2.2.2.2.2.2.2.2.2.2.2.2.1 rfl 0 17 rfl rfl ev29 ?_
                obtain rfl := Option.some.inj hf
                exact J_iret hK hR qd3_133.2.2.2.2.2.2.2.2.2.2.2.2.2.1 () rfl (by decide) (by decide)
              have hf := iq hc162_2 hf
              by_cases hc162_3 : p2 = 3
              · have hf := ip hc162_3 hf
                refine J_swI (tg := 212) hK dX7_way_162 (by rw [hc162_3]; decide) (by rw [hc162_3]; decide) (by rw [hc162_3]; rfl) rfl ?_
                refine J_iload hK qd3_133.2.2.2.2.2.2.2.2.2.2.2.2.2.2.1 rfl 5 rfl ?_
                obtain rfl := Option.some.inj hf
                exact J_iret hK hR qd3_133.2.2.2.2.2.2.2.2.2.2.2.2.2.2.2.1 () rfl (by decide) (by decide)
              have hf := iq hc162_3 hf
              refine J_swO (tg := 215) hK dX7_way_162 (by have q0 : ¬ p2.toInt = 0 := fun h => hc162_0 (Int32.toInt_inj.mp (h.trans (by decide))); have q1 : ¬ p2.toInt = 1 := fun h => hc162_1 (Int32.toInt_inj.mp (h.trans (by decide))); have q2 : ¬ p2.toInt = 2 := fun h => hc162_2 (Int32.toInt_inj.mp (h.trans (by decide))); have q3 : ¬ p2.toInt = 3 := fun h => hc162_3 (Int32.toInt_inj.mp (h.trans (by decide))); omega) rfl ?_
              refine J_iload hK qd3_134.1 rfl 4 rfl ?_
              obtain rfl := Option.some.inj hf
              exact J_iret hK hR qd3_134.2.1 () rfl (by decide) (by decide)
            · have hf := ip hc151 hf
              refine J_aload_n hK qd3_132.2.2.2.2.1 rfl 0 rfl rfl ?_
              refine J_bipush (v := (-5)) hK qd3_132.2.2.2.2.2.1 rfl (by decide) ?_
              obtain ⟨⟨v30, g31⟩, e32, hf⟩ := bs hf
              have hf := un2 hf
              refine J_callV (m := 3) (m' := 3) (ce' := 0) (sl' := 0) (gr := [gridI d r0_line 20 7 x0_line, gridI d r0_good 8 3 x0_good]) (gs' := fun _ => [gMd d h0 a0_kept a0_tried a0_chosen r0_rows r0_line r0_good r0_work x0_shelf x0_rowSort x0_rowSize x0_moved x0_shown x0_tape x0_tapeSize g31 x0_lines x0_changes x0_coins x0_goods x0_works x0_years x0_gone x0_spent x0_at x0_token x0_from x0_figures x0_fault x0_numbers x0_statements g11 g12 g13 g14 g15 g16 g17 x0_totals, gridI d r0_line 20 7 x0_line, gridI d r0_good 8 3 x0_good]) (st' := fun _ => [.int v30]) (st := []) hK qd3_132.2.2.2.2.2.2.1 cv_RX7_94 iv_yX7_refuse (As := [.int (-5)]) (kX7_refuse _ d h0 r0_rows r0_line r0_good r0_work a0_kept a0_tried a0_chosen x0_shelf x0_rowSort x0_rowSize x0_rows x0_moved x0_shown x0_tape x0_tapeSize x0_refused x0_lines x0_line x0_changes x0_coins x0_goods x0_good x0_works x0_work x0_years x0_gone x0_spent x0_at x0_token x0_from x0_figures x0_fault x0_numbers x0_statements g11 g12 g13 g14 g15 g16 g17 x0_totals (-5) e32) rfl rfl (Nat.le_of_ble_eq_true rfl) (by decide) 0 0 rfl rfl rfl [0] [1, 2] rfl (by decide +kernel) rfl rfl [2, 0, 1] (by decide +kernel) (fun _ => rfl) (fun _ => rfl) rfl rfl rfl (fun _ => rfl) (fun _ => ?_)
              obtain rfl := Option.some.inj hf
              exact J_iret hK hR qd3_132.2.2.2.2.2.2.2.1 () rfl (by decide) (by decide)
          refine J_if_eq (tg := 150) hK qd3_131.2.2.2.2.2.2.2.1 rfl rfl (fun hc128 => ?_) (fun hc128 => ?_)
          · have hf := ip hc128 hf
            exact (j150  hf)
          · have hf := iq hc128 hf
            refine J_iload_n hK qd3_131.2.2.2.2.2.2.2.2.1 rfl 1 rfl rfl ?_
            refine J_bipush (v := 10) hK qd3_131.2.2.2.2.2.2.2.2.2.1 rfl (by decide) ?_
            refine J_icmp_lt (tg := 150) hK qd3_131.2.2.2.2.2.2.2.2.2.2.1 rfl rfl (fun hc134 => ?_) (fun hc134 => ?_)
            · have hf := ip hc134 hf
              exact (j150  hf)
            · have hf := iq hc134 hf
              refine J_iload hK qd3_131.2.2.2.2.2.2.2.2.2.2.2.1 rfl 4 rfl ?_
              refine J_iconst (v := (-1)) hK qd3_131.2.2.2.2.2.2.2.2.2.2.2.2.1 rfl (by decide) ?_
              refine J_icmp_ne (tg := 150) hK qd3_131.2.2.2.2.2.2.2.2.2.2.2.2.2.1 rfl rfl (fun hc140 => ?_) (fun hc140 => ?_)
              · have hf := iq hc140 hf
                exact (j150  hf)
              · have hf := ip hc140 hf
                refine J_aload_n hK qd3_131.2.2.2.2.2.2.2.2.2.2.2.2.2.2.1 rfl 0 rfl rfl ?_
                refine J_bipush (v := (-2)) hK qd3_131.2.2.2.2.2.2.2.2.2.2.2.2.2.2.2.1 rfl (by decide) ?_
                obtain ⟨⟨v33, g34⟩, e35, hf⟩ := bs hf
                have hf := un2 hf
                refine J_callV (m := 3) (m' := 3) (ce' := 0) (sl' := 0) (gr := [gridI d r0_line 20 7 x0_line, gridI d r0_good 8 3 x0_good]) (gs' := fun _ => [gMd d h0 a0_kept a0_tried a0_chosen r0_rows r0_line r0_good r0_work x0_shelf x0_rowSort x0_rowSize x0_moved x0_shown x0_tape x0_tapeSize g34 x0_lines x0_changes x0_coins x0_goods x0_works x0_years x0_gone x0_spent x0_at x0_token x0_from x0_figures x0_fault x0_numbers x0_statements g11 g12 g13 g14 g15 g16 g17 x0_totals, gridI d r0_line 20 7 x0_line, gridI d r0_good 8 3 x0_good]) (st' := fun _ => [.int v33]) (st := []) hK qd3_132.1 cv_RX7_94 iv_yX7_refuse (As := [.int (-2)]) (kX7_refuse _ d h0 r0_rows r0_line r0_good r0_work a0_kept a0_tried a0_chosen x0_shelf x0_rowSort x0_rowSize x0_rows x0_moved x0_shown x0_tape x0_tapeSize x0_refused x0_lines x0_line x0_changes x0_coins x0_goods x0_good x0_works x0_work x0_years x0_gone x0_spent x0_at x0_token x0_from x0_figures x0_fault x0_numbers x0_statements g11 g12 g13 g14 g15 g16 g17 x0_totals (-2) e35) rfl rfl (Nat.le_of_ble_eq_true rfl) (by decide) 0 0 rfl rfl rfl [0] [1, 2] rfl (by decide +kernel) rfl rfl [2, 0, 1] (by decide +kernel) (fun _ => rfl) (fun _ => rfl) rfl rfl rfl (fun _ => rfl) (fun _ => ?_)
                obtain rfl := Option.some.inj hf
                exact J_iret hK hR qd3_132.2.1 () rfl (by decide) (by decide)
        have lo20 : ∀ (k : Nat) (z21 : Int32) (z22 : Int32) (z23 : Int32) (z24 : Int32), lp (u4 (fX7_way_s61 p2 g14 g15)) k (z21, z22, z23, z24) = some e25 → J d Φ 8 [gMd d h0 a0_kept a0_tried a0_chosen r0_rows r0_line r0_good r0_work x0_shelf x0_rowSort x0_rowSize x0_moved x0_shown x0_tape x0_tapeSize x0_refused x0_lines x0_changes x0_coins x0_goods x0_works x0_years x0_gone x0_spent x0_at x0_token x0_from x0_figures x0_fault x0_numbers x0_statements g11 g12 g13 g14 g15 g16 g17 x0_totals, gridI d r0_line 20 7 x0_line, gridI d r0_good 8 3 x0_good] 0 0 61 [(0, .ref (h0 0)), (2, .int p2), (3, .int v9), (4, .int z21), (5, .int z22), (6, .int z23), (7, .int z24)] [] := by
          intro k
          induction k with
          | zero => intro z21 z22 z23 z24 h; cases h
          | succ k ih20 =>
            intro z21 z22 z23 z24 h
            obtain ⟨k2, rr20, hk2, hs20, hr20⟩ := lp_ok h
            cases hk2
            have hs20 : fX7_way_s61 p2 g14 g15 z21 z22 z23 z24 = some rr20 := hs20
            unfold fX7_way_s61 at hs20
            refine J_iload hK qd3_129.2.2.2.2.2.1 rfl 6 rfl ?_
            refine J_aload_n hK qd3_129.2.2.2.2.2.2.1 rfl 0 rfl rfl ?_
            refine J_get hK fo_RX7_267 qd3_129.2.2.2.2.2.2.2.1 rfl 0 0 rfl rfl rfl ?_
            refine J_icmp_ge (tg := 127) hK qd3_129.2.2.2.2.2.2.2.2.1 rfl rfl (fun hc67 => ?_) (fun hc67 => ?_)
            · have hs20 := ip hc67 hs20
              exact J_loc [0, 1, 2, 3, 4, 5] rfl (hx20_127 z21 z22 z23 (lpx hs20 hr20))
            · have hs20 := iq hc67 hs20
              refine J_aload_n hK qd3_129.2.2.2.2.2.2.2.2.2.1 rfl 0 rfl rfl ?_
              refine J_get hK fo_RX7_67 qd3_129.2.2.2.2.2.2.2.2.2.2.1 rfl 0 0 rfl rfl rfl ?_
              refine J_iload hK qd3_129.2.2.2.2.2.2.2.2.2.2.2.1 rfl 6 rfl ?_
              obtain ⟨v36, ev36, hs20⟩ := bs hs20
              refine J_iald hK qd3_129.2.2.2.2.2.2.2.2.2.2.2.2.1 rfl 0 17 rfl rfl ev36 ?_
              refine J_iconst (v := 3) hK qd3_129.2.2.2.2.2.2.2.2.2.2.2.2.2.1 rfl (by decide) ?_
              refine J_icmp_lt (tg := 112) hK qd3_129.2.2.2.2.2.2.2.2.2.2.2.2.2.2.1 rfl rfl (fun hc78 => ?_) (fun hc78 => ?_)
              · have hs20 := ip hc78 hs20
                refine J_aload_n hK qd3_130.2.2.2.2.2.2.2.2.2.2.2.2.2.2.2.1 rfl 0 rfl rfl ?_
                refine J_get hK fo_RX7_67 qd3_131.1 rfl 0 0 rfl rfl rfl ?_
                refine J_iload hK qd3_131.2.1 rfl 6 rfl ?_
                obtain ⟨v37, ev37, hs20⟩ := bs hs20
                refine J_iald hK qd3_131.2.2.1 rfl 0 17 rfl rfl ev37 ?_
                refine J_istore (L' := [(6, .int v37), (0, .ref (h0 0)), (2, .int p2), (3, .int v9), (4, .int z21), (5, .int z22), (7, .int z24)]) hK qd3_131.2.2.2.1 rfl (by decide) rfl ?_
                refine J_iinc (L' := [(7, .int (z24 + 1)), (6, .int v37), (0, .ref (h0 0)), (2, .int p2), (3, .int v9), (4, .int z21), (5, .int z22)]) (v := (z24 + 1)) hK qd3_131.2.2.2.2.1 rfl 6 rfl rfl (by decide) rfl ?_
                refine J_goto hK qd3_131.2.2.2.2.2.1 (n := 61) rfl ?_
                exact J_loc [2, 3, 4, 5, 6, 1, 0] rfl (ih20 z21 z22 v37 (z24 + 1) (lpc hs20 hr20))
              · have hs20 := iq hc78 hs20
                refine J_iload hK qd3_129.2.2.2.2.2.2.2.2.2.2.2.2.2.2.2.1 rfl 3 rfl ?_
                refine J_iload_n hK qd3_130.1 rfl 1 rfl rfl ?_
                refine J_bipush (v := 10) hK qd3_130.2.1 rfl (by decide) ?_
                refine J_isub hK qd3_130.2.2.1 rfl ?_
                refine J_icmp_ne (tg := 102) hK qd3_130.2.2.2.1 rfl rfl (fun hc87 => ?_) (fun hc87 => ?_)
                · have hs20 := iq hc87 hs20
                  refine J_iload hK qd3_130.2.2.2.2.2.2.2.2.2.2.2.1 rfl 4 rfl ?_
                  refine J_istore (L' := [(5, .int z22), (0, .ref (h0 0)), (2, .int p2), (3, .int v9), (4, .int z21), (6, .int z23), (7, .int z24)]) hK qd3_130.2.2.2.2.2.2.2.2.2.2.2.2.1 rfl (by decide) rfl ?_
                  refine J_iinc (L' := [(4, .int (z21 + 1)), (5, .int z22), (0, .ref (h0 0)), (2, .int p2), (3, .int v9), (6, .int z23), (7, .int z24)]) (v := (z21 + 1)) hK qd3_130.2.2.2.2.2.2.2.2.2.2.2.2.2.1 rfl 4 rfl rfl (by decide) rfl ?_
                  refine J_goto hK qd3_130.2.2.2.2.2.2.2.2.2.2.2.2.2.2.1 (n := 121) rfl ?_
                  refine J_iinc (L' := [(7, .int (z24 + 1)), (4, .int (z21 + 1)), (5, .int z22), (0, .ref (h0 0)), (2, .int p2), (3, .int v9), (6, .int z23)]) (v := (z24 + 1)) hK qd3_131.2.2.2.2.1 rfl 6 rfl rfl (by decide) rfl ?_
                  refine J_goto hK qd3_131.2.2.2.2.2.1 (n := 61) rfl ?_
                  exact J_loc [3, 4, 5, 1, 2, 6, 0] rfl (ih20 (z21 + 1) z22 z23 (z24 + 1) (lpc hs20 hr20))
                · have hs20 := ip hc87 hs20
                  refine J_aload_n hK qd3_130.2.2.2.2.1 rfl 0 rfl rfl ?_
                  refine J_get hK fo_RX7_67 qd3_130.2.2.2.2.2.1 rfl 0 0 rfl rfl rfl ?_
                  refine J_iload hK qd3_130.2.2.2.2.2.2.1 rfl 6 rfl ?_
                  obtain ⟨v38, ev38, hs20⟩ := bs hs20
                  refine J_iald hK qd3_130.2.2.2.2.2.2.2.1 rfl 0 17 rfl rfl ev38 ?_
                  refine J_iconst (v := 3) hK qd3_130.2.2.2.2.2.2.2.2.1 rfl (by decide) ?_
                  refine J_isub hK qd3_130.2.2.2.2.2.2.2.2.2.1 rfl ?_
                  refine J_goto hK qd3_130.2.2.2.2.2.2.2.2.2.2.1 (n := 104) rfl ?_
                  refine J_istore (L' := [(5, .int (v38 - 3)), (0, .ref (h0 0)), (2, .int p2), (3, .int v9), (4, .int z21), (6, .int z23), (7, .int z24)]) hK qd3_130.2.2.2.2.2.2.2.2.2.2.2.2.1 rfl (by decide) rfl ?_
                  refine J_iinc (L' := [(4, .int (z21 + 1)), (5, .int (v38 - 3)), (0, .ref (h0 0)), (2, .int p2), (3, .int v9), (6, .int z23), (7, .int z24)]) (v := (z21 + 1)) hK qd3_130.2.2.2.2.2.2.2.2.2.2.2.2.2.1 rfl 4 rfl rfl (by decide) rfl ?_
                  refine J_goto hK qd3_130.2.2.2.2.2.2.2.2.2.2.2.2.2.2.1 (n := 121) rfl ?_
                  refine J_iinc (L' := [(7, .int (z24 + 1)), (4, .int (z21 + 1)), (5, .int (v38 - 3)), (0, .ref (h0 0)), (2, .int p2), (3, .int v9), (6, .int z23)]) (v := (z24 + 1)) hK qd3_131.2.2.2.2.1 rfl 6 rfl rfl (by decide) rfl ?_
                  refine J_goto hK qd3_131.2.2.2.2.2.1 (n := 61) rfl ?_
                  exact J_loc [3, 4, 5, 1, 2, 6, 0] rfl (ih20 (z21 + 1) (v38 - 3) z23 (z24 + 1) (lpc hs20 hr20))
        exact J_loc [5, 7, 4, 3, 2, 1, 0] rfl (lo20 n (0) (-1) v19 (1) hl20)
      refine J_icmp_le (tg := 38) hK qd3_127.2.2.2.2.2.2.2.2.2.2.2.2.2.2.1 rfl rfl (fun hc22 => ?_) (fun hc22 => ?_)
      · have hf := ip hc22 hf
        exact (j38  hf)
      · have hf := iq hc22 hf
        refine J_iload_n hK qd3_127.2.2.2.2.2.2.2.2.2.2.2.2.2.2.2.1 rfl 2 rfl rfl ?_
        refine J_bipush (v := 10) hK qd3_128.1 rfl (by decide) ?_
        refine J_icmp_ge (tg := 38) hK qd3_128.2.1 rfl rfl (fun hc28 => ?_) (fun hc28 => ?_)
        · have hf := ip hc28 hf
          exact (j38  hf)
        · have hf := iq hc28 hf
          refine J_aload_n hK qd3_128.2.2.1 rfl 0 rfl rfl ?_
          refine J_bipush (v := (-2)) hK qd3_128.2.2.2.1 rfl (by decide) ?_
          obtain ⟨⟨v39, g40⟩, e41, hf⟩ := bs hf
          have hf := un2 hf
          refine J_callV (m := 3) (m' := 3) (ce' := 0) (sl' := 0) (gr := [gridI d r0_line 20 7 x0_line, gridI d r0_good 8 3 x0_good]) (gs' := fun _ => [gMd d h0 a0_kept a0_tried a0_chosen r0_rows r0_line r0_good r0_work x0_shelf x0_rowSort x0_rowSize x0_moved x0_shown x0_tape x0_tapeSize g40 x0_lines x0_changes x0_coins x0_goods x0_works x0_years x0_gone x0_spent x0_at x0_token x0_from x0_figures x0_fault x0_numbers x0_statements x0_left x0_far x0_tons x0_way x0_steps x0_met x0_queue x0_totals, gridI d r0_line 20 7 x0_line, gridI d r0_good 8 3 x0_good]) (st' := fun _ => [.int v39]) (st := []) hK qd3_128.2.2.2.2.1 cv_RX7_94 iv_yX7_refuse (As := [.int (-2)]) (kX7_refuse _ d h0 r0_rows r0_line r0_good r0_work a0_kept a0_tried a0_chosen x0_shelf x0_rowSort x0_rowSize x0_rows x0_moved x0_shown x0_tape x0_tapeSize x0_refused x0_lines x0_line x0_changes x0_coins x0_goods x0_good x0_works x0_work x0_years x0_gone x0_spent x0_at x0_token x0_from x0_figures x0_fault x0_numbers x0_statements x0_left x0_far x0_tons x0_way x0_steps x0_met x0_queue x0_totals (-2) e41) rfl rfl (Nat.le_of_ble_eq_true rfl) (by decide) 0 0 rfl rfl rfl [0] [1, 2] rfl (by decide +kernel) rfl rfl [2, 0, 1] (by decide +kernel) (fun _ => rfl) (fun _ => rfl) rfl rfl rfl (fun _ => rfl) (fun _ => ?_)
          obtain rfl := Option.some.inj hf
          exact J_iret hK hR qd3_128.2.2.2.2.2.1 () rfl (by decide) (by decide)

def fX7_free_s8 (n : Nat) (x0_shelf : (Nat → Int32)) (x0_rowSort : (Nat → Int32)) (x0_rowSize : (Nat → Int32)) (x0_rows : (Nat → Nat → Int64)) (x0_moved : (Nat → Int64)) (x0_shown : (Nat → Int32)) (x0_tape : (Nat → Int32)) (x0_tapeSize : Int32) (x0_refused : (Nat → Int32)) (x0_lines : Int32) (x0_line : (Nat → Nat → Int32)) (x0_changes : (Nat → Int32)) (x0_coins : (Nat → Int32)) (x0_goods : Int32) (x0_good : (Nat → Nat → Int32)) (x0_works : Int32) (x0_work : (Nat → Nat → Int32)) (x0_years : Int32) (x0_gone : Int32) (x0_spent : Int32) (x0_at : Int32) (x0_token : Int32) (x0_from : Int32) (x0_figures : Int64) (x0_fault : Int32) (x0_numbers : (Nat → Int32)) (x0_statements : Int32) (x0_way : (Nat → Int32)) (x0_steps : Int32) (x0_met : Int64) (x0_queue : (Nat → Int32)) (x0_totals : (Nat → Int32)) (g1 : (Nat → Int32)) (z4 : Int32) (z5 : Int32) (z6 : (Nat → Int32)) (z7 : Int32) : Option ((Int32 × Int32 × (Nat → Int32) × Int32) ⊕ (Int32 × (Nat → Int32) × Int32)) :=
  if x0_goods ≤ z5 then (some (.inr (z4, z6, z7))) else ((ck z5 8).bind fun q12 => (rd 3 (x0_good q12) (1)).bind fun v13 => (fX7_findFar n (x0_shelf, x0_rowSort, x0_rowSize, x0_rows, x0_moved, x0_shown, x0_tape, x0_tapeSize, x0_refused, x0_lines, x0_line, x0_changes, x0_coins, x0_goods, x0_good, x0_works, x0_work, x0_years, x0_gone, x0_spent, x0_at, x0_token, x0_from, x0_figures, x0_fault, x0_numbers, x0_statements, g1, z6, z7, x0_way, x0_steps, x0_met, x0_queue, x0_totals) v13 (0)).bind (u2 fun g14 g15 => (ck z5 8).bind fun q17 => (rd 3 (x0_good q17) (0)).bind fun v18 => (fX7_least n (x0_shelf, x0_rowSort, x0_rowSize, x0_rows, x0_moved, x0_shown, x0_tape, x0_tapeSize, x0_refused, x0_lines, x0_line, x0_changes, x0_coins, x0_goods, x0_good, x0_works, x0_work, x0_years, x0_gone, x0_spent, x0_at, x0_token, x0_from, x0_figures, x0_fault, x0_numbers, x0_statements, g1, g14, g15, x0_way, x0_steps, x0_met, x0_queue, x0_totals) v18).bind (fun v19 => (ck z5 8).bind fun q21 => (rd 3 (x0_good q21) (2)).bind fun v22 => if v19 < 1000000000 then (some (.inl ((z4 + (v22 * v19)), (z5 + 1), g14, g15))) else (some (.inl ((z4 + (v22 * 999)), (z5 + 1), g14, g15))))))
def fX7_free (n : Nat) (X0 : MdT) : Option (Int32 × (Nat → Int32) × (Nat → Int32) × Int32) :=
  u35 (fun (x0_shelf : (Nat → Int32)) (x0_rowSort : (Nat → Int32)) (x0_rowSize : (Nat → Int32)) (x0_rows : (Nat → Nat → Int64)) (x0_moved : (Nat → Int64)) (x0_shown : (Nat → Int32)) (x0_tape : (Nat → Int32)) (x0_tapeSize : Int32) (x0_refused : (Nat → Int32)) (x0_lines : Int32) (x0_line : (Nat → Nat → Int32)) (x0_changes : (Nat → Int32)) (x0_coins : (Nat → Int32)) (x0_goods : Int32) (x0_good : (Nat → Nat → Int32)) (x0_works : Int32) (x0_work : (Nat → Nat → Int32)) (x0_years : Int32) (x0_gone : Int32) (x0_spent : Int32) (x0_at : Int32) (x0_token : Int32) (x0_from : Int32) (x0_figures : Int64) (x0_fault : Int32) (x0_numbers : (Nat → Int32)) (x0_statements : Int32) (x0_left : (Nat → Int32)) (x0_far : (Nat → Int32)) (x0_tons : Int32) (x0_way : (Nat → Int32)) (x0_steps : Int32) (x0_met : Int64) (x0_queue : (Nat → Int32)) (x0_totals : (Nat → Int32)) => (fX7_refill n (x0_shelf, x0_rowSort, x0_rowSize, x0_rows, x0_moved, x0_shown, x0_tape, x0_tapeSize, x0_refused, x0_lines, x0_line, x0_changes, x0_coins, x0_goods, x0_good, x0_works, x0_work, x0_years, x0_gone, x0_spent, x0_at, x0_token, x0_from, x0_figures, x0_fault, x0_numbers, x0_statements, x0_left, x0_far, x0_tons, x0_way, x0_steps, x0_met, x0_queue, x0_totals)).bind (fun g1 => (lp (u4 (fX7_free_s8 n x0_shelf x0_rowSort x0_rowSize x0_rows x0_moved x0_shown x0_tape x0_tapeSize x0_refused x0_lines x0_line x0_changes x0_coins x0_goods x0_good x0_works x0_work x0_years x0_gone x0_spent x0_at x0_token x0_from x0_figures x0_fault x0_numbers x0_statements x0_way x0_steps x0_met x0_queue x0_totals g1)) n (0, 0, x0_far, x0_tons)).bind (u3 fun w9 w10 w11 => some (w9, g1, w10, w11)))) X0
set_option maxHeartbeats 4000000 in
set_option maxRecDepth 100000 in
theorem kX7_free (l : Launch) (d : DT) (h0 : Nat → Nat) (r0_rows : Nat → Nat) (r0_line : Nat → Nat) (r0_good : Nat → Nat) (r0_work : Nat → Nat) (a0_kept : Option Nat) (a0_tried : Option Nat) (a0_chosen : Option Nat) (n : Nat) (x0_shelf : (Nat → Int32)) (x0_rowSort : (Nat → Int32)) (x0_rowSize : (Nat → Int32)) (x0_rows : (Nat → Nat → Int64)) (x0_moved : (Nat → Int64)) (x0_shown : (Nat → Int32)) (x0_tape : (Nat → Int32)) (x0_tapeSize : Int32) (x0_refused : (Nat → Int32)) (x0_lines : Int32) (x0_line : (Nat → Nat → Int32)) (x0_changes : (Nat → Int32)) (x0_coins : (Nat → Int32)) (x0_goods : Int32) (x0_good : (Nat → Nat → Int32)) (x0_works : Int32) (x0_work : (Nat → Nat → Int32)) (x0_years : Int32) (x0_gone : Int32) (x0_spent : Int32) (x0_at : Int32) (x0_token : Int32) (x0_from : Int32) (x0_figures : Int64) (x0_fault : Int32) (x0_numbers : (Nat → Int32)) (x0_statements : Int32) (x0_left : (Nat → Int32)) (x0_far : (Nat → Int32)) (x0_tons : Int32) (x0_way : (Nat → Int32)) (x0_steps : Int32) (x0_met : Int64) (x0_queue : (Nat → Int32)) (x0_totals : (Nat → Int32))  {out : Int32 × (Nat → Int32) × (Nat → Int32) × Int32} (hf : fX7_free n (x0_shelf, x0_rowSort, x0_rowSize, x0_rows, x0_moved, x0_shown, x0_tape, x0_tapeSize, x0_refused, x0_lines, x0_line, x0_changes, x0_coins, x0_goods, x0_good, x0_works, x0_work, x0_years, x0_gone, x0_spent, x0_at, x0_token, x0_from, x0_figures, x0_fault, x0_numbers, x0_statements, x0_left, x0_far, x0_tons, x0_way, x0_steps, x0_met, x0_queue, x0_totals) = some out) : Ct l d yX7_free cX7_free 4 (some .int) { frames := 2, cells := 0, slots := 0, locals := 50 } [.ref (h0 0)] [gMd d h0 a0_kept a0_tried a0_chosen r0_rows r0_line r0_good r0_work x0_shelf x0_rowSort x0_rowSize x0_moved x0_shown x0_tape x0_tapeSize x0_refused x0_lines x0_changes x0_coins x0_goods x0_works x0_years x0_gone x0_spent x0_at x0_token x0_from x0_figures x0_fault x0_numbers x0_statements x0_left x0_far x0_tons x0_way x0_steps x0_met x0_queue x0_totals, gridI d r0_line 20 7 x0_line, gridI d r0_good 8 3 x0_good] (fun _ : Unit => (some (.int out.1), [gMd d h0 a0_kept a0_tried a0_chosen r0_rows r0_line r0_good r0_work x0_shelf x0_rowSort x0_rowSize x0_moved x0_shown x0_tape x0_tapeSize x0_refused x0_lines x0_changes x0_coins x0_goods x0_works x0_years x0_gone x0_spent x0_at x0_token x0_from x0_figures x0_fault x0_numbers x0_statements (out.2.1) (out.2.2.1) (out.2.2.2) x0_way x0_steps x0_met x0_queue x0_totals, gridI d r0_line 20 7 x0_line, gridI d r0_good 8 3 x0_good])) := by
  refine Ct.of (by decide) (Nat.le_of_ble_eq_true rfl) ?_
  intro Φ hl hK hR
  subst hl
  have hK : Ok d Φ RX7 "free" cX7_free 4 (some .int) { frames := 2, cells := 0, slots := 0, locals := 50 } := hK
  unfold fX7_free at hf
  have hf := un35 hf
  show J d Φ 4 [gMd d h0 a0_kept a0_tried a0_chosen r0_rows r0_line r0_good r0_work x0_shelf x0_rowSort x0_rowSize x0_moved x0_shown x0_tape x0_tapeSize x0_refused x0_lines x0_changes x0_coins x0_goods x0_works x0_years x0_gone x0_spent x0_at x0_token x0_from x0_figures x0_fault x0_numbers x0_statements x0_left x0_far x0_tons x0_way x0_steps x0_met x0_queue x0_totals, gridI d r0_line 20 7 x0_line, gridI d r0_good 8 3 x0_good] 0 0 0 [(0, .ref (h0 0))] []
  refine J_aload_n hK qd4_0.1 rfl 0 rfl rfl ?_
  obtain ⟨g1, e2, hf⟩ := bs hf
  refine J_callV (m := 3) (m' := 3) (ce' := 0) (sl' := 0) (gr := [gridI d r0_good 8 3 x0_good]) (gs' := fun _ => [gMd d h0 a0_kept a0_tried a0_chosen r0_rows r0_line r0_good r0_work x0_shelf x0_rowSort x0_rowSize x0_moved x0_shown x0_tape x0_tapeSize x0_refused x0_lines x0_changes x0_coins x0_goods x0_works x0_years x0_gone x0_spent x0_at x0_token x0_from x0_figures x0_fault x0_numbers x0_statements g1 x0_far x0_tons x0_way x0_steps x0_met x0_queue x0_totals, gridI d r0_line 20 7 x0_line, gridI d r0_good 8 3 x0_good]) (st' := fun _ => []) (st := []) hK qd4_0.2.1 cv_RX7_276 iv_yX7_refill (As := []) (kX7_refill _ d h0 r0_rows r0_line r0_good r0_work a0_kept a0_tried a0_chosen n x0_shelf x0_rowSort x0_rowSize x0_rows x0_moved x0_shown x0_tape x0_tapeSize x0_refused x0_lines x0_line x0_changes x0_coins x0_goods x0_good x0_works x0_work x0_years x0_gone x0_spent x0_at x0_token x0_from x0_figures x0_fault x0_numbers x0_statements x0_left x0_far x0_tons x0_way x0_steps x0_met x0_queue x0_totals e2) rfl rfl (Nat.le_of_ble_eq_true rfl) (by decide) 0 0 rfl rfl rfl [0, 1] [2] rfl (by decide +kernel) rfl rfl [1, 2, 0] (by decide +kernel) (fun _ => rfl) (fun _ => rfl) rfl rfl rfl (fun _ => rfl) (fun _ => ?_)
  refine J_iconst (v := 0) hK qd4_0.2.2.1 rfl (by decide) ?_
  refine J_istore_n (L' := [(1, .int (0)), (0, .ref (h0 0))]) hK qd4_0.2.2.2.1 rfl rfl (by decide) rfl ?_
  refine J_iconst (v := 0) hK qd4_0.2.2.2.2.1 rfl (by decide) ?_
  refine J_istore_n (L' := [(2, .int (0)), (1, .int (0)), (0, .ref (h0 0))]) hK qd4_0.2.2.2.2.2.1 rfl rfl (by decide) rfl ?_
  obtain ⟨e8, hl3, hf⟩ := bs hf
  have hx3_73 : ∀ (w9 : Int32) (w10 : (Nat → Int32)) (w11 : Int32), (w9, w10, w11) = e8 → J d Φ 4 [gMd d h0 a0_kept a0_tried a0_chosen r0_rows r0_line r0_good r0_work x0_shelf x0_rowSort x0_rowSize x0_moved x0_shown x0_tape x0_tapeSize x0_refused x0_lines x0_changes x0_coins x0_goods x0_works x0_years x0_gone x0_spent x0_at x0_token x0_from x0_figures x0_fault x0_numbers x0_statements g1 w10 w11 x0_way x0_steps x0_met x0_queue x0_totals, gridI d r0_line 20 7 x0_line, gridI d r0_good 8 3 x0_good] 0 0 73 [(1, .int w9)] [] := by
    intro w9 w10 w11 he
    rw [← he] at hf
    have hf := un3 hf
    refine J_iload_n hK qd4_2.2.2.2.2.2.2.2.2.2.2.2.2.2.2.1 rfl 0 rfl rfl ?_
    obtain rfl := Option.some.inj hf
    exact J_iret hK hR qd4_2.2.2.2.2.2.2.2.2.2.2.2.2.2.2.2.1 () rfl (by decide) (by decide)
  have lo3 : ∀ (k : Nat) (z4 : Int32) (z5 : Int32) (z6 : (Nat → Int32)) (z7 : Int32), lp (u4 (fX7_free_s8 n x0_shelf x0_rowSort x0_rowSize x0_rows x0_moved x0_shown x0_tape x0_tapeSize x0_refused x0_lines x0_line x0_changes x0_coins x0_goods x0_good x0_works x0_work x0_years x0_gone x0_spent x0_at x0_token x0_from x0_figures x0_fault x0_numbers x0_statements x0_way x0_steps x0_met x0_queue x0_totals g1)) k (z4, z5, z6, z7) = some e8 → J d Φ 4 [gMd d h0 a0_kept a0_tried a0_chosen r0_rows r0_line r0_good r0_work x0_shelf x0_rowSort x0_rowSize x0_moved x0_shown x0_tape x0_tapeSize x0_refused x0_lines x0_changes x0_coins x0_goods x0_works x0_years x0_gone x0_spent x0_at x0_token x0_from x0_figures x0_fault x0_numbers x0_statements g1 z6 z7 x0_way x0_steps x0_met x0_queue x0_totals, gridI d r0_line 20 7 x0_line, gridI d r0_good 8 3 x0_good] 0 0 8 [(0, .ref (h0 0)), (1, .int z4), (2, .int z5)] [] := by
    intro k
    induction k with
    | zero => intro z4 z5 z6 z7 h; cases h
    | succ k ih3 =>
      intro z4 z5 z6 z7 h
      obtain ⟨k2, rr3, hk2, hs3, hr3⟩ := lp_ok h
      cases hk2
      have hs3 : fX7_free_s8 n x0_shelf x0_rowSort x0_rowSize x0_rows x0_moved x0_shown x0_tape x0_tapeSize x0_refused x0_lines x0_line x0_changes x0_coins x0_goods x0_good x0_works x0_work x0_years x0_gone x0_spent x0_at x0_token x0_from x0_figures x0_fault x0_numbers x0_statements x0_way x0_steps x0_met x0_queue x0_totals g1 z4 z5 z6 z7 = some rr3 := hs3
      unfold fX7_free_s8 at hs3
      refine J_iload_n hK qd4_0.2.2.2.2.2.2.1 rfl 2 rfl rfl ?_
      refine J_aload_n hK qd4_0.2.2.2.2.2.2.2.1 rfl 0 rfl rfl ?_
      refine J_get hK fo_RX7_125 qd4_0.2.2.2.2.2.2.2.2.1 rfl 0 0 rfl rfl rfl ?_
      refine J_icmp_ge (tg := 73) hK qd4_0.2.2.2.2.2.2.2.2.2.1 rfl rfl (fun hc13 => ?_) (fun hc13 => ?_)
      · have hs3 := ip hc13 hs3
        exact J_loc [1] rfl (hx3_73 z4 z6 z7 (lpx hs3 hr3))
      · have hs3 := iq hc13 hs3
        refine J_aload_n hK qd4_0.2.2.2.2.2.2.2.2.2.2.1 rfl 0 rfl rfl ?_
        refine J_aload_n hK qd4_0.2.2.2.2.2.2.2.2.2.2.2.1 rfl 0 rfl rfl ?_
        refine J_get hK fo_RX7_48 qd4_0.2.2.2.2.2.2.2.2.2.2.2.2.1 rfl 0 0 rfl rfl rfl ?_
        refine J_iload_n hK qd4_0.2.2.2.2.2.2.2.2.2.2.2.2.2.1 rfl 2 rfl rfl ?_
        obtain ⟨q12, eq12, hs3⟩ := bs hs3
        refine J_aald hK qd4_0.2.2.2.2.2.2.2.2.2.2.2.2.2.2.1 rfl 0 12 rfl rfl rfl eq12 ?_
        refine J_iconst (v := 1) hK qd4_0.2.2.2.2.2.2.2.2.2.2.2.2.2.2.2.1 rfl (by decide) ?_
        obtain ⟨v13, ev13, hs3⟩ := bs hs3
        refine J_iald hK qd4_1.1 rfl 2 q12 rfl (gridI_at (ck_ok eq12).2.2) ev13 ?_
        refine J_iconst (v := 0) hK qd4_1.2.1 rfl (by decide) ?_
        obtain ⟨⟨g14, g15⟩, e16, hs3⟩ := bs hs3
        have hs3 := un2 hs3
        refine J_callV (m := 3) (m' := 3) (ce' := 0) (sl' := 0) (gr := [gridI d r0_good 8 3 x0_good]) (gs' := fun _ => [gMd d h0 a0_kept a0_tried a0_chosen r0_rows r0_line r0_good r0_work x0_shelf x0_rowSort x0_rowSize x0_moved x0_shown x0_tape x0_tapeSize x0_refused x0_lines x0_changes x0_coins x0_goods x0_works x0_years x0_gone x0_spent x0_at x0_token x0_from x0_figures x0_fault x0_numbers x0_statements g1 g14 g15 x0_way x0_steps x0_met x0_queue x0_totals, gridI d r0_line 20 7 x0_line, gridI d r0_good 8 3 x0_good]) (st' := fun _ => []) (st := []) hK qd4_1.2.2.1 cv_RX7_264 iv_yX7_findFar (As := [.int v13, .int (0)]) (kX7_findFar _ d h0 r0_rows r0_line r0_good r0_work a0_kept a0_tried a0_chosen n x0_shelf x0_rowSort x0_rowSize x0_rows x0_moved x0_shown x0_tape x0_tapeSize x0_refused x0_lines x0_line x0_changes x0_coins x0_goods x0_good x0_works x0_work x0_years x0_gone x0_spent x0_at x0_token x0_from x0_figures x0_fault x0_numbers x0_statements g1 z6 z7 x0_way x0_steps x0_met x0_queue x0_totals v13 (0) e16) rfl rfl (Nat.le_of_ble_eq_true rfl) (by decide) 0 0 rfl rfl rfl [0, 1] [2] rfl (by decide +kernel) rfl rfl [1, 2, 0] (by decide +kernel) (fun _ => rfl) (fun _ => rfl) rfl rfl rfl (fun _ => rfl) (fun _ => ?_)
        refine J_aload_n hK qd4_1.2.2.2.1 rfl 0 rfl rfl ?_
        refine J_aload_n hK qd4_1.2.2.2.2.1 rfl 0 rfl rfl ?_
        refine J_get hK fo_RX7_48 qd4_1.2.2.2.2.2.1 rfl 0 0 rfl rfl rfl ?_
        refine J_iload_n hK qd4_1.2.2.2.2.2.2.1 rfl 2 rfl rfl ?_
        obtain ⟨q17, eq17, hs3⟩ := bs hs3
        refine J_aald hK qd4_1.2.2.2.2.2.2.2.1 rfl 0 12 rfl rfl rfl eq17 ?_
        refine J_iconst (v := 0) hK qd4_1.2.2.2.2.2.2.2.2.1 rfl (by decide) ?_
        obtain ⟨v18, ev18, hs3⟩ := bs hs3
        refine J_iald hK qd4_1.2.2.2.2.2.2.2.2.2.1 rfl 2 q17 rfl (gridI_at (ck_ok eq17).2.2) ev18 ?_
        obtain ⟨v19, e20, hs3⟩ := bs hs3
        refine J_callV (m := 3) (m' := 3) (ce' := 0) (sl' := 0) (gr := [gridI d r0_line 20 7 x0_line, gridI d r0_good 8 3 x0_good]) (gs' := fun _ => [gMd d h0 a0_kept a0_tried a0_chosen r0_rows r0_line r0_good r0_work x0_shelf x0_rowSort x0_rowSize x0_moved x0_shown x0_tape x0_tapeSize x0_refused x0_lines x0_changes x0_coins x0_goods x0_works x0_years x0_gone x0_spent x0_at x0_token x0_from x0_figures x0_fault x0_numbers x0_statements g1 g14 g15 x0_way x0_steps x0_met x0_queue x0_totals, gridI d r0_line 20 7 x0_line, gridI d r0_good 8 3 x0_good]) (st' := fun _ => [.int v19]) (st := []) hK qd4_1.2.2.2.2.2.2.2.2.2.2.1 cv_RX7_270 iv_yX7_least (As := [.int v18]) (kX7_least _ d h0 r0_rows r0_line r0_good r0_work a0_kept a0_tried a0_chosen n x0_shelf x0_rowSort x0_rowSize x0_rows x0_moved x0_shown x0_tape x0_tapeSize x0_refused x0_lines x0_line x0_changes x0_coins x0_goods x0_good x0_works x0_work x0_years x0_gone x0_spent x0_at x0_token x0_from x0_figures x0_fault x0_numbers x0_statements g1 g14 g15 x0_way x0_steps x0_met x0_queue x0_totals v18 e20) rfl rfl (Nat.le_of_ble_eq_true rfl) (by decide) 0 0 rfl rfl rfl [0] [1, 2] rfl (by decide +kernel) rfl rfl [2, 0, 1] (by decide +kernel) (fun _ => rfl) (fun _ => rfl) rfl rfl rfl (fun _ => rfl) (fun _ => ?_)
        refine J_istore_n (L' := [(3, .int v19), (0, .ref (h0 0)), (1, .int z4), (2, .int z5)]) hK qd4_1.2.2.2.2.2.2.2.2.2.2.2.1 rfl rfl (by decide) rfl ?_
        refine J_iload_n hK qd4_1.2.2.2.2.2.2.2.2.2.2.2.2.1 rfl 2 rfl rfl ?_
        refine J_aload_n hK qd4_1.2.2.2.2.2.2.2.2.2.2.2.2.2.1 rfl 1 rfl rfl ?_
        refine J_get hK fo_RX7_48 qd4_1.2.2.2.2.2.2.2.2.2.2.2.2.2.2.1 rfl 0 0 rfl rfl rfl ?_
        refine J_iload_n hK qd4_1.2.2.2.2.2.2.2.2.2.2.2.2.2.2.2.1 rfl 3 rfl rfl ?_
        obtain ⟨q21, eq21, hs3⟩ := bs hs3
        refine J_aald hK qd4_2.1 rfl 0 12 rfl rfl rfl eq21 ?_
        refine J_iconst (v := 2) hK qd4_2.2.1 rfl (by decide) ?_
        obtain ⟨v22, ev22, hs3⟩ := bs hs3
        refine J_iald hK qd4_2.2.2.1 rfl 2 q21 rfl (gridI_at (ck_ok eq21).2.2) ev22 ?_
        refine J_iload_n hK qd4_2.2.2.2.1 rfl 0 rfl rfl ?_
        refine J_ldc (v := 1000000000) hK qd4_2.2.2.2.2.1 rfl wk_RX7_254 ?_
        refine J_icmp_lt (tg := 63) hK qd4_2.2.2.2.2.2.1 rfl rfl (fun hc54 => ?_) (fun hc54 => ?_)
        · have hs3 := ip hc54 hs3
          refine J_iload_n hK qd4_2.2.2.2.2.2.2.2.2.1 rfl 0 rfl rfl ?_
          refine J_imul hK qd4_2.2.2.2.2.2.2.2.2.2.1 rfl ?_
          refine J_iadd hK qd4_2.2.2.2.2.2.2.2.2.2.2.1 rfl ?_
          refine J_istore_n (L' := [(1, .int (z4 + (v22 * v19))), (3, .int v19), (0, .ref (h0 0)), (2, .int z5)]) hK qd4_2.2.2.2.2.2.2.2.2.2.2.2.1 rfl rfl (by decide) rfl ?_
          refine J_iinc (L' := [(2, .int (z5 + 1)), (1, .int (z4 + (v22 * v19))), (3, .int v19), (0, .ref (h0 0))]) (v := (z5 + 1)) hK qd4_2.2.2.2.2.2.2.2.2.2.2.2.2.1 rfl 3 rfl rfl (by decide) rfl ?_
          refine J_goto hK qd4_2.2.2.2.2.2.2.2.2.2.2.2.2.2.1 (n := 8) rfl ?_
          exact J_loc [3, 1, 0] rfl (ih3 (z4 + (v22 * v19)) (z5 + 1) g14 g15 (lpc hs3 hr3))
        · have hs3 := iq hc54 hs3
          refine J_sipush (v := 999) hK qd4_2.2.2.2.2.2.2.1 rfl (by decide) ?_
          refine J_goto hK qd4_2.2.2.2.2.2.2.2.1 (n := 64) rfl ?_
          refine J_imul hK qd4_2.2.2.2.2.2.2.2.2.2.1 rfl ?_
          refine J_iadd hK qd4_2.2.2.2.2.2.2.2.2.2.2.1 rfl ?_
          refine J_istore_n (L' := [(1, .int (z4 + (v22 * 999))), (3, .int v19), (0, .ref (h0 0)), (2, .int z5)]) hK qd4_2.2.2.2.2.2.2.2.2.2.2.2.1 rfl rfl (by decide) rfl ?_
          refine J_iinc (L' := [(2, .int (z5 + 1)), (1, .int (z4 + (v22 * 999))), (3, .int v19), (0, .ref (h0 0))]) (v := (z5 + 1)) hK qd4_2.2.2.2.2.2.2.2.2.2.2.2.2.1 rfl 3 rfl rfl (by decide) rfl ?_
          refine J_goto hK qd4_2.2.2.2.2.2.2.2.2.2.2.2.2.2.1 (n := 8) rfl ?_
          exact J_loc [3, 1, 0] rfl (ih3 (z4 + (v22 * 999)) (z5 + 1) g14 g15 (lpc hs3 hr3))
  exact J_loc [2, 1, 0] rfl (lo3 n (0) (0) x0_far x0_tons hl3)

def fX7_turn_s132 (v29 : Int32) (g38 : (Nat → Int32)) (g39 : Int32) (z48 : Int32) (z49 : (Nat → Int32)) : Option ((Int32 × (Nat → Int32)) ⊕ ((Nat → Int32))) :=
  if g39 ≤ z48 then (some (.inr z49)) else ((rd 37 g38 z48).bind fun v52 => if v52 < 3 then (some (.inl ((z48 + 1), z49))) else ((rd 37 g38 z48).bind fun v53 => (rd 37 g38 z48).bind fun v54 => (rd 20 z49 (v54 - 3)).bind fun v55 => if v29 ≤ v55 then ((rd 37 g38 z48).bind fun v56 => (rd 20 z49 (v56 - 3)).bind fun v57 => (wr 20 z49 (v53 - 3) (v57 - v29)).bind fun f58 => some (.inl ((z48 + 1), f58))) else ((wr 20 z49 (v53 - 3) (0)).bind fun f59 => some (.inl ((z48 + 1), f59)))))
def fX7_turn_s46 (n : Nat) (x0_shelf : (Nat → Int32)) (x0_rowSort : (Nat → Int32)) (x0_rowSize : (Nat → Int32)) (x0_rows : (Nat → Nat → Int64)) (x0_moved : (Nat → Int64)) (x0_shown : (Nat → Int32)) (x0_tape : (Nat → Int32)) (x0_tapeSize : Int32) (x0_refused : (Nat → Int32)) (x0_lines : Int32) (x0_line : (Nat → Nat → Int32)) (x0_changes : (Nat → Int32)) (x0_coins : (Nat → Int32)) (x0_goods : Int32) (x0_good : (Nat → Nat → Int32)) (x0_works : Int32) (x0_work : (Nat → Nat → Int32)) (x0_years : Int32) (x0_gone : Int32) (x0_spent : Int32) (x0_at : Int32) (x0_token : Int32) (x0_from : Int32) (x0_figures : Int64) (x0_fault : Int32) (x0_numbers : (Nat → Int32)) (x0_statements : Int32) (x0_totals : (Nat → Int32)) (z7 : Int32) (z8 : Int32) (z9 : Int32) (z10 : (Nat → Int32)) (z11 : (Nat → Int32)) (z12 : Int32) (z13 : (Nat → Int32)) (z14 : Int32) (z15 : Int64) (z16 : (Nat → Int32)) : Option ((Int32 × Int32 × Int32 × (Nat → Int32) × (Nat → Int32) × Int32 × (Nat → Int32) × Int32 × Int64 × (Nat → Int32)) ⊕ (Int32 × Int32 × (Nat → Int32) × (Nat → Int32) × Int32 × (Nat → Int32) × Int32 × Int64 × (Nat → Int32))) :=
  if x0_goods ≤ z9 then (some (.inr (z7, z8, z10, z11, z12, z13, z14, z15, z16))) else ((ck z9 8).bind fun q28 => (rd 3 (x0_good q28) (2)).bind fun v29 => (ck z9 8).bind fun q30 => (rd 3 (x0_good q30) (0)).bind fun v31 => (ck z9 8).bind fun q32 => (rd 3 (x0_good q32) (1)).bind fun v33 => (fX7_findWay n (x0_shelf, x0_rowSort, x0_rowSize, x0_rows, x0_moved, x0_shown, x0_tape, x0_tapeSize, x0_refused, x0_lines, x0_line, x0_changes, x0_coins, x0_goods, x0_good, x0_works, x0_work, x0_years, x0_gone, x0_spent, x0_at, x0_token, x0_from, x0_figures, x0_fault, x0_numbers, x0_statements, z10, z11, z12, z13, z14, z15, z16, x0_totals) v31 v33 v29).bind (u2 fun v34 G35 => u6 (fun g36 g37 g38 g39 g40 g41 => if v34 = 0 then (some (.inl ((z7 + (999 * v29)), (z8 + v29), (z9 + 1), z10, g36, g37, g38, g39, g40, g41))) else ((ck z9 8).bind fun q43 => (rd 3 (x0_good q43) (0)).bind fun v44 => (fX7_least n (x0_shelf, x0_rowSort, x0_rowSize, x0_rows, x0_moved, x0_shown, x0_tape, x0_tapeSize, x0_refused, x0_lines, x0_line, x0_changes, x0_coins, x0_goods, x0_good, x0_works, x0_work, x0_years, x0_gone, x0_spent, x0_at, x0_token, x0_from, x0_figures, x0_fault, x0_numbers, x0_statements, z10, g36, g37, g38, g39, g40, g41, x0_totals) v44).bind (fun v45 => (lp (u2 (fX7_turn_s132 v29 g38 g39)) n (1, z10)).bind (fun w51 => some (.inl ((z7 + (v29 * v45)), z8, (z9 + 1), w51, g36, g37, g38, g39, g40, g41)))))) G35))
def fX7_turn_j35 (n : Nat) (p1 : Int32) (x0_shelf : (Nat → Int32)) (x0_rowSort : (Nat → Int32)) (x0_rowSize : (Nat → Int32)) (x0_rows : (Nat → Nat → Int64)) (x0_moved : (Nat → Int64)) (x0_shown : (Nat → Int32)) (x0_tape : (Nat → Int32)) (x0_tapeSize : Int32) (x0_refused : (Nat → Int32)) (x0_lines : Int32) (x0_line : (Nat → Nat → Int32)) (x0_changes : (Nat → Int32)) (x0_coins : (Nat → Int32)) (x0_goods : Int32) (x0_good : (Nat → Nat → Int32)) (x0_works : Int32) (x0_work : (Nat → Nat → Int32)) (x0_years : Int32) (x0_gone : Int32) (x0_spent : Int32) (x0_at : Int32) (x0_token : Int32) (x0_from : Int32) (x0_figures : Int64) (x0_fault : Int32) (x0_numbers : (Nat → Int32)) (x0_statements : Int32) (x0_left : (Nat → Int32)) (x0_far : (Nat → Int32)) (x0_tons : Int32) (x0_way : (Nat → Int32)) (x0_steps : Int32) (x0_met : Int64) (x0_queue : (Nat → Int32)) (x0_totals : (Nat → Int32)) : Option (Int32 × ((Nat → Int32) × (Nat → Int32) × (Nat → Int32) × Int32 × (Nat → Int32) × Int32 × Int64 × (Nat → Int32))) :=
  (fX7_refill n (x0_shelf, x0_rowSort, x0_rowSize, x0_rows, x0_moved, x0_shown, x0_tape, x0_tapeSize, x0_refused, x0_lines, x0_line, x0_changes, x0_coins, x0_goods, x0_good, x0_works, x0_work, x0_years, x0_gone, x0_spent, x0_at, x0_token, x0_from, x0_figures, x0_fault, x0_numbers, x0_statements, x0_left, x0_far, x0_tons, x0_way, x0_steps, x0_met, x0_queue, x0_totals)).bind (fun g4 => (lp (u10 (fX7_turn_s46 n x0_shelf x0_rowSort x0_rowSize x0_rows x0_moved x0_shown x0_tape x0_tapeSize x0_refused x0_lines x0_line x0_changes x0_coins x0_goods x0_good x0_works x0_work x0_years x0_gone x0_spent x0_at x0_token x0_from x0_figures x0_fault x0_numbers x0_statements x0_totals)) n (0, 0, 0, g4, x0_far, x0_tons, x0_way, x0_steps, x0_met, x0_queue)).bind (u9 fun w18 w19 w20 w21 w22 w23 w24 w25 w26 => if p1 = 0 then (some (w18, (x0_refused, w20, w21, w22, w23, w24, w25, w26))) else (if p1 = 1 then (some (w19, (x0_refused, w20, w21, w22, w23, w24, w25, w26))) else ((rd 20 w20 (p1 - 10)).bind fun v27 => some (v27, (x0_refused, w20, w21, w22, w23, w24, w25, w26))))))
def fX7_turn (n : Nat) (X0 : MdT) (p1 : Int32) : Option (Int32 × ((Nat → Int32) × (Nat → Int32) × (Nat → Int32) × Int32 × (Nat → Int32) × Int32 × Int64 × (Nat → Int32))) :=
  u35 (fun (x0_shelf : (Nat → Int32)) (x0_rowSort : (Nat → Int32)) (x0_rowSize : (Nat → Int32)) (x0_rows : (Nat → Nat → Int64)) (x0_moved : (Nat → Int64)) (x0_shown : (Nat → Int32)) (x0_tape : (Nat → Int32)) (x0_tapeSize : Int32) (x0_refused : (Nat → Int32)) (x0_lines : Int32) (x0_line : (Nat → Nat → Int32)) (x0_changes : (Nat → Int32)) (x0_coins : (Nat → Int32)) (x0_goods : Int32) (x0_good : (Nat → Nat → Int32)) (x0_works : Int32) (x0_work : (Nat → Nat → Int32)) (x0_years : Int32) (x0_gone : Int32) (x0_spent : Int32) (x0_at : Int32) (x0_token : Int32) (x0_from : Int32) (x0_figures : Int64) (x0_fault : Int32) (x0_numbers : (Nat → Int32)) (x0_statements : Int32) (x0_left : (Nat → Int32)) (x0_far : (Nat → Int32)) (x0_tons : Int32) (x0_way : (Nat → Int32)) (x0_steps : Int32) (x0_met : Int64) (x0_queue : (Nat → Int32)) (x0_totals : (Nat → Int32)) => if p1 < 0 then ((fX7_refuse (x0_shelf, x0_rowSort, x0_rowSize, x0_rows, x0_moved, x0_shown, x0_tape, x0_tapeSize, x0_refused, x0_lines, x0_line, x0_changes, x0_coins, x0_goods, x0_good, x0_works, x0_work, x0_years, x0_gone, x0_spent, x0_at, x0_token, x0_from, x0_figures, x0_fault, x0_numbers, x0_statements, x0_left, x0_far, x0_tons, x0_way, x0_steps, x0_met, x0_queue, x0_totals) (-2)).bind (u2 fun v1 g2 => some (v1, (g2, x0_left, x0_far, x0_tons, x0_way, x0_steps, x0_met, x0_queue)))) else (if p1 ≤ 1 then (fX7_turn_j35 n p1 x0_shelf x0_rowSort x0_rowSize x0_rows x0_moved x0_shown x0_tape x0_tapeSize x0_refused x0_lines x0_line x0_changes x0_coins x0_goods x0_good x0_works x0_work x0_years x0_gone x0_spent x0_at x0_token x0_from x0_figures x0_fault x0_numbers x0_statements x0_left x0_far x0_tons x0_way x0_steps x0_met x0_queue x0_totals) else ((fX7_in ((p1).toInt64) (10 : Int64) (((9 + x0_lines)).toInt64)).bind (fun v60 => if v60 = 0 then ((fX7_refuse (x0_shelf, x0_rowSort, x0_rowSize, x0_rows, x0_moved, x0_shown, x0_tape, x0_tapeSize, x0_refused, x0_lines, x0_line, x0_changes, x0_coins, x0_goods, x0_good, x0_works, x0_work, x0_years, x0_gone, x0_spent, x0_at, x0_token, x0_from, x0_figures, x0_fault, x0_numbers, x0_statements, x0_left, x0_far, x0_tons, x0_way, x0_steps, x0_met, x0_queue, x0_totals) (-2)).bind (u2 fun v62 g63 => some (v62, (g63, x0_left, x0_far, x0_tons, x0_way, x0_steps, x0_met, x0_queue)))) else (fX7_turn_j35 n p1 x0_shelf x0_rowSort x0_rowSize x0_rows x0_moved x0_shown x0_tape x0_tapeSize x0_refused x0_lines x0_line x0_changes x0_coins x0_goods x0_good x0_works x0_work x0_years x0_gone x0_spent x0_at x0_token x0_from x0_figures x0_fault x0_numbers x0_statements x0_left x0_far x0_tons x0_way x0_steps x0_met x0_queue x0_totals))))) X0
set_option maxHeartbeats 4000000 in
set_option maxRecDepth 100000 in
theorem kX7_turn (l : Launch) (d : DT) (h0 : Nat → Nat) (r0_rows : Nat → Nat) (r0_line : Nat → Nat) (r0_good : Nat → Nat) (r0_work : Nat → Nat) (a0_kept : Option Nat) (a0_tried : Option Nat) (a0_chosen : Option Nat) (n : Nat) (x0_shelf : (Nat → Int32)) (x0_rowSort : (Nat → Int32)) (x0_rowSize : (Nat → Int32)) (x0_rows : (Nat → Nat → Int64)) (x0_moved : (Nat → Int64)) (x0_shown : (Nat → Int32)) (x0_tape : (Nat → Int32)) (x0_tapeSize : Int32) (x0_refused : (Nat → Int32)) (x0_lines : Int32) (x0_line : (Nat → Nat → Int32)) (x0_changes : (Nat → Int32)) (x0_coins : (Nat → Int32)) (x0_goods : Int32) (x0_good : (Nat → Nat → Int32)) (x0_works : Int32) (x0_work : (Nat → Nat → Int32)) (x0_years : Int32) (x0_gone : Int32) (x0_spent : Int32) (x0_at : Int32) (x0_token : Int32) (x0_from : Int32) (x0_figures : Int64) (x0_fault : Int32) (x0_numbers : (Nat → Int32)) (x0_statements : Int32) (x0_left : (Nat → Int32)) (x0_far : (Nat → Int32)) (x0_tons : Int32) (x0_way : (Nat → Int32)) (x0_steps : Int32) (x0_met : Int64) (x0_queue : (Nat → Int32)) (x0_totals : (Nat → Int32)) (p1 : Int32)  {out : Int32 × ((Nat → Int32) × (Nat → Int32) × (Nat → Int32) × Int32 × (Nat → Int32) × Int32 × Int64 × (Nat → Int32))} (hf : fX7_turn n (x0_shelf, x0_rowSort, x0_rowSize, x0_rows, x0_moved, x0_shown, x0_tape, x0_tapeSize, x0_refused, x0_lines, x0_line, x0_changes, x0_coins, x0_goods, x0_good, x0_works, x0_work, x0_years, x0_gone, x0_spent, x0_at, x0_token, x0_from, x0_figures, x0_fault, x0_numbers, x0_statements, x0_left, x0_far, x0_tons, x0_way, x0_steps, x0_met, x0_queue, x0_totals) p1 = some out) : Ct l d yX7_turn cX7_turn 7 (some .int) { frames := 4, cells := 0, slots := 0, locals := 102 } [.ref (h0 0), .int p1] [gMd d h0 a0_kept a0_tried a0_chosen r0_rows r0_line r0_good r0_work x0_shelf x0_rowSort x0_rowSize x0_moved x0_shown x0_tape x0_tapeSize x0_refused x0_lines x0_changes x0_coins x0_goods x0_works x0_years x0_gone x0_spent x0_at x0_token x0_from x0_figures x0_fault x0_numbers x0_statements x0_left x0_far x0_tons x0_way x0_steps x0_met x0_queue x0_totals, gridI d r0_line 20 7 x0_line, gridI d r0_good 8 3 x0_good] (fun _ : Unit => (some (.int out.1), [gMd d h0 a0_kept a0_tried a0_chosen r0_rows r0_line r0_good r0_work x0_shelf x0_rowSort x0_rowSize x0_moved x0_shown x0_tape x0_tapeSize (out.2.1) x0_lines x0_changes x0_coins x0_goods x0_works x0_years x0_gone x0_spent x0_at x0_token x0_from x0_figures x0_fault x0_numbers x0_statements (out.2.2.1) (out.2.2.2.1) (out.2.2.2.2.1) (out.2.2.2.2.2.1) (out.2.2.2.2.2.2.1) (out.2.2.2.2.2.2.2.1) (out.2.2.2.2.2.2.2.2) x0_totals, gridI d r0_line 20 7 x0_line, gridI d r0_good 8 3 x0_good])) := by
  refine Ct.of (by decide) (Nat.le_of_ble_eq_true rfl) ?_
  intro Φ hl hK hR
  subst hl
  have hK : Ok d Φ RX7 "turn" cX7_turn 7 (some .int) { frames := 4, cells := 0, slots := 0, locals := 102 } := hK
  unfold fX7_turn at hf
  have hf := un35 hf
  show J d Φ 7 [gMd d h0 a0_kept a0_tried a0_chosen r0_rows r0_line r0_good r0_work x0_shelf x0_rowSort x0_rowSize x0_moved x0_shown x0_tape x0_tapeSize x0_refused x0_lines x0_changes x0_coins x0_goods x0_works x0_years x0_gone x0_spent x0_at x0_token x0_from x0_figures x0_fault x0_numbers x0_statements x0_left x0_far x0_tons x0_way x0_steps x0_met x0_queue x0_totals, gridI d r0_line 20 7 x0_line, gridI d r0_good 8 3 x0_good] 0 0 0 [(0, .ref (h0 0)), (1, .int p1)] []
  refine J_iload_n hK qd4_3.1 rfl 1 rfl rfl ?_
  refine J_if_lt (tg := 28) hK qd4_3.2.1 rfl rfl (fun hc1 => ?_) (fun hc1 => ?_)
  · have hf := ip hc1 hf
    refine J_aload_n hK qd4_3.2.2.2.2.2.2.2.2.2.2.2.2.2.2.2.1 rfl 0 rfl rfl ?_
    refine J_bipush (v := (-2)) hK qd4_4.1 rfl (by decide) ?_
    obtain ⟨⟨v1, g2⟩, e3, hf⟩ := bs hf
    have hf := un2 hf
    refine J_callV (m := 3) (m' := 3) (ce' := 0) (sl' := 0) (gr := [gridI d r0_line 20 7 x0_line, gridI d r0_good 8 3 x0_good]) (gs' := fun _ => [gMd d h0 a0_kept a0_tried a0_chosen r0_rows r0_line r0_good r0_work x0_shelf x0_rowSort x0_rowSize x0_moved x0_shown x0_tape x0_tapeSize g2 x0_lines x0_changes x0_coins x0_goods x0_works x0_years x0_gone x0_spent x0_at x0_token x0_from x0_figures x0_fault x0_numbers x0_statements x0_left x0_far x0_tons x0_way x0_steps x0_met x0_queue x0_totals, gridI d r0_line 20 7 x0_line, gridI d r0_good 8 3 x0_good]) (st' := fun _ => [.int v1]) (st := []) hK qd4_4.2.1 cv_RX7_94 iv_yX7_refuse (As := [.int (-2)]) (kX7_refuse _ d h0 r0_rows r0_line r0_good r0_work a0_kept a0_tried a0_chosen x0_shelf x0_rowSort x0_rowSize x0_rows x0_moved x0_shown x0_tape x0_tapeSize x0_refused x0_lines x0_line x0_changes x0_coins x0_goods x0_good x0_works x0_work x0_years x0_gone x0_spent x0_at x0_token x0_from x0_figures x0_fault x0_numbers x0_statements x0_left x0_far x0_tons x0_way x0_steps x0_met x0_queue x0_totals (-2) e3) rfl rfl (Nat.le_of_ble_eq_true rfl) (by decide) 0 0 rfl rfl rfl [0] [1, 2] rfl (by decide +kernel) rfl rfl [2, 0, 1] (by decide +kernel) (fun _ => rfl) (fun _ => rfl) rfl rfl rfl (fun _ => rfl) (fun _ => ?_)
    obtain rfl := Option.some.inj hf
    exact J_iret hK hR qd4_4.2.2.1 () rfl (by decide) (by decide)
  · have hf := iq hc1 hf
    refine J_iload_n hK qd4_3.2.2.1 rfl 1 rfl rfl ?_
    refine J_iconst (v := 1) hK qd4_3.2.2.2.1 rfl (by decide) ?_
    have j35 : fX7_turn_j35 n p1 x0_shelf x0_rowSort x0_rowSize x0_rows x0_moved x0_shown x0_tape x0_tapeSize x0_refused x0_lines x0_line x0_changes x0_coins x0_goods x0_good x0_works x0_work x0_years x0_gone x0_spent x0_at x0_token x0_from x0_figures x0_fault x0_numbers x0_statements x0_left x0_far x0_tons x0_way x0_steps x0_met x0_queue x0_totals = some out → J d Φ 7 [gMd d h0 a0_kept a0_tried a0_chosen r0_rows r0_line r0_good r0_work x0_shelf x0_rowSort x0_rowSize x0_moved x0_shown x0_tape x0_tapeSize x0_refused x0_lines x0_changes x0_coins x0_goods x0_works x0_years x0_gone x0_spent x0_at x0_token x0_from x0_figures x0_fault x0_numbers x0_statements x0_left x0_far x0_tons x0_way x0_steps x0_met x0_queue x0_totals, gridI d r0_line 20 7 x0_line, gridI d r0_good 8 3 x0_good] 0 0 35 [(0, .ref (h0 0)), (1, .int p1)] [] := by
      intro  hf
      unfold fX7_turn_j35 at hf
      refine J_aload_n hK qd4_4.2.2.2.1 rfl 0 rfl rfl ?_
      obtain ⟨g4, e5, hf⟩ := bs hf
      refine J_callV (m := 3) (m' := 3) (ce' := 0) (sl' := 0) (gr := [gridI d r0_good 8 3 x0_good]) (gs' := fun _ => [gMd d h0 a0_kept a0_tried a0_chosen r0_rows r0_line r0_good r0_work x0_shelf x0_rowSort x0_rowSize x0_moved x0_shown x0_tape x0_tapeSize x0_refused x0_lines x0_changes x0_coins x0_goods x0_works x0_years x0_gone x0_spent x0_at x0_token x0_from x0_figures x0_fault x0_numbers x0_statements g4 x0_far x0_tons x0_way x0_steps x0_met x0_queue x0_totals, gridI d r0_line 20 7 x0_line, gridI d r0_good 8 3 x0_good]) (st' := fun _ => []) (st := []) hK qd4_4.2.2.2.2.1 cv_RX7_276 iv_yX7_refill (As := []) (kX7_refill _ d h0 r0_rows r0_line r0_good r0_work a0_kept a0_tried a0_chosen n x0_shelf x0_rowSort x0_rowSize x0_rows x0_moved x0_shown x0_tape x0_tapeSize x0_refused x0_lines x0_line x0_changes x0_coins x0_goods x0_good x0_works x0_work x0_years x0_gone x0_spent x0_at x0_token x0_from x0_figures x0_fault x0_numbers x0_statements x0_left x0_far x0_tons x0_way x0_steps x0_met x0_queue x0_totals e5) rfl rfl (Nat.le_of_ble_eq_true rfl) (by decide) 0 0 rfl rfl rfl [0, 1] [2] rfl (by decide +kernel) rfl rfl [1, 2, 0] (by decide +kernel) (fun _ => rfl) (fun _ => rfl) rfl rfl rfl (fun _ => rfl) (fun _ => ?_)
      refine J_iconst (v := 0) hK qd4_4.2.2.2.2.2.1 rfl (by decide) ?_
      refine J_istore_n (L' := [(2, .int (0)), (0, .ref (h0 0)), (1, .int p1)]) hK qd4_4.2.2.2.2.2.2.1 rfl rfl (by decide) rfl ?_
      refine J_iconst (v := 0) hK qd4_4.2.2.2.2.2.2.2.1 rfl (by decide) ?_
      refine J_istore_n (L' := [(3, .int (0)), (2, .int (0)), (0, .ref (h0 0)), (1, .int p1)]) hK qd4_4.2.2.2.2.2.2.2.2.1 rfl rfl (by decide) rfl ?_
      refine J_iconst (v := 0) hK qd4_4.2.2.2.2.2.2.2.2.2.1 rfl (by decide) ?_
      refine J_istore (L' := [(4, .int (0)), (3, .int (0)), (2, .int (0)), (0, .ref (h0 0)), (1, .int p1)]) hK qd4_4.2.2.2.2.2.2.2.2.2.2.1 rfl (by decide) rfl ?_
      obtain ⟨e17, hl6, hf⟩ := bs hf
      have hx6_218 : ∀ (w18 : Int32) (w19 : Int32) (w20 : (Nat → Int32)) (w21 : (Nat → Int32)) (w22 : Int32) (w23 : (Nat → Int32)) (w24 : Int32) (w25 : Int64) (w26 : (Nat → Int32)), (w18, w19, w20, w21, w22, w23, w24, w25, w26) = e17 → J d Φ 7 [gMd d h0 a0_kept a0_tried a0_chosen r0_rows r0_line r0_good r0_work x0_shelf x0_rowSort x0_rowSize x0_moved x0_shown x0_tape x0_tapeSize x0_refused x0_lines x0_changes x0_coins x0_goods x0_works x0_years x0_gone x0_spent x0_at x0_token x0_from x0_figures x0_fault x0_numbers x0_statements w20 w21 w22 w23 w24 w25 w26 x0_totals, gridI d r0_line 20 7 x0_line, gridI d r0_good 8 3 x0_good] 0 0 218 [(0, .ref (h0 0)), (1, .int p1), (2, .int w18), (3, .int w19)] [] := by
        intro w18 w19 w20 w21 w22 w23 w24 w25 w26 he
        rw [← he] at hf
        have hf := un9 hf
        refine J_iload_n hK qd4_10.2.2.2.2.2.2.2.2.2.2.2.2.2.2.2.1 rfl 1 rfl rfl ?_
        refine J_if_ne (tg := 226) hK qd4_11.1 rfl rfl (fun hc219 => ?_) (fun hc219 => ?_)
        · have hf := iq hc219 hf
          refine J_iload_n hK qd4_11.2.2.2.1 rfl 1 rfl rfl ?_
          refine J_iconst (v := 1) hK qd4_11.2.2.2.2.1 rfl (by decide) ?_
          refine J_icmp_ne (tg := 235) hK qd4_11.2.2.2.2.2.1 rfl rfl (fun hc228 => ?_) (fun hc228 => ?_)
          · have hf := iq hc228 hf
            refine J_aload_n hK qd4_11.2.2.2.2.2.2.2.2.1 rfl 0 rfl rfl ?_
            refine J_get hK fo_RX7_61 qd4_11.2.2.2.2.2.2.2.2.2.1 rfl 0 0 rfl rfl rfl ?_
            refine J_iload_n hK qd4_11.2.2.2.2.2.2.2.2.2.2.1 rfl 1 rfl rfl ?_
            refine J_bipush (v := 10) hK qd4_11.2.2.2.2.2.2.2.2.2.2.2.1 rfl (by decide) ?_
            refine J_isub hK qd4_11.2.2.2.2.2.2.2.2.2.2.2.2.1 rfl ?_
            obtain ⟨v27, ev27, hf⟩ := bs hf
            refine J_iald hK qd4_11.2.2.2.2.2.2.2.2.2.2.2.2.2.1 rfl 0 15 rfl rfl ev27 ?_
            obtain rfl := Option.some.inj hf
            exact J_iret hK hR qd4_11.2.2.2.2.2.2.2.2.2.2.2.2.2.2.1 () rfl (by decide) (by decide)
          · have hf := ip hc228 hf
            refine J_iload_n hK qd4_11.2.2.2.2.2.2.1 rfl 3 rfl rfl ?_
            refine J_goto hK qd4_11.2.2.2.2.2.2.2.1 (n := 244) rfl ?_
            obtain rfl := Option.some.inj hf
            exact J_iret hK hR qd4_11.2.2.2.2.2.2.2.2.2.2.2.2.2.2.1 () rfl (by decide) (by decide)
        · have hf := ip hc219 hf
          refine J_iload_n hK qd4_11.2.1 rfl 2 rfl rfl ?_
          refine J_goto hK qd4_11.2.2.1 (n := 244) rfl ?_
          obtain rfl := Option.some.inj hf
          exact J_iret hK hR qd4_11.2.2.2.2.2.2.2.2.2.2.2.2.2.2.1 () rfl (by decide) (by decide)
      have lo6 : ∀ (k : Nat) (z7 : Int32) (z8 : Int32) (z9 : Int32) (z10 : (Nat → Int32)) (z11 : (Nat → Int32)) (z12 : Int32) (z13 : (Nat → Int32)) (z14 : Int32) (z15 : Int64) (z16 : (Nat → Int32)), lp (u10 (fX7_turn_s46 n x0_shelf x0_rowSort x0_rowSize x0_rows x0_moved x0_shown x0_tape x0_tapeSize x0_refused x0_lines x0_line x0_changes x0_coins x0_goods x0_good x0_works x0_work x0_years x0_gone x0_spent x0_at x0_token x0_from x0_figures x0_fault x0_numbers x0_statements x0_totals)) k (z7, z8, z9, z10, z11, z12, z13, z14, z15, z16) = some e17 → J d Φ 7 [gMd d h0 a0_kept a0_tried a0_chosen r0_rows r0_line r0_good r0_work x0_shelf x0_rowSort x0_rowSize x0_moved x0_shown x0_tape x0_tapeSize x0_refused x0_lines x0_changes x0_coins x0_goods x0_works x0_years x0_gone x0_spent x0_at x0_token x0_from x0_figures x0_fault x0_numbers x0_statements z10 z11 z12 z13 z14 z15 z16 x0_totals, gridI d r0_line 20 7 x0_line, gridI d r0_good 8 3 x0_good] 0 0 46 [(0, .ref (h0 0)), (1, .int p1), (2, .int z7), (3, .int z8), (4, .int z9)] [] := by
        intro k
        induction k with
        | zero => intro z7 z8 z9 z10 z11 z12 z13 z14 z15 z16 h; cases h
        | succ k ih6 =>
          intro z7 z8 z9 z10 z11 z12 z13 z14 z15 z16 h
          obtain ⟨k2, rr6, hk2, hs6, hr6⟩ := lp_ok h
          cases hk2
          have hs6 : fX7_turn_s46 n x0_shelf x0_rowSort x0_rowSize x0_rows x0_moved x0_shown x0_tape x0_tapeSize x0_refused x0_lines x0_line x0_changes x0_coins x0_goods x0_good x0_works x0_work x0_years x0_gone x0_spent x0_at x0_token x0_from x0_figures x0_fault x0_numbers x0_statements x0_totals z7 z8 z9 z10 z11 z12 z13 z14 z15 z16 = some rr6 := hs6
          unfold fX7_turn_s46 at hs6
          refine J_iload hK qd4_4.2.2.2.2.2.2.2.2.2.2.2.1 rfl 4 rfl ?_
          refine J_aload_n hK qd4_4.2.2.2.2.2.2.2.2.2.2.2.2.1 rfl 0 rfl rfl ?_
          refine J_get hK fo_RX7_125 qd4_4.2.2.2.2.2.2.2.2.2.2.2.2.2.1 rfl 0 0 rfl rfl rfl ?_
          refine J_icmp_ge (tg := 218) hK qd4_4.2.2.2.2.2.2.2.2.2.2.2.2.2.2.1 rfl rfl (fun hc52 => ?_) (fun hc52 => ?_)
          · have hs6 := ip hc52 hs6
            exact J_loc [0, 1, 2, 3] rfl (hx6_218 z7 z8 z10 z11 z12 z13 z14 z15 z16 (lpx hs6 hr6))
          · have hs6 := iq hc52 hs6
            refine J_aload_n hK qd4_4.2.2.2.2.2.2.2.2.2.2.2.2.2.2.2.1 rfl 0 rfl rfl ?_
            refine J_get hK fo_RX7_48 qd4_5.1 rfl 0 0 rfl rfl rfl ?_
            refine J_iload hK qd4_5.2.1 rfl 4 rfl ?_
            obtain ⟨q28, eq28, hs6⟩ := bs hs6
            refine J_aald hK qd4_5.2.2.1 rfl 0 12 rfl rfl rfl eq28 ?_
            refine J_iconst (v := 2) hK qd4_5.2.2.2.1 rfl (by decide) ?_
            obtain ⟨v29, ev29, hs6⟩ := bs hs6
            refine J_iald hK qd4_5.2.2.2.2.1 rfl 2 q28 rfl (gridI_at (ck_ok eq28).2.2) ev29 ?_
            refine J_istore (L' := [(5, .int v29), (0, .ref (h0 0)), (1, .int p1), (2, .int z7), (3, .int z8), (4, .int z9)]) hK qd4_5.2.2.2.2.2.1 rfl (by decide) rfl ?_
            refine J_aload_n hK qd4_5.2.2.2.2.2.2.1 rfl 1 rfl rfl ?_
            refine J_aload_n hK qd4_5.2.2.2.2.2.2.2.1 rfl 1 rfl rfl ?_
            refine J_get hK fo_RX7_48 qd4_5.2.2.2.2.2.2.2.2.1 rfl 0 0 rfl rfl rfl ?_
            refine J_iload hK qd4_5.2.2.2.2.2.2.2.2.2.1 rfl 5 rfl ?_
            obtain ⟨q30, eq30, hs6⟩ := bs hs6
            refine J_aald hK qd4_5.2.2.2.2.2.2.2.2.2.2.1 rfl 0 12 rfl rfl rfl eq30 ?_
            refine J_iconst (v := 0) hK qd4_5.2.2.2.2.2.2.2.2.2.2.2.1 rfl (by decide) ?_
            obtain ⟨v31, ev31, hs6⟩ := bs hs6
            refine J_iald hK qd4_5.2.2.2.2.2.2.2.2.2.2.2.2.1 rfl 2 q30 rfl (gridI_at (ck_ok eq30).2.2) ev31 ?_
            refine J_aload_n hK qd4_5.2.2.2.2.2.2.2.2.2.2.2.2.2.1 rfl 1 rfl rfl ?_
            refine J_get hK fo_RX7_48 qd4_5.2.2.2.2.2.2.2.2.2.2.2.2.2.2.1 rfl 0 0 rfl rfl rfl ?_
            refine J_iload hK qd4_5.2.2.2.2.2.2.2.2.2.2.2.2.2.2.2.1 rfl 5 rfl ?_
            obtain ⟨q32, eq32, hs6⟩ := bs hs6
            refine J_aald hK qd4_6.1 rfl 0 12 rfl rfl rfl eq32 ?_
            refine J_iconst (v := 1) hK qd4_6.2.1 rfl (by decide) ?_
            obtain ⟨v33, ev33, hs6⟩ := bs hs6
            refine J_iald hK qd4_6.2.2.1 rfl 2 q32 rfl (gridI_at (ck_ok eq32).2.2) ev33 ?_
            refine J_iload hK qd4_6.2.2.2.1 rfl 0 rfl ?_
            obtain ⟨⟨v34, ⟨g36, g37, g38, g39, g40, g41⟩⟩, e42, hs6⟩ := bs hs6
            have hs6 := un2 hs6
            have hs6 := un6 hs6
            refine J_callV (m := 3) (m' := 3) (ce' := 0) (sl' := 0) (gr := [gridI d r0_good 8 3 x0_good]) (gs' := fun _ => [gMd d h0 a0_kept a0_tried a0_chosen r0_rows r0_line r0_good r0_work x0_shelf x0_rowSort x0_rowSize x0_moved x0_shown x0_tape x0_tapeSize x0_refused x0_lines x0_changes x0_coins x0_goods x0_works x0_years x0_gone x0_spent x0_at x0_token x0_from x0_figures x0_fault x0_numbers x0_statements z10 g36 g37 g38 g39 g40 g41 x0_totals, gridI d r0_line 20 7 x0_line, gridI d r0_good 8 3 x0_good]) (st' := fun _ => [.int v34]) (st := []) hK qd4_6.2.2.2.2.1 cv_RX7_279 iv_yX7_findWay (As := [.int v31, .int v33, .int v29]) (kX7_findWay _ d h0 r0_rows r0_line r0_good r0_work a0_kept a0_tried a0_chosen n x0_shelf x0_rowSort x0_rowSize x0_rows x0_moved x0_shown x0_tape x0_tapeSize x0_refused x0_lines x0_line x0_changes x0_coins x0_goods x0_good x0_works x0_work x0_years x0_gone x0_spent x0_at x0_token x0_from x0_figures x0_fault x0_numbers x0_statements z10 z11 z12 z13 z14 z15 z16 x0_totals v31 v33 v29 e42) rfl rfl (Nat.le_of_ble_eq_true rfl) (by decide) 0 0 rfl rfl rfl [0, 1] [2] rfl (by decide +kernel) rfl rfl [1, 2, 0] (by decide +kernel) (fun _ => rfl) (fun _ => rfl) rfl rfl rfl (fun _ => rfl) (fun _ => ?_)
            refine J_if_ne (tg := 110) hK qd4_6.2.2.2.2.2.1 rfl rfl (fun hc90 => ?_) (fun hc90 => ?_)
            · have hs6 := iq hc90 hs6
              refine J_iload_n hK qd4_7.2.1 rfl 3 rfl rfl ?_
              refine J_iload hK qd4_7.2.2.1 rfl 0 rfl ?_
              refine J_aload_n hK qd4_7.2.2.2.1 rfl 1 rfl rfl ?_
              refine J_aload_n hK qd4_7.2.2.2.2.1 rfl 1 rfl rfl ?_
              refine J_get hK fo_RX7_48 qd4_7.2.2.2.2.2.1 rfl 0 0 rfl rfl rfl ?_
              refine J_iload hK qd4_7.2.2.2.2.2.2.1 rfl 5 rfl ?_
              obtain ⟨q43, eq43, hs6⟩ := bs hs6
              refine J_aald hK qd4_7.2.2.2.2.2.2.2.1 rfl 0 12 rfl rfl rfl eq43 ?_
              refine J_iconst (v := 0) hK qd4_7.2.2.2.2.2.2.2.2.1 rfl (by decide) ?_
              obtain ⟨v44, ev44, hs6⟩ := bs hs6
              refine J_iald hK qd4_7.2.2.2.2.2.2.2.2.2.1 rfl 2 q43 rfl (gridI_at (ck_ok eq43).2.2) ev44 ?_
              obtain ⟨v45, e46, hs6⟩ := bs hs6
              refine J_callV (m := 3) (m' := 3) (ce' := 0) (sl' := 0) (gr := [gridI d r0_line 20 7 x0_line, gridI d r0_good 8 3 x0_good]) (gs' := fun _ => [gMd d h0 a0_kept a0_tried a0_chosen r0_rows r0_line r0_good r0_work x0_shelf x0_rowSort x0_rowSize x0_moved x0_shown x0_tape x0_tapeSize x0_refused x0_lines x0_changes x0_coins x0_goods x0_works x0_years x0_gone x0_spent x0_at x0_token x0_from x0_figures x0_fault x0_numbers x0_statements z10 g36 g37 g38 g39 g40 g41 x0_totals, gridI d r0_line 20 7 x0_line, gridI d r0_good 8 3 x0_good]) (st' := fun _ => [.int v45, .int v29, .int z7]) (st := [.int v29, .int z7]) hK qd4_7.2.2.2.2.2.2.2.2.2.2.1 cv_RX7_270 iv_yX7_least (As := [.int v44]) (kX7_least _ d h0 r0_rows r0_line r0_good r0_work a0_kept a0_tried a0_chosen n x0_shelf x0_rowSort x0_rowSize x0_rows x0_moved x0_shown x0_tape x0_tapeSize x0_refused x0_lines x0_line x0_changes x0_coins x0_goods x0_good x0_works x0_work x0_years x0_gone x0_spent x0_at x0_token x0_from x0_figures x0_fault x0_numbers x0_statements z10 g36 g37 g38 g39 g40 g41 x0_totals v44 e46) rfl rfl (Nat.le_of_ble_eq_true rfl) (by decide) 0 0 rfl rfl rfl [0] [1, 2] rfl (by decide +kernel) rfl rfl [2, 0, 1] (by decide +kernel) (fun _ => rfl) (fun _ => rfl) rfl rfl rfl (fun _ => rfl) (fun _ => ?_)
              refine J_imul hK qd4_7.2.2.2.2.2.2.2.2.2.2.2.1 rfl ?_
              refine J_iadd hK qd4_7.2.2.2.2.2.2.2.2.2.2.2.2.1 rfl ?_
              refine J_istore_n (L' := [(2, .int (z7 + (v29 * v45))), (5, .int v29), (0, .ref (h0 0)), (1, .int p1), (3, .int z8), (4, .int z9)]) hK qd4_7.2.2.2.2.2.2.2.2.2.2.2.2.2.1 rfl rfl (by decide) rfl ?_
              refine J_iconst (v := 1) hK qd4_7.2.2.2.2.2.2.2.2.2.2.2.2.2.2.1 rfl (by decide) ?_
              refine J_istore (L' := [(6, .int (1)), (2, .int (z7 + (v29 * v45))), (5, .int v29), (0, .ref (h0 0)), (1, .int p1), (3, .int z8), (4, .int z9)]) hK qd4_7.2.2.2.2.2.2.2.2.2.2.2.2.2.2.2.1 rfl (by decide) rfl ?_
              obtain ⟨e50, hl47, hs6⟩ := bs hs6
              have hx47_212 : ∀ (w51 : (Nat → Int32)), w51 = e50 → J d Φ 7 [gMd d h0 a0_kept a0_tried a0_chosen r0_rows r0_line r0_good r0_work x0_shelf x0_rowSort x0_rowSize x0_moved x0_shown x0_tape x0_tapeSize x0_refused x0_lines x0_changes x0_coins x0_goods x0_works x0_years x0_gone x0_spent x0_at x0_token x0_from x0_figures x0_fault x0_numbers x0_statements w51 g36 g37 g38 g39 g40 g41 x0_totals, gridI d r0_line 20 7 x0_line, gridI d r0_good 8 3 x0_good] 0 0 212 [(0, .ref (h0 0)), (1, .int p1), (2, .int (z7 + (v29 * v45))), (3, .int z8), (4, .int z9)] [] := by
                intro w51 he
                rw [← he] at hs6
                refine J_iinc (L' := [(4, .int (z9 + 1)), (0, .ref (h0 0)), (1, .int p1), (2, .int (z7 + (v29 * v45))), (3, .int z8)]) (v := (z9 + 1)) hK qd4_10.2.2.2.2.2.2.2.2.2.2.2.2.2.1 rfl 4 rfl rfl (by decide) rfl ?_
                refine J_goto hK qd4_10.2.2.2.2.2.2.2.2.2.2.2.2.2.2.1 (n := 46) rfl ?_
                exact J_loc [1, 2, 3, 4, 0] rfl (ih6 (z7 + (v29 * v45)) z8 (z9 + 1) w51 g36 g37 g38 g39 g40 g41 (lpc hs6 hr6))
              have lo47 : ∀ (k : Nat) (z48 : Int32) (z49 : (Nat → Int32)), lp (u2 (fX7_turn_s132 v29 g38 g39)) k (z48, z49) = some e50 → J d Φ 7 [gMd d h0 a0_kept a0_tried a0_chosen r0_rows r0_line r0_good r0_work x0_shelf x0_rowSort x0_rowSize x0_moved x0_shown x0_tape x0_tapeSize x0_refused x0_lines x0_changes x0_coins x0_goods x0_works x0_years x0_gone x0_spent x0_at x0_token x0_from x0_figures x0_fault x0_numbers x0_statements z49 g36 g37 g38 g39 g40 g41 x0_totals, gridI d r0_line 20 7 x0_line, gridI d r0_good 8 3 x0_good] 0 0 132 [(0, .ref (h0 0)), (1, .int p1), (2, .int (z7 + (v29 * v45))), (3, .int z8), (4, .int z9), (5, .int v29), (6, .int z48)] [] := by
                intro k
                induction k with
                | zero => intro z48 z49 h; cases h
                | succ k ih47 =>
                  intro z48 z49 h
                  obtain ⟨k2, rr47, hk2, hs47, hr47⟩ := lp_ok h
                  cases hk2
                  have hs47 : fX7_turn_s132 v29 g38 g39 z48 z49 = some rr47 := hs47
                  unfold fX7_turn_s132 at hs47
                  refine J_iload hK qd4_8.1 rfl 6 rfl ?_
                  refine J_aload_n hK qd4_8.2.1 rfl 0 rfl rfl ?_
                  refine J_get hK fo_RX7_267 qd4_8.2.2.1 rfl 0 0 rfl rfl rfl ?_
                  refine J_icmp_ge (tg := 212) hK qd4_8.2.2.2.1 rfl rfl (fun hc138 => ?_) (fun hc138 => ?_)
                  · have hs47 := ip hc138 hs47
                    exact J_loc [0, 1, 2, 3, 4] rfl (hx47_212 z49 (lpx hs47 hr47))
                  · have hs47 := iq hc138 hs47
                    refine J_aload_n hK qd4_8.2.2.2.2.1 rfl 0 rfl rfl ?_
                    refine J_get hK fo_RX7_67 qd4_8.2.2.2.2.2.1 rfl 0 0 rfl rfl rfl ?_
                    refine J_iload hK qd4_8.2.2.2.2.2.2.1 rfl 6 rfl ?_
                    obtain ⟨v52, ev52, hs47⟩ := bs hs47
                    refine J_iald hK qd4_8.2.2.2.2.2.2.2.1 rfl 0 17 rfl rfl ev52 ?_
                    refine J_iconst (v := 3) hK qd4_8.2.2.2.2.2.2.2.2.1 rfl (by decide) ?_
                    refine J_icmp_lt (tg := 206) hK qd4_8.2.2.2.2.2.2.2.2.2.1 rfl rfl (fun hc149 => ?_) (fun hc149 => ?_)
                    · have hs47 := ip hc149 hs47
                      refine J_iinc (L' := [(6, .int (z48 + 1)), (0, .ref (h0 0)), (1, .int p1), (2, .int (z7 + (v29 * v45))), (3, .int z8), (4, .int z9), (5, .int v29)]) (v := (z48 + 1)) hK qd4_10.2.2.2.2.2.2.2.2.2.2.2.1 rfl 6 rfl rfl (by decide) rfl ?_
                      refine J_goto hK qd4_10.2.2.2.2.2.2.2.2.2.2.2.2.1 (n := 132) rfl ?_
                      exact J_loc [1, 2, 3, 4, 5, 6, 0] rfl (ih47 (z48 + 1) z49 (lpc hs47 hr47))
                    · have hs47 := iq hc149 hs47
                      refine J_aload_n hK qd4_8.2.2.2.2.2.2.2.2.2.2.1 rfl 0 rfl rfl ?_
                      refine J_get hK fo_RX7_61 qd4_8.2.2.2.2.2.2.2.2.2.2.2.1 rfl 0 0 rfl rfl rfl ?_
                      refine J_aload_n hK qd4_8.2.2.2.2.2.2.2.2.2.2.2.2.1 rfl 0 rfl rfl ?_
                      refine J_get hK fo_RX7_67 qd4_8.2.2.2.2.2.2.2.2.2.2.2.2.2.1 rfl 0 0 rfl rfl rfl ?_
                      refine J_iload hK qd4_8.2.2.2.2.2.2.2.2.2.2.2.2.2.2.1 rfl 6 rfl ?_
                      obtain ⟨v53, ev53, hs47⟩ := bs hs47
                      refine J_iald hK qd4_8.2.2.2.2.2.2.2.2.2.2.2.2.2.2.2.1 rfl 0 17 rfl rfl ev53 ?_
                      refine J_iconst (v := 3) hK qd4_9.1 rfl (by decide) ?_
                      refine J_isub hK qd4_9.2.1 rfl ?_
                      refine J_aload_n hK qd4_9.2.2.1 rfl 0 rfl rfl ?_
                      refine J_get hK fo_RX7_61 qd4_9.2.2.2.1 rfl 0 0 rfl rfl rfl ?_
                      refine J_aload_n hK qd4_9.2.2.2.2.1 rfl 0 rfl rfl ?_
                      refine J_get hK fo_RX7_67 qd4_9.2.2.2.2.2.1 rfl 0 0 rfl rfl rfl ?_
                      refine J_iload hK qd4_9.2.2.2.2.2.2.1 rfl 6 rfl ?_
                      obtain ⟨v54, ev54, hs47⟩ := bs hs47
                      refine J_iald hK qd4_9.2.2.2.2.2.2.2.1 rfl 0 17 rfl rfl ev54 ?_
                      refine J_iconst (v := 3) hK qd4_9.2.2.2.2.2.2.2.2.1 rfl (by decide) ?_
                      refine J_isub hK qd4_9.2.2.2.2.2.2.2.2.2.1 rfl ?_
                      obtain ⟨v55, ev55, hs47⟩ := bs hs47
                      refine J_iald hK qd4_9.2.2.2.2.2.2.2.2.2.2.1 rfl 0 15 rfl rfl ev55 ?_
                      refine J_iload hK qd4_9.2.2.2.2.2.2.2.2.2.2.2.1 rfl 5 rfl ?_
                      refine J_icmp_ge (tg := 188) hK qd4_9.2.2.2.2.2.2.2.2.2.2.2.2.1 rfl rfl (fun hc181 => ?_) (fun hc181 => ?_)
                      · have hs47 := ip hc181 hs47
                        refine J_aload_n hK qd4_9.2.2.2.2.2.2.2.2.2.2.2.2.2.2.2.1 rfl 0 rfl rfl ?_
                        refine J_get hK fo_RX7_61 qd4_10.1 rfl 0 0 rfl rfl rfl ?_
                        refine J_aload_n hK qd4_10.2.1 rfl 0 rfl rfl ?_
                        refine J_get hK fo_RX7_67 qd4_10.2.2.1 rfl 0 0 rfl rfl rfl ?_
                        refine J_iload hK qd4_10.2.2.2.1 rfl 6 rfl ?_
                        obtain ⟨v56, ev56, hs47⟩ := bs hs47
                        refine J_iald hK qd4_10.2.2.2.2.1 rfl 0 17 rfl rfl ev56 ?_
                        refine J_iconst (v := 3) hK qd4_10.2.2.2.2.2.1 rfl (by decide) ?_
                        refine J_isub hK qd4_10.2.2.2.2.2.2.1 rfl ?_
                        obtain ⟨v57, ev57, hs47⟩ := bs hs47
                        refine J_iald hK qd4_10.2.2.2.2.2.2.2.1 rfl 0 15 rfl rfl ev57 ?_
                        refine J_iload hK qd4_10.2.2.2.2.2.2.2.2.1 rfl 5 rfl ?_
                        refine J_isub hK qd4_10.2.2.2.2.2.2.2.2.2.1 rfl ?_
                        obtain ⟨f58, ef58, hs47⟩ := bs hs47
                        refine J_iast (g' := gMd d h0 a0_kept a0_tried a0_chosen r0_rows r0_line r0_good r0_work x0_shelf x0_rowSort x0_rowSize x0_moved x0_shown x0_tape x0_tapeSize x0_refused x0_lines x0_changes x0_coins x0_goods x0_works x0_years x0_gone x0_spent x0_at x0_token x0_from x0_figures x0_fault x0_numbers x0_statements f58 g36 g37 g38 g39 g40 g41 x0_totals) (gs' := [gMd d h0 a0_kept a0_tried a0_chosen r0_rows r0_line r0_good r0_work x0_shelf x0_rowSort x0_rowSize x0_moved x0_shown x0_tape x0_tapeSize x0_refused x0_lines x0_changes x0_coins x0_goods x0_works x0_years x0_gone x0_spent x0_at x0_token x0_from x0_figures x0_fault x0_numbers x0_statements f58 g36 g37 g38 g39 g40 g41 x0_totals, gridI d r0_line 20 7 x0_line, gridI d r0_good 8 3 x0_good]) hK qd4_10.2.2.2.2.2.2.2.2.2.2.1 rfl 0 15 rfl rfl ef58 rfl rfl ?_
                        refine J_iinc (L' := [(6, .int (z48 + 1)), (0, .ref (h0 0)), (1, .int p1), (2, .int (z7 + (v29 * v45))), (3, .int z8), (4, .int z9), (5, .int v29)]) (v := (z48 + 1)) hK qd4_10.2.2.2.2.2.2.2.2.2.2.2.1 rfl 6 rfl rfl (by decide) rfl ?_
                        refine J_goto hK qd4_10.2.2.2.2.2.2.2.2.2.2.2.2.1 (n := 132) rfl ?_
                        exact J_loc [1, 2, 3, 4, 5, 6, 0] rfl (ih47 (z48 + 1) f58 (lpc hs47 hr47))
                      · have hs47 := iq hc181 hs47
                        refine J_iconst (v := 0) hK qd4_9.2.2.2.2.2.2.2.2.2.2.2.2.2.1 rfl (by decide) ?_
                        refine J_goto hK qd4_9.2.2.2.2.2.2.2.2.2.2.2.2.2.2.1 (n := 205) rfl ?_
                        obtain ⟨f59, ef59, hs47⟩ := bs hs47
                        refine J_iast (g' := gMd d h0 a0_kept a0_tried a0_chosen r0_rows r0_line r0_good r0_work x0_shelf x0_rowSort x0_rowSize x0_moved x0_shown x0_tape x0_tapeSize x0_refused x0_lines x0_changes x0_coins x0_goods x0_works x0_years x0_gone x0_spent x0_at x0_token x0_from x0_figures x0_fault x0_numbers x0_statements f59 g36 g37 g38 g39 g40 g41 x0_totals) (gs' := [gMd d h0 a0_kept a0_tried a0_chosen r0_rows r0_line r0_good r0_work x0_shelf x0_rowSort x0_rowSize x0_moved x0_shown x0_tape x0_tapeSize x0_refused x0_lines x0_changes x0_coins x0_goods x0_works x0_years x0_gone x0_spent x0_at x0_token x0_from x0_figures x0_fault x0_numbers x0_statements f59 g36 g37 g38 g39 g40 g41 x0_totals, gridI d r0_line 20 7 x0_line, gridI d r0_good 8 3 x0_good]) hK qd4_10.2.2.2.2.2.2.2.2.2.2.1 rfl 0 15 rfl rfl ef59 rfl rfl ?_
                        refine J_iinc (L' := [(6, .int (z48 + 1)), (0, .ref (h0 0)), (1, .int p1), (2, .int (z7 + (v29 * v45))), (3, .int z8), (4, .int z9), (5, .int v29)]) (v := (z48 + 1)) hK qd4_10.2.2.2.2.2.2.2.2.2.2.2.1 rfl 6 rfl rfl (by decide) rfl ?_
                        refine J_goto hK qd4_10.2.2.2.2.2.2.2.2.2.2.2.2.1 (n := 132) rfl ?_
                        exact J_loc [1, 2, 3, 4, 5, 6, 0] rfl (ih47 (z48 + 1) f59 (lpc hs47 hr47))
              exact J_loc [3, 4, 1, 5, 6, 2, 0] rfl (lo47 n (1) z10 hl47)
            · have hs6 := ip hc90 hs6
              refine J_iload_n hK qd4_6.2.2.2.2.2.2.1 rfl 3 rfl rfl ?_
              refine J_sipush (v := 999) hK qd4_6.2.2.2.2.2.2.2.1 rfl (by decide) ?_
              refine J_iload hK qd4_6.2.2.2.2.2.2.2.2.1 rfl 0 rfl ?_
              refine J_imul hK qd4_6.2.2.2.2.2.2.2.2.2.1 rfl ?_
              refine J_iadd hK qd4_6.2.2.2.2.2.2.2.2.2.2.1 rfl ?_
              refine J_istore_n (L' := [(2, .int (z7 + (999 * v29))), (5, .int v29), (0, .ref (h0 0)), (1, .int p1), (3, .int z8), (4, .int z9)]) hK qd4_6.2.2.2.2.2.2.2.2.2.2.2.1 rfl rfl (by decide) rfl ?_
              refine J_iload_n hK qd4_6.2.2.2.2.2.2.2.2.2.2.2.2.1 rfl 4 rfl rfl ?_
              refine J_iload hK qd4_6.2.2.2.2.2.2.2.2.2.2.2.2.2.1 rfl 1 rfl ?_
              refine J_iadd hK qd4_6.2.2.2.2.2.2.2.2.2.2.2.2.2.2.1 rfl ?_
              refine J_istore_n (L' := [(3, .int (z8 + v29)), (2, .int (z7 + (999 * v29))), (5, .int v29), (0, .ref (h0 0)), (1, .int p1), (4, .int z9)]) hK qd4_6.2.2.2.2.2.2.2.2.2.2.2.2.2.2.2.1 rfl rfl (by decide) rfl ?_
              refine J_goto hK qd4_7.1 (n := 212) rfl ?_
              refine J_iinc (L' := [(4, .int (z9 + 1)), (3, .int (z8 + v29)), (2, .int (z7 + (999 * v29))), (5, .int v29), (0, .ref (h0 0)), (1, .int p1)]) (v := (z9 + 1)) hK qd4_10.2.2.2.2.2.2.2.2.2.2.2.2.2.1 rfl 5 rfl rfl (by decide) rfl ?_
              refine J_goto hK qd4_10.2.2.2.2.2.2.2.2.2.2.2.2.2.2.1 (n := 46) rfl ?_
              exact J_loc [4, 5, 2, 1, 0] rfl (ih6 (z7 + (999 * v29)) (z8 + v29) (z9 + 1) z10 g36 g37 g38 g39 g40 g41 (lpc hs6 hr6))
      exact J_loc [3, 4, 2, 1, 0] rfl (lo6 n (0) (0) (0) g4 x0_far x0_tons x0_way x0_steps x0_met x0_queue hl6)
    refine J_icmp_le (tg := 35) hK qd4_3.2.2.2.2.1 rfl rfl (fun hc6 => ?_) (fun hc6 => ?_)
    · have hf := ip hc6 hf
      exact (j35  hf)
    · have hf := iq hc6 hf
      refine J_iload_n hK qd4_3.2.2.2.2.2.1 rfl 1 rfl rfl ?_
      refine J_i2l hK qd4_3.2.2.2.2.2.2.1 rfl ?_
      refine J_ldc2 (v := (10 : Int64)) hK qd4_3.2.2.2.2.2.2.2.1 rfl wk_RX7_168 ?_
      refine J_bipush (v := 9) hK qd4_3.2.2.2.2.2.2.2.2.1 rfl (by decide) ?_
      refine J_aload_n hK qd4_3.2.2.2.2.2.2.2.2.2.1 rfl 0 rfl rfl ?_
      refine J_get hK fo_RX7_82 qd4_3.2.2.2.2.2.2.2.2.2.2.1 rfl 0 0 rfl rfl rfl ?_
      refine J_iadd hK qd4_3.2.2.2.2.2.2.2.2.2.2.2.1 rfl ?_
      refine J_i2l hK qd4_3.2.2.2.2.2.2.2.2.2.2.2.2.1 rfl ?_
      obtain ⟨v60, e61, hf⟩ := bs hf
      refine J_callS (m := 3) (m' := 3) (ce' := 0) (sl' := 0) (gr := [gMd d h0 a0_kept a0_tried a0_chosen r0_rows r0_line r0_good r0_work x0_shelf x0_rowSort x0_rowSize x0_moved x0_shown x0_tape x0_tapeSize x0_refused x0_lines x0_changes x0_coins x0_goods x0_works x0_years x0_gone x0_spent x0_at x0_token x0_from x0_figures x0_fault x0_numbers x0_statements x0_left x0_far x0_tons x0_way x0_steps x0_met x0_queue x0_totals, gridI d r0_line 20 7 x0_line, gridI d r0_good 8 3 x0_good]) (gs' := fun _ => [gMd d h0 a0_kept a0_tried a0_chosen r0_rows r0_line r0_good r0_work x0_shelf x0_rowSort x0_rowSize x0_moved x0_shown x0_tape x0_tapeSize x0_refused x0_lines x0_changes x0_coins x0_goods x0_works x0_years x0_gone x0_spent x0_at x0_token x0_from x0_figures x0_fault x0_numbers x0_statements x0_left x0_far x0_tons x0_way x0_steps x0_met x0_queue x0_totals, gridI d r0_line 20 7 x0_line, gridI d r0_good 8 3 x0_good]) (st' := fun _ => [.int v60]) (st := []) hK qd4_3.2.2.2.2.2.2.2.2.2.2.2.2.2.1 cv_RX7_78 ws_yX7_in (As := [.long ((p1).toInt64), .long (10 : Int64), .long (((9 + x0_lines)).toInt64)]) (kX7_in _ d ((p1).toInt64) (10 : Int64) (((9 + x0_lines)).toInt64) e61) rfl rfl (Nat.le_of_ble_eq_true rfl) (by decide) [] [0, 1, 2] rfl (by decide +kernel) rfl rfl [0, 1, 2] (by decide +kernel) (fun _ => rfl) (fun _ => rfl) rfl rfl rfl (fun _ => rfl) (fun _ => ?_)
      refine J_if_ne (tg := 35) hK qd4_3.2.2.2.2.2.2.2.2.2.2.2.2.2.2.1 rfl rfl (fun hc25 => ?_) (fun hc25 => ?_)
      · have hf := iq hc25 hf
        exact (j35  hf)
      · have hf := ip hc25 hf
        refine J_aload_n hK qd4_3.2.2.2.2.2.2.2.2.2.2.2.2.2.2.2.1 rfl 0 rfl rfl ?_
        refine J_bipush (v := (-2)) hK qd4_4.1 rfl (by decide) ?_
        obtain ⟨⟨v62, g63⟩, e64, hf⟩ := bs hf
        have hf := un2 hf
        refine J_callV (m := 3) (m' := 3) (ce' := 0) (sl' := 0) (gr := [gridI d r0_line 20 7 x0_line, gridI d r0_good 8 3 x0_good]) (gs' := fun _ => [gMd d h0 a0_kept a0_tried a0_chosen r0_rows r0_line r0_good r0_work x0_shelf x0_rowSort x0_rowSize x0_moved x0_shown x0_tape x0_tapeSize g63 x0_lines x0_changes x0_coins x0_goods x0_works x0_years x0_gone x0_spent x0_at x0_token x0_from x0_figures x0_fault x0_numbers x0_statements x0_left x0_far x0_tons x0_way x0_steps x0_met x0_queue x0_totals, gridI d r0_line 20 7 x0_line, gridI d r0_good 8 3 x0_good]) (st' := fun _ => [.int v62]) (st := []) hK qd4_4.2.1 cv_RX7_94 iv_yX7_refuse (As := [.int (-2)]) (kX7_refuse _ d h0 r0_rows r0_line r0_good r0_work a0_kept a0_tried a0_chosen x0_shelf x0_rowSort x0_rowSize x0_rows x0_moved x0_shown x0_tape x0_tapeSize x0_refused x0_lines x0_line x0_changes x0_coins x0_goods x0_good x0_works x0_work x0_years x0_gone x0_spent x0_at x0_token x0_from x0_figures x0_fault x0_numbers x0_statements x0_left x0_far x0_tons x0_way x0_steps x0_met x0_queue x0_totals (-2) e64) rfl rfl (Nat.le_of_ble_eq_true rfl) (by decide) 0 0 rfl rfl rfl [0] [1, 2] rfl (by decide +kernel) rfl rfl [2, 0, 1] (by decide +kernel) (fun _ => rfl) (fun _ => rfl) rfl rfl rfl (fun _ => rfl) (fun _ => ?_)
        obtain rfl := Option.some.inj hf
        exact J_iret hK hR qd4_4.2.2.1 () rfl (by decide) (by decide)
end

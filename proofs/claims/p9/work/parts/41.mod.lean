def fX7_isUnder_j19 (p0 : Int32) (p1 : Int32) : Option (Int32) :=
  if p1 = 4 then (if p0 = 5 then (some (1)) else (some (0))) else (some (0))
def fX7_isUnder (p0 : Int32) (p1 : Int32) : Option (Int32) :=
  if p1 = 0 then (some (1)) else (if p0 = p1 then (some (1)) else (if p1 = 1 then (if p0 = 2 then (some (1)) else (fX7_isUnder_j19 p0 p1)) else (fX7_isUnder_j19 p0 p1)))
set_option maxHeartbeats 4000000 in
set_option maxRecDepth 100000 in
theorem kX7_isUnder (l : Launch) (d : DT)  (p0 : Int32) (p1 : Int32)  {out : Int32} (hf : fX7_isUnder p0 p1 = some out) : Ct l d yX7_isUnder cX7_isUnder 2 (some .boolean) { frames := 0, cells := 0, slots := 0, locals := 0 } [.int p0, .int p1] [] (fun _ : Unit => (some (.int out), [])) := by
  refine Ct.of (by decide) (Nat.le_of_ble_eq_true rfl) ?_
  intro Φ hl hK hR
  subst hl
  have hK : Ok d Φ RX7 "isUnder" cX7_isUnder 2 (some .boolean) { frames := 0, cells := 0, slots := 0, locals := 0 } := hK
  unfold fX7_isUnder at hf
  show J d Φ 2 [] 0 0 0 [(0, .int p0), (1, .int p1)] []
  refine J_iload_n hK dX7_isUnder_0 rfl 1 rfl rfl ?_
  refine J_if_eq (tg := 29) hK dX7_isUnder_1 rfl rfl (fun hc1 => ?_) (fun hc1 => ?_)
  · have hf := ip hc1 hf
    refine J_iconst (v := 1) hK dX7_isUnder_29 rfl (by decide) ?_
    refine J_goto hK dX7_isUnder_30 (n := 34) rfl ?_
    obtain rfl := Option.some.inj hf
    exact J_zret hK hR dX7_isUnder_34 () rfl rfl (by decide) (by decide)
  · have hf := iq hc1 hf
    refine J_iload_n hK dX7_isUnder_4 rfl 0 rfl rfl ?_
    refine J_iload_n hK dX7_isUnder_5 rfl 1 rfl rfl ?_
    refine J_icmp_eq (tg := 29) hK dX7_isUnder_6 rfl rfl (fun hc6 => ?_) (fun hc6 => ?_)
    · have hf := ip hc6 hf
      refine J_iconst (v := 1) hK dX7_isUnder_29 rfl (by decide) ?_
      refine J_goto hK dX7_isUnder_30 (n := 34) rfl ?_
      obtain rfl := Option.some.inj hf
      exact J_zret hK hR dX7_isUnder_34 () rfl rfl (by decide) (by decide)
    · have hf := iq hc6 hf
      refine J_iload_n hK dX7_isUnder_9 rfl 1 rfl rfl ?_
      refine J_iconst (v := 1) hK dX7_isUnder_10 rfl (by decide) ?_
      have j19 : fX7_isUnder_j19 p0 p1 = some out → J d Φ 2 [] 0 0 19 [(0, .int p0), (1, .int p1)] [] := by
        intro  hf
        unfold fX7_isUnder_j19 at hf
        refine J_iload_n hK dX7_isUnder_19 rfl 1 rfl rfl ?_
        refine J_iconst (v := 4) hK dX7_isUnder_20 rfl (by decide) ?_
        refine J_icmp_ne (tg := 33) hK dX7_isUnder_21 rfl rfl (fun hc21 => ?_) (fun hc21 => ?_)
        · have hf := iq hc21 hf
          refine J_iconst (v := 0) hK dX7_isUnder_33 rfl (by decide) ?_
          obtain rfl := Option.some.inj hf
          exact J_zret hK hR dX7_isUnder_34 () rfl rfl (by decide) (by decide)
        · have hf := ip hc21 hf
          refine J_iload_n hK dX7_isUnder_24 rfl 0 rfl rfl ?_
          refine J_iconst (v := 5) hK dX7_isUnder_25 rfl (by decide) ?_
          refine J_icmp_ne (tg := 33) hK dX7_isUnder_26 rfl rfl (fun hc26 => ?_) (fun hc26 => ?_)
          · have hf := iq hc26 hf
            refine J_iconst (v := 0) hK dX7_isUnder_33 rfl (by decide) ?_
            obtain rfl := Option.some.inj hf
            exact J_zret hK hR dX7_isUnder_34 () rfl rfl (by decide) (by decide)
          · have hf := ip hc26 hf
            refine J_iconst (v := 1) hK dX7_isUnder_29 rfl (by decide) ?_
            refine J_goto hK dX7_isUnder_30 (n := 34) rfl ?_
            obtain rfl := Option.some.inj hf
            exact J_zret hK hR dX7_isUnder_34 () rfl rfl (by decide) (by decide)
      refine J_icmp_ne (tg := 19) hK dX7_isUnder_11 rfl rfl (fun hc11 => ?_) (fun hc11 => ?_)
      · have hf := iq hc11 hf
        exact (j19  hf)
      · have hf := ip hc11 hf
        refine J_iload_n hK dX7_isUnder_14 rfl 0 rfl rfl ?_
        refine J_iconst (v := 2) hK dX7_isUnder_15 rfl (by decide) ?_
        refine J_icmp_eq (tg := 29) hK dX7_isUnder_16 rfl rfl (fun hc16 => ?_) (fun hc16 => ?_)
        · have hf := ip hc16 hf
          refine J_iconst (v := 1) hK dX7_isUnder_29 rfl (by decide) ?_
          refine J_goto hK dX7_isUnder_30 (n := 34) rfl ?_
          obtain rfl := Option.some.inj hf
          exact J_zret hK hR dX7_isUnder_34 () rfl rfl (by decide) (by decide)
        · have hf := iq hc16 hf
          exact (j19  hf)

def fX7_says_j78 (p1 : Int32) (p2 : Int32) (x0_shelf : (Nat → Int32)) (x0_rowSort : (Nat → Int32)) (x0_rowSize : (Nat → Int32)) (x0_rows : (Nat → Nat → Int64)) (x0_moved : (Nat → Int64)) (x0_shown : (Nat → Int32)) (x0_tape : (Nat → Int32)) (x0_tapeSize : Int32) (x0_refused : (Nat → Int32)) (x0_lines : Int32) (x0_line : (Nat → Nat → Int32)) (x0_changes : (Nat → Int32)) (x0_coins : (Nat → Int32)) (x0_goods : Int32) (x0_good : (Nat → Nat → Int32)) (x0_works : Int32) (x0_work : (Nat → Nat → Int32)) (x0_years : Int32) (x0_gone : Int32) (x0_spent : Int32) (x0_at : Int32) (x0_token : Int32) (x0_from : Int32) (x0_figures : Int64) (x0_fault : Int32) (x0_numbers : (Nat → Int32)) (x0_statements : Int32) (x0_left : (Nat → Int32)) (x0_far : (Nat → Int32)) (x0_tons : Int32) (x0_way : (Nat → Int32)) (x0_steps : Int32) (x0_met : Int64) (x0_queue : (Nat → Int32)) (x0_totals : (Nat → Int32)) : Option (Int32 × (Nat → Int32)) :=
  (rd 8 x0_shelf p1).bind fun v13 => if v13 = 0 then ((fX7_refuse (x0_shelf, x0_rowSort, x0_rowSize, x0_rows, x0_moved, x0_shown, x0_tape, x0_tapeSize, x0_refused, x0_lines, x0_line, x0_changes, x0_coins, x0_goods, x0_good, x0_works, x0_work, x0_years, x0_gone, x0_spent, x0_at, x0_token, x0_from, x0_figures, x0_fault, x0_numbers, x0_statements, x0_left, x0_far, x0_tons, x0_way, x0_steps, x0_met, x0_queue, x0_totals) (-4)).bind (u2 fun v20 g21 => some (v20, g21))) else ((rd 8 x0_shown p1).bind fun v14 => (ck v14 7).bind fun q15 => if p2 = 0 then ((rd 5 (x0_work q15) (3)).bind fun v19 => some (v19, x0_refused)) else (if 4 ≤ p2 then ((rd 5 (x0_work q15) (1)).bind fun v16 => (rd 5 (x0_work q15) (2)).bind fun v17 => some (((100 * v16) + v17), x0_refused)) else ((rd 5 (x0_work q15) (1)).bind fun v18 => some (v18, x0_refused))))
def fX7_says (X0 : MdT) (p1 : Int32) (p2 : Int32) : Option (Int32 × (Nat → Int32)) :=
  u35 (fun (x0_shelf : (Nat → Int32)) (x0_rowSort : (Nat → Int32)) (x0_rowSize : (Nat → Int32)) (x0_rows : (Nat → Nat → Int64)) (x0_moved : (Nat → Int64)) (x0_shown : (Nat → Int32)) (x0_tape : (Nat → Int32)) (x0_tapeSize : Int32) (x0_refused : (Nat → Int32)) (x0_lines : Int32) (x0_line : (Nat → Nat → Int32)) (x0_changes : (Nat → Int32)) (x0_coins : (Nat → Int32)) (x0_goods : Int32) (x0_good : (Nat → Nat → Int32)) (x0_works : Int32) (x0_work : (Nat → Nat → Int32)) (x0_years : Int32) (x0_gone : Int32) (x0_spent : Int32) (x0_at : Int32) (x0_token : Int32) (x0_from : Int32) (x0_figures : Int64) (x0_fault : Int32) (x0_numbers : (Nat → Int32)) (x0_statements : Int32) (x0_left : (Nat → Int32)) (x0_far : (Nat → Int32)) (x0_tons : Int32) (x0_way : (Nat → Int32)) (x0_steps : Int32) (x0_met : Int64) (x0_queue : (Nat → Int32)) (x0_totals : (Nat → Int32)) => (fX7_in ((p1).toInt64) (0 : Int64) (7 : Int64)).bind (fun v1 => if v1 = 0 then ((fX7_refuse (x0_shelf, x0_rowSort, x0_rowSize, x0_rows, x0_moved, x0_shown, x0_tape, x0_tapeSize, x0_refused, x0_lines, x0_line, x0_changes, x0_coins, x0_goods, x0_good, x0_works, x0_work, x0_years, x0_gone, x0_spent, x0_at, x0_token, x0_from, x0_figures, x0_fault, x0_numbers, x0_statements, x0_left, x0_far, x0_tons, x0_way, x0_steps, x0_met, x0_queue, x0_totals) (-2)).bind (u2 fun v3 g4 => some (v3, g4))) else ((fX7_in ((p2).toInt64) (0 : Int64) (5 : Int64)).bind (fun v6 => if v6 = 0 then ((fX7_refuse (x0_shelf, x0_rowSort, x0_rowSize, x0_rows, x0_moved, x0_shown, x0_tape, x0_tapeSize, x0_refused, x0_lines, x0_line, x0_changes, x0_coins, x0_goods, x0_good, x0_works, x0_work, x0_years, x0_gone, x0_spent, x0_at, x0_token, x0_from, x0_figures, x0_fault, x0_numbers, x0_statements, x0_left, x0_far, x0_tons, x0_way, x0_steps, x0_met, x0_queue, x0_totals) (-2)).bind (u2 fun v31 g32 => some (v31, g32))) else ((rd 8 x0_shelf p1).bind fun v8 => if v8 = 1 then ((fX7_refuse (x0_shelf, x0_rowSort, x0_rowSize, x0_rows, x0_moved, x0_shown, x0_tape, x0_tapeSize, x0_refused, x0_lines, x0_line, x0_changes, x0_coins, x0_goods, x0_good, x0_works, x0_work, x0_years, x0_gone, x0_spent, x0_at, x0_token, x0_from, x0_figures, x0_fault, x0_numbers, x0_statements, x0_left, x0_far, x0_tons, x0_way, x0_steps, x0_met, x0_queue, x0_totals) (-3)).bind (u2 fun v9 g10 => some (v9, g10))) else ((rd 8 x0_shelf p1).bind fun v12 => if v12 = 2 then ((rd 8 x0_shown p1).bind fun v23 => (ck v23 7).bind fun q24 => (rd 5 (x0_work q24) (0)).bind fun v25 => (fX7_isUnder v25 p2).bind (fun v26 => if v26 = 0 then ((fX7_refuse (x0_shelf, x0_rowSort, x0_rowSize, x0_rows, x0_moved, x0_shown, x0_tape, x0_tapeSize, x0_refused, x0_lines, x0_line, x0_changes, x0_coins, x0_goods, x0_good, x0_works, x0_work, x0_years, x0_gone, x0_spent, x0_at, x0_token, x0_from, x0_figures, x0_fault, x0_numbers, x0_statements, x0_left, x0_far, x0_tons, x0_way, x0_steps, x0_met, x0_queue, x0_totals) (-3)).bind (u2 fun v28 g29 => some (v28, g29))) else (fX7_says_j78 p1 p2 x0_shelf x0_rowSort x0_rowSize x0_rows x0_moved x0_shown x0_tape x0_tapeSize x0_refused x0_lines x0_line x0_changes x0_coins x0_goods x0_good x0_works x0_work x0_years x0_gone x0_spent x0_at x0_token x0_from x0_figures x0_fault x0_numbers x0_statements x0_left x0_far x0_tons x0_way x0_steps x0_met x0_queue x0_totals))) else (fX7_says_j78 p1 p2 x0_shelf x0_rowSort x0_rowSize x0_rows x0_moved x0_shown x0_tape x0_tapeSize x0_refused x0_lines x0_line x0_changes x0_coins x0_goods x0_good x0_works x0_work x0_years x0_gone x0_spent x0_at x0_token x0_from x0_figures x0_fault x0_numbers x0_statements x0_left x0_far x0_tons x0_way x0_steps x0_met x0_queue x0_totals))))))) X0
set_option maxHeartbeats 4000000 in
set_option maxRecDepth 100000 in
theorem kX7_says (l : Launch) (d : DT) (h0 : Nat → Nat) (r0_rows : Nat → Nat) (r0_line : Nat → Nat) (r0_good : Nat → Nat) (r0_work : Nat → Nat) (a0_kept : Option Nat) (a0_tried : Option Nat) (a0_chosen : Option Nat) (x0_shelf : (Nat → Int32)) (x0_rowSort : (Nat → Int32)) (x0_rowSize : (Nat → Int32)) (x0_rows : (Nat → Nat → Int64)) (x0_moved : (Nat → Int64)) (x0_shown : (Nat → Int32)) (x0_tape : (Nat → Int32)) (x0_tapeSize : Int32) (x0_refused : (Nat → Int32)) (x0_lines : Int32) (x0_line : (Nat → Nat → Int32)) (x0_changes : (Nat → Int32)) (x0_coins : (Nat → Int32)) (x0_goods : Int32) (x0_good : (Nat → Nat → Int32)) (x0_works : Int32) (x0_work : (Nat → Nat → Int32)) (x0_years : Int32) (x0_gone : Int32) (x0_spent : Int32) (x0_at : Int32) (x0_token : Int32) (x0_from : Int32) (x0_figures : Int64) (x0_fault : Int32) (x0_numbers : (Nat → Int32)) (x0_statements : Int32) (x0_left : (Nat → Int32)) (x0_far : (Nat → Int32)) (x0_tons : Int32) (x0_way : (Nat → Int32)) (x0_steps : Int32) (x0_met : Int64) (x0_queue : (Nat → Int32)) (x0_totals : (Nat → Int32)) (p1 : Int32) (p2 : Int32)  {out : Int32 × (Nat → Int32)} (hf : fX7_says (x0_shelf, x0_rowSort, x0_rowSize, x0_rows, x0_moved, x0_shown, x0_tape, x0_tapeSize, x0_refused, x0_lines, x0_line, x0_changes, x0_coins, x0_goods, x0_good, x0_works, x0_work, x0_years, x0_gone, x0_spent, x0_at, x0_token, x0_from, x0_figures, x0_fault, x0_numbers, x0_statements, x0_left, x0_far, x0_tons, x0_way, x0_steps, x0_met, x0_queue, x0_totals) p1 p2 = some out) : Ct l d yX7_says cX7_says 4 (some .int) { frames := 1, cells := 0, slots := 0, locals := 25 } [.ref (h0 0), .int p1, .int p2] [gMd d h0 a0_kept a0_tried a0_chosen r0_rows r0_line r0_good r0_work x0_shelf x0_rowSort x0_rowSize x0_moved x0_shown x0_tape x0_tapeSize x0_refused x0_lines x0_changes x0_coins x0_goods x0_works x0_years x0_gone x0_spent x0_at x0_token x0_from x0_figures x0_fault x0_numbers x0_statements x0_left x0_far x0_tons x0_way x0_steps x0_met x0_queue x0_totals, gridI d r0_work 7 5 x0_work] (fun _ : Unit => (some (.int out.1), [gMd d h0 a0_kept a0_tried a0_chosen r0_rows r0_line r0_good r0_work x0_shelf x0_rowSort x0_rowSize x0_moved x0_shown x0_tape x0_tapeSize (out.2) x0_lines x0_changes x0_coins x0_goods x0_works x0_years x0_gone x0_spent x0_at x0_token x0_from x0_figures x0_fault x0_numbers x0_statements x0_left x0_far x0_tons x0_way x0_steps x0_met x0_queue x0_totals, gridI d r0_work 7 5 x0_work])) := by
  refine Ct.of (by decide) (Nat.le_of_ble_eq_true rfl) ?_
  intro Φ hl hK hR
  subst hl
  have hK : Ok d Φ RX7 "says" cX7_says 4 (some .int) { frames := 1, cells := 0, slots := 0, locals := 25 } := hK
  unfold fX7_says at hf
  have hf := un35 hf
  show J d Φ 4 [gMd d h0 a0_kept a0_tried a0_chosen r0_rows r0_line r0_good r0_work x0_shelf x0_rowSort x0_rowSize x0_moved x0_shown x0_tape x0_tapeSize x0_refused x0_lines x0_changes x0_coins x0_goods x0_works x0_years x0_gone x0_spent x0_at x0_token x0_from x0_figures x0_fault x0_numbers x0_statements x0_left x0_far x0_tons x0_way x0_steps x0_met x0_queue x0_totals, gridI d r0_work 7 5 x0_work] 0 0 0 [(0, .ref (h0 0)), (1, .int p1), (2, .int p2)] []
  refine J_iload_n hK dX7_says_0 rfl 1 rfl rfl ?_
  refine J_i2l hK dX7_says_1 rfl ?_
  refine J_lconst (v := 0) hK dX7_says_2 rfl (by decide) ?_
  refine J_ldc2 (v := (7 : Int64)) hK dX7_says_3 rfl wk_RX7_88 ?_
  obtain ⟨v1, e2, hf⟩ := bs hf
  refine J_callS (m' := 2) (ce' := 0) (sl' := 0) (gr := [gMd d h0 a0_kept a0_tried a0_chosen r0_rows r0_line r0_good r0_work x0_shelf x0_rowSort x0_rowSize x0_moved x0_shown x0_tape x0_tapeSize x0_refused x0_lines x0_changes x0_coins x0_goods x0_works x0_years x0_gone x0_spent x0_at x0_token x0_from x0_figures x0_fault x0_numbers x0_statements x0_left x0_far x0_tons x0_way x0_steps x0_met x0_queue x0_totals, gridI d r0_work 7 5 x0_work]) (gs' := fun _ => [gMd d h0 a0_kept a0_tried a0_chosen r0_rows r0_line r0_good r0_work x0_shelf x0_rowSort x0_rowSize x0_moved x0_shown x0_tape x0_tapeSize x0_refused x0_lines x0_changes x0_coins x0_goods x0_works x0_years x0_gone x0_spent x0_at x0_token x0_from x0_figures x0_fault x0_numbers x0_statements x0_left x0_far x0_tons x0_way x0_steps x0_met x0_queue x0_totals, gridI d r0_work 7 5 x0_work]) (st' := fun _ => [.int v1]) (st := []) hK dX7_says_6 cv_RX7_78 ws_yX7_in (As := [.long ((p1).toInt64), .long (0 : Int64), .long (7 : Int64)]) (kX7_in _ d ((p1).toInt64) (0 : Int64) (7 : Int64) e2) rfl rfl (Nat.le_of_ble_eq_true rfl) (by decide) [] [0, 1] rfl rfl rfl rfl [0, 1] rfl (fun _ => rfl) (fun _ => rfl) rfl rfl rfl (fun _ => rfl) (fun _ => ?_)
  refine J_if_eq (tg := 24) hK dX7_says_9 rfl rfl (fun hc9 => ?_) (fun hc9 => ?_)
  · have hf := ip hc9 hf
    refine J_aload_n hK dX7_says_24 rfl 0 rfl rfl ?_
    refine J_bipush (v := (-2)) hK dX7_says_25 rfl (by decide) ?_
    obtain ⟨⟨v3, g4⟩, e5, hf⟩ := bs hf
    have hf := un2 hf
    refine J_callV (m' := 2) (ce' := 0) (sl' := 0) (gr := [gridI d r0_work 7 5 x0_work]) (gs' := fun _ => [gMd d h0 a0_kept a0_tried a0_chosen r0_rows r0_line r0_good r0_work x0_shelf x0_rowSort x0_rowSize x0_moved x0_shown x0_tape x0_tapeSize g4 x0_lines x0_changes x0_coins x0_goods x0_works x0_years x0_gone x0_spent x0_at x0_token x0_from x0_figures x0_fault x0_numbers x0_statements x0_left x0_far x0_tons x0_way x0_steps x0_met x0_queue x0_totals, gridI d r0_work 7 5 x0_work]) (st' := fun _ => [.int v3]) (st := []) hK dX7_says_27 cv_RX7_94 iv_yX7_refuse (As := [.int (-2)]) (kX7_refuse _ d h0 r0_rows r0_line r0_good r0_work a0_kept a0_tried a0_chosen x0_shelf x0_rowSort x0_rowSize x0_rows x0_moved x0_shown x0_tape x0_tapeSize x0_refused x0_lines x0_line x0_changes x0_coins x0_goods x0_good x0_works x0_work x0_years x0_gone x0_spent x0_at x0_token x0_from x0_figures x0_fault x0_numbers x0_statements x0_left x0_far x0_tons x0_way x0_steps x0_met x0_queue x0_totals (-2) e5) rfl rfl (Nat.le_of_ble_eq_true rfl) (by decide) 0 0 rfl rfl rfl [0] [1] rfl rfl rfl rfl [1, 0] rfl (fun _ => rfl) (fun _ => rfl) rfl rfl rfl (fun _ => rfl) (fun _ => ?_)
    obtain rfl := Option.some.inj hf
    exact J_iret hK hR dX7_says_30 () rfl (by decide) (by decide)
  · have hf := iq hc9 hf
    refine J_iload_n hK dX7_says_12 rfl 2 rfl rfl ?_
    refine J_i2l hK dX7_says_13 rfl ?_
    refine J_lconst (v := 0) hK dX7_says_14 rfl (by decide) ?_
    refine J_ldc2 (v := (5 : Int64)) hK dX7_says_15 rfl wk_RX7_106 ?_
    obtain ⟨v6, e7, hf⟩ := bs hf
    refine J_callS (m' := 2) (ce' := 0) (sl' := 0) (gr := [gMd d h0 a0_kept a0_tried a0_chosen r0_rows r0_line r0_good r0_work x0_shelf x0_rowSort x0_rowSize x0_moved x0_shown x0_tape x0_tapeSize x0_refused x0_lines x0_changes x0_coins x0_goods x0_works x0_years x0_gone x0_spent x0_at x0_token x0_from x0_figures x0_fault x0_numbers x0_statements x0_left x0_far x0_tons x0_way x0_steps x0_met x0_queue x0_totals, gridI d r0_work 7 5 x0_work]) (gs' := fun _ => [gMd d h0 a0_kept a0_tried a0_chosen r0_rows r0_line r0_good r0_work x0_shelf x0_rowSort x0_rowSize x0_moved x0_shown x0_tape x0_tapeSize x0_refused x0_lines x0_changes x0_coins x0_goods x0_works x0_years x0_gone x0_spent x0_at x0_token x0_from x0_figures x0_fault x0_numbers x0_statements x0_left x0_far x0_tons x0_way x0_steps x0_met x0_queue x0_totals, gridI d r0_work 7 5 x0_work]) (st' := fun _ => [.int v6]) (st := []) hK dX7_says_18 cv_RX7_78 ws_yX7_in (As := [.long ((p2).toInt64), .long (0 : Int64), .long (5 : Int64)]) (kX7_in _ d ((p2).toInt64) (0 : Int64) (5 : Int64) e7) rfl rfl (Nat.le_of_ble_eq_true rfl) (by decide) [] [0, 1] rfl rfl rfl rfl [0, 1] rfl (fun _ => rfl) (fun _ => rfl) rfl rfl rfl (fun _ => rfl) (fun _ => ?_)
    refine J_if_ne (tg := 31) hK dX7_says_21 rfl rfl (fun hc21 => ?_) (fun hc21 => ?_)
    · have hf := iq hc21 hf
      refine J_aload_n hK dX7_says_31 rfl 0 rfl rfl ?_
      refine J_get hK fo_RX7_7 dX7_says_32 rfl 0 0 rfl rfl rfl ?_
      refine J_iload_n hK dX7_says_35 rfl 1 rfl rfl ?_
      obtain ⟨v8, ev8, hf⟩ := bs hf
      refine J_iald hK dX7_says_36 rfl 0 1 rfl rfl ev8 ?_
      refine J_iconst (v := 1) hK dX7_says_37 rfl (by decide) ?_
      refine J_icmp_eq (tg := 71) hK dX7_says_38 rfl rfl (fun hc38 => ?_) (fun hc38 => ?_)
      · have hf := ip hc38 hf
        refine J_aload_n hK dX7_says_71 rfl 0 rfl rfl ?_
        refine J_bipush (v := (-3)) hK dX7_says_72 rfl (by decide) ?_
        obtain ⟨⟨v9, g10⟩, e11, hf⟩ := bs hf
        have hf := un2 hf
        refine J_callV (m' := 2) (ce' := 0) (sl' := 0) (gr := [gridI d r0_work 7 5 x0_work]) (gs' := fun _ => [gMd d h0 a0_kept a0_tried a0_chosen r0_rows r0_line r0_good r0_work x0_shelf x0_rowSort x0_rowSize x0_moved x0_shown x0_tape x0_tapeSize g10 x0_lines x0_changes x0_coins x0_goods x0_works x0_years x0_gone x0_spent x0_at x0_token x0_from x0_figures x0_fault x0_numbers x0_statements x0_left x0_far x0_tons x0_way x0_steps x0_met x0_queue x0_totals, gridI d r0_work 7 5 x0_work]) (st' := fun _ => [.int v9]) (st := []) hK dX7_says_74 cv_RX7_94 iv_yX7_refuse (As := [.int (-3)]) (kX7_refuse _ d h0 r0_rows r0_line r0_good r0_work a0_kept a0_tried a0_chosen x0_shelf x0_rowSort x0_rowSize x0_rows x0_moved x0_shown x0_tape x0_tapeSize x0_refused x0_lines x0_line x0_changes x0_coins x0_goods x0_good x0_works x0_work x0_years x0_gone x0_spent x0_at x0_token x0_from x0_figures x0_fault x0_numbers x0_statements x0_left x0_far x0_tons x0_way x0_steps x0_met x0_queue x0_totals (-3) e11) rfl rfl (Nat.le_of_ble_eq_true rfl) (by decide) 0 0 rfl rfl rfl [0] [1] rfl rfl rfl rfl [1, 0] rfl (fun _ => rfl) (fun _ => rfl) rfl rfl rfl (fun _ => rfl) (fun _ => ?_)
        obtain rfl := Option.some.inj hf
        exact J_iret hK hR dX7_says_77 () rfl (by decide) (by decide)
      · have hf := iq hc38 hf
        refine J_aload_n hK dX7_says_41 rfl 0 rfl rfl ?_
        refine J_get hK fo_RX7_7 dX7_says_42 rfl 0 0 rfl rfl rfl ?_
        refine J_iload_n hK dX7_says_45 rfl 1 rfl rfl ?_
        obtain ⟨v12, ev12, hf⟩ := bs hf
        refine J_iald hK dX7_says_46 rfl 0 1 rfl rfl ev12 ?_
        refine J_iconst (v := 2) hK dX7_says_47 rfl (by decide) ?_
        have j78 : fX7_says_j78 p1 p2 x0_shelf x0_rowSort x0_rowSize x0_rows x0_moved x0_shown x0_tape x0_tapeSize x0_refused x0_lines x0_line x0_changes x0_coins x0_goods x0_good x0_works x0_work x0_years x0_gone x0_spent x0_at x0_token x0_from x0_figures x0_fault x0_numbers x0_statements x0_left x0_far x0_tons x0_way x0_steps x0_met x0_queue x0_totals = some out → J d Φ 4 [gMd d h0 a0_kept a0_tried a0_chosen r0_rows r0_line r0_good r0_work x0_shelf x0_rowSort x0_rowSize x0_moved x0_shown x0_tape x0_tapeSize x0_refused x0_lines x0_changes x0_coins x0_goods x0_works x0_years x0_gone x0_spent x0_at x0_token x0_from x0_figures x0_fault x0_numbers x0_statements x0_left x0_far x0_tons x0_way x0_steps x0_met x0_queue x0_totals, gridI d r0_work 7 5 x0_work] 0 0 78 [(0, .ref (h0 0)), (1, .int p1), (2, .int p2)] [] := by
          intro  hf
          unfold fX7_says_j78 at hf
          refine J_aload_n hK dX7_says_78 rfl 0 rfl rfl ?_
          refine J_get hK fo_RX7_7 dX7_says_79 rfl 0 0 rfl rfl rfl ?_
          refine J_iload_n hK dX7_says_82 rfl 1 rfl rfl ?_
          obtain ⟨v13, ev13, hf⟩ := bs hf
          refine J_iald hK dX7_says_83 rfl 0 1 rfl rfl ev13 ?_
          refine J_if_ne (tg := 94) hK dX7_says_84 rfl rfl (fun hc84 => ?_) (fun hc84 => ?_)
          · have hf := iq hc84 hf
            refine J_aload_n hK dX7_says_94 rfl 0 rfl rfl ?_
            refine J_get hK fo_RX7_51 dX7_says_95 rfl 0 0 rfl rfl rfl ?_
            refine J_aload_n hK dX7_says_98 rfl 0 rfl rfl ?_
            refine J_get hK fo_RX7_28 dX7_says_99 rfl 0 0 rfl rfl rfl ?_
            refine J_iload_n hK dX7_says_102 rfl 1 rfl rfl ?_
            obtain ⟨v14, ev14, hf⟩ := bs hf
            refine J_iald hK dX7_says_103 rfl 0 6 rfl rfl ev14 ?_
            obtain ⟨q15, eq15, hf⟩ := bs hf
            refine J_aald hK dX7_says_104 rfl 0 13 rfl rfl rfl eq15 ?_
            refine J_astore_n (L' := [(3, .ref (r0_work q15)), (0, .ref (h0 0)), (1, .int p1), (2, .int p2)]) hK dX7_says_105 rfl rfl (by decide) rfl ?_
            refine J_iload_n hK dX7_says_106 rfl 3 rfl rfl ?_
            refine J_if_ne (tg := 116) hK dX7_says_107 rfl rfl (fun hc107 => ?_) (fun hc107 => ?_)
            · have hf := iq hc107 hf
              refine J_iload_n hK dX7_says_116 rfl 3 rfl rfl ?_
              refine J_iconst (v := 4) hK dX7_says_117 rfl (by decide) ?_
              refine J_icmp_ge (tg := 127) hK dX7_says_118 rfl rfl (fun hc118 => ?_) (fun hc118 => ?_)
              · have hf := ip hc118 hf
                refine J_bipush (v := 100) hK dX7_says_127 rfl (by decide) ?_
                refine J_aload_n hK dX7_says_129 rfl 0 rfl rfl ?_
                refine J_iconst (v := 1) hK dX7_says_130 rfl (by decide) ?_
                obtain ⟨v16, ev16, hf⟩ := bs hf
                refine J_iald hK dX7_says_131 rfl 1 q15 rfl (gridI_at (ck_ok eq15).2.2) ev16 ?_
                refine J_imul hK dX7_says_132 rfl ?_
                refine J_aload_n hK dX7_says_133 rfl 0 rfl rfl ?_
                refine J_iconst (v := 2) hK dX7_says_134 rfl (by decide) ?_
                obtain ⟨v17, ev17, hf⟩ := bs hf
                refine J_iald hK dX7_says_135 rfl 1 q15 rfl (gridI_at (ck_ok eq15).2.2) ev17 ?_
                refine J_iadd hK dX7_says_136 rfl ?_
                obtain rfl := Option.some.inj hf
                exact J_iret hK hR dX7_says_137 () rfl (by decide) (by decide)
              · have hf := iq hc118 hf
                refine J_aload_n hK dX7_says_121 rfl 0 rfl rfl ?_
                refine J_iconst (v := 1) hK dX7_says_122 rfl (by decide) ?_
                obtain ⟨v18, ev18, hf⟩ := bs hf
                refine J_iald hK dX7_says_123 rfl 1 q15 rfl (gridI_at (ck_ok eq15).2.2) ev18 ?_
                refine J_goto hK dX7_says_124 (n := 137) rfl ?_
                obtain rfl := Option.some.inj hf
                exact J_iret hK hR dX7_says_137 () rfl (by decide) (by decide)
            · have hf := ip hc107 hf
              refine J_aload_n hK dX7_says_110 rfl 0 rfl rfl ?_
              refine J_iconst (v := 3) hK dX7_says_111 rfl (by decide) ?_
              obtain ⟨v19, ev19, hf⟩ := bs hf
              refine J_iald hK dX7_says_112 rfl 1 q15 rfl (gridI_at (ck_ok eq15).2.2) ev19 ?_
              refine J_goto hK dX7_says_113 (n := 137) rfl ?_
              obtain rfl := Option.some.inj hf
              exact J_iret hK hR dX7_says_137 () rfl (by decide) (by decide)
          · have hf := ip hc84 hf
            refine J_aload_n hK dX7_says_87 rfl 0 rfl rfl ?_
            refine J_bipush (v := (-4)) hK dX7_says_88 rfl (by decide) ?_
            obtain ⟨⟨v20, g21⟩, e22, hf⟩ := bs hf
            have hf := un2 hf
            refine J_callV (m' := 2) (ce' := 0) (sl' := 0) (gr := [gridI d r0_work 7 5 x0_work]) (gs' := fun _ => [gMd d h0 a0_kept a0_tried a0_chosen r0_rows r0_line r0_good r0_work x0_shelf x0_rowSort x0_rowSize x0_moved x0_shown x0_tape x0_tapeSize g21 x0_lines x0_changes x0_coins x0_goods x0_works x0_years x0_gone x0_spent x0_at x0_token x0_from x0_figures x0_fault x0_numbers x0_statements x0_left x0_far x0_tons x0_way x0_steps x0_met x0_queue x0_totals, gridI d r0_work 7 5 x0_work]) (st' := fun _ => [.int v20]) (st := []) hK dX7_says_90 cv_RX7_94 iv_yX7_refuse (As := [.int (-4)]) (kX7_refuse _ d h0 r0_rows r0_line r0_good r0_work a0_kept a0_tried a0_chosen x0_shelf x0_rowSort x0_rowSize x0_rows x0_moved x0_shown x0_tape x0_tapeSize x0_refused x0_lines x0_line x0_changes x0_coins x0_goods x0_good x0_works x0_work x0_years x0_gone x0_spent x0_at x0_token x0_from x0_figures x0_fault x0_numbers x0_statements x0_left x0_far x0_tons x0_way x0_steps x0_met x0_queue x0_totals (-4) e22) rfl rfl (Nat.le_of_ble_eq_true rfl) (by decide) 0 0 rfl rfl rfl [0] [1] rfl rfl rfl rfl [1, 0] rfl (fun _ => rfl) (fun _ => rfl) rfl rfl rfl (fun _ => rfl) (fun _ => ?_)
            obtain rfl := Option.some.inj hf
            exact J_iret hK hR dX7_says_93 () rfl (by decide) (by decide)
        refine J_icmp_ne (tg := 78) hK dX7_says_48 rfl rfl (fun hc48 => ?_) (fun hc48 => ?_)
        · have hf := iq hc48 hf
          exact (j78  hf)
        · have hf := ip hc48 hf
          refine J_aload_n hK dX7_says_51 rfl 0 rfl rfl ?_
          refine J_get hK fo_RX7_51 dX7_says_52 rfl 0 0 rfl rfl rfl ?_
          refine J_aload_n hK dX7_says_55 rfl 0 rfl rfl ?_
          refine J_get hK fo_RX7_28 dX7_says_56 rfl 0 0 rfl rfl rfl ?_
          refine J_iload_n hK dX7_says_59 rfl 1 rfl rfl ?_
          obtain ⟨v23, ev23, hf⟩ := bs hf
          refine J_iald hK dX7_says_60 rfl 0 6 rfl rfl ev23 ?_
          obtain ⟨q24, eq24, hf⟩ := bs hf
          refine J_aald hK dX7_says_61 rfl 0 13 rfl rfl rfl eq24 ?_
          refine J_iconst (v := 0) hK dX7_says_62 rfl (by decide) ?_
          obtain ⟨v25, ev25, hf⟩ := bs hf
          refine J_iald hK dX7_says_63 rfl 1 q24 rfl (gridI_at (ck_ok eq24).2.2) ev25 ?_
          refine J_iload_n hK dX7_says_64 rfl 2 rfl rfl ?_
          obtain ⟨v26, e27, hf⟩ := bs hf
          refine J_callS (m' := 2) (ce' := 0) (sl' := 0) (gr := [gMd d h0 a0_kept a0_tried a0_chosen r0_rows r0_line r0_good r0_work x0_shelf x0_rowSort x0_rowSize x0_moved x0_shown x0_tape x0_tapeSize x0_refused x0_lines x0_changes x0_coins x0_goods x0_works x0_years x0_gone x0_spent x0_at x0_token x0_from x0_figures x0_fault x0_numbers x0_statements x0_left x0_far x0_tons x0_way x0_steps x0_met x0_queue x0_totals, gridI d r0_work 7 5 x0_work]) (gs' := fun _ => [gMd d h0 a0_kept a0_tried a0_chosen r0_rows r0_line r0_good r0_work x0_shelf x0_rowSort x0_rowSize x0_moved x0_shown x0_tape x0_tapeSize x0_refused x0_lines x0_changes x0_coins x0_goods x0_works x0_years x0_gone x0_spent x0_at x0_token x0_from x0_figures x0_fault x0_numbers x0_statements x0_left x0_far x0_tons x0_way x0_steps x0_met x0_queue x0_totals, gridI d r0_work 7 5 x0_work]) (st' := fun _ => [.int v26]) (st := []) hK dX7_says_65 cv_RX7_108 ws_yX7_isUnder (As := [.int v25, .int p2]) (kX7_isUnder _ d v25 p2 e27) rfl rfl (Nat.le_of_ble_eq_true rfl) (by decide) [] [0, 1] rfl rfl rfl rfl [0, 1] rfl (fun _ => rfl) (fun _ => rfl) rfl rfl rfl (fun _ => rfl) (fun _ => ?_)
          refine J_if_ne (tg := 78) hK dX7_says_68 rfl rfl (fun hc68 => ?_) (fun hc68 => ?_)
          · have hf := iq hc68 hf
            exact (j78  hf)
          · have hf := ip hc68 hf
            refine J_aload_n hK dX7_says_71 rfl 0 rfl rfl ?_
            refine J_bipush (v := (-3)) hK dX7_says_72 rfl (by decide) ?_
            obtain ⟨⟨v28, g29⟩, e30, hf⟩ := bs hf
            have hf := un2 hf
            refine J_callV (m' := 2) (ce' := 0) (sl' := 0) (gr := [gridI d r0_work 7 5 x0_work]) (gs' := fun _ => [gMd d h0 a0_kept a0_tried a0_chosen r0_rows r0_line r0_good r0_work x0_shelf x0_rowSort x0_rowSize x0_moved x0_shown x0_tape x0_tapeSize g29 x0_lines x0_changes x0_coins x0_goods x0_works x0_years x0_gone x0_spent x0_at x0_token x0_from x0_figures x0_fault x0_numbers x0_statements x0_left x0_far x0_tons x0_way x0_steps x0_met x0_queue x0_totals, gridI d r0_work 7 5 x0_work]) (st' := fun _ => [.int v28]) (st := []) hK dX7_says_74 cv_RX7_94 iv_yX7_refuse (As := [.int (-3)]) (kX7_refuse _ d h0 r0_rows r0_line r0_good r0_work a0_kept a0_tried a0_chosen x0_shelf x0_rowSort x0_rowSize x0_rows x0_moved x0_shown x0_tape x0_tapeSize x0_refused x0_lines x0_line x0_changes x0_coins x0_goods x0_good x0_works x0_work x0_years x0_gone x0_spent x0_at x0_token x0_from x0_figures x0_fault x0_numbers x0_statements x0_left x0_far x0_tons x0_way x0_steps x0_met x0_queue x0_totals (-3) e30) rfl rfl (Nat.le_of_ble_eq_true rfl) (by decide) 0 0 rfl rfl rfl [0] [1] rfl rfl rfl rfl [1, 0] rfl (fun _ => rfl) (fun _ => rfl) rfl rfl rfl (fun _ => rfl) (fun _ => ?_)
            obtain rfl := Option.some.inj hf
            exact J_iret hK hR dX7_says_77 () rfl (by decide) (by decide)
    · have hf := ip hc21 hf
      refine J_aload_n hK dX7_says_24 rfl 0 rfl rfl ?_
      refine J_bipush (v := (-2)) hK dX7_says_25 rfl (by decide) ?_
      obtain ⟨⟨v31, g32⟩, e33, hf⟩ := bs hf
      have hf := un2 hf
      refine J_callV (m' := 2) (ce' := 0) (sl' := 0) (gr := [gridI d r0_work 7 5 x0_work]) (gs' := fun _ => [gMd d h0 a0_kept a0_tried a0_chosen r0_rows r0_line r0_good r0_work x0_shelf x0_rowSort x0_rowSize x0_moved x0_shown x0_tape x0_tapeSize g32 x0_lines x0_changes x0_coins x0_goods x0_works x0_years x0_gone x0_spent x0_at x0_token x0_from x0_figures x0_fault x0_numbers x0_statements x0_left x0_far x0_tons x0_way x0_steps x0_met x0_queue x0_totals, gridI d r0_work 7 5 x0_work]) (st' := fun _ => [.int v31]) (st := []) hK dX7_says_27 cv_RX7_94 iv_yX7_refuse (As := [.int (-2)]) (kX7_refuse _ d h0 r0_rows r0_line r0_good r0_work a0_kept a0_tried a0_chosen x0_shelf x0_rowSort x0_rowSize x0_rows x0_moved x0_shown x0_tape x0_tapeSize x0_refused x0_lines x0_line x0_changes x0_coins x0_goods x0_good x0_works x0_work x0_years x0_gone x0_spent x0_at x0_token x0_from x0_figures x0_fault x0_numbers x0_statements x0_left x0_far x0_tons x0_way x0_steps x0_met x0_queue x0_totals (-2) e33) rfl rfl (Nat.le_of_ble_eq_true rfl) (by decide) 0 0 rfl rfl rfl [0] [1] rfl rfl rfl rfl [1, 0] rfl (fun _ => rfl) (fun _ => rfl) rfl rfl rfl (fun _ => rfl) (fun _ => ?_)
      obtain rfl := Option.some.inj hf
      exact J_iret hK hR dX7_says_30 () rfl (by decide) (by decide)

def fX7_newLine (X0 : MdT) (p1 : Int32) (p2 : Int32) : Option ((Nat → Nat → Int32)) :=
  u35 (fun (x0_shelf : (Nat → Int32)) (x0_rowSort : (Nat → Int32)) (x0_rowSize : (Nat → Int32)) (x0_rows : (Nat → Nat → Int64)) (x0_moved : (Nat → Int64)) (x0_shown : (Nat → Int32)) (x0_tape : (Nat → Int32)) (x0_tapeSize : Int32) (x0_refused : (Nat → Int32)) (x0_lines : Int32) (x0_line : (Nat → Nat → Int32)) (x0_changes : (Nat → Int32)) (x0_coins : (Nat → Int32)) (x0_goods : Int32) (x0_good : (Nat → Nat → Int32)) (x0_works : Int32) (x0_work : (Nat → Nat → Int32)) (x0_years : Int32) (x0_gone : Int32) (x0_spent : Int32) (x0_at : Int32) (x0_token : Int32) (x0_from : Int32) (x0_figures : Int64) (x0_fault : Int32) (x0_numbers : (Nat → Int32)) (x0_statements : Int32) (x0_left : (Nat → Int32)) (x0_far : (Nat → Int32)) (x0_tons : Int32) (x0_way : (Nat → Int32)) (x0_steps : Int32) (x0_met : Int64) (x0_queue : (Nat → Int32)) (x0_totals : (Nat → Int32)) => (ck x0_lines 20).bind fun q1 => (wr 7 (x0_line q1) (0) p1).bind fun f2 => (wr 7 ((va_up x0_line q1 f2) q1) (1) p2).bind fun f3 => (wr 7 ((va_up (va_up x0_line q1 f2) q1 f3) q1) (2) (7)).bind fun f4 => (wr 7 ((va_up (va_up (va_up x0_line q1 f2) q1 f3) q1 f4) q1) (3) (10)).bind fun f5 => (wr 7 ((va_up (va_up (va_up (va_up x0_line q1 f2) q1 f3) q1 f4) q1 f5) q1) (4) (999)).bind fun f6 => (wr 7 ((va_up (va_up (va_up (va_up (va_up x0_line q1 f2) q1 f3) q1 f4) q1 f5) q1 f6) q1) (5) (0)).bind fun f7 => (wr 7 ((va_up (va_up (va_up (va_up (va_up (va_up x0_line q1 f2) q1 f3) q1 f4) q1 f5) q1 f6) q1 f7) q1) (6) (0)).bind fun f8 => some (va_up (va_up (va_up (va_up (va_up (va_up (va_up x0_line q1 f2) q1 f3) q1 f4) q1 f5) q1 f6) q1 f7) q1 f8)) X0
set_option maxHeartbeats 4000000 in
set_option maxRecDepth 100000 in
theorem kX7_newLine (l : Launch) (d : DT) (h0 : Nat → Nat) (r0_rows : Nat → Nat) (r0_line : Nat → Nat) (r0_good : Nat → Nat) (r0_work : Nat → Nat) (a0_kept : Option Nat) (a0_tried : Option Nat) (a0_chosen : Option Nat) (x0_shelf : (Nat → Int32)) (x0_rowSort : (Nat → Int32)) (x0_rowSize : (Nat → Int32)) (x0_rows : (Nat → Nat → Int64)) (x0_moved : (Nat → Int64)) (x0_shown : (Nat → Int32)) (x0_tape : (Nat → Int32)) (x0_tapeSize : Int32) (x0_refused : (Nat → Int32)) (x0_lines : Int32) (x0_line : (Nat → Nat → Int32)) (x0_changes : (Nat → Int32)) (x0_coins : (Nat → Int32)) (x0_goods : Int32) (x0_good : (Nat → Nat → Int32)) (x0_works : Int32) (x0_work : (Nat → Nat → Int32)) (x0_years : Int32) (x0_gone : Int32) (x0_spent : Int32) (x0_at : Int32) (x0_token : Int32) (x0_from : Int32) (x0_figures : Int64) (x0_fault : Int32) (x0_numbers : (Nat → Int32)) (x0_statements : Int32) (x0_left : (Nat → Int32)) (x0_far : (Nat → Int32)) (x0_tons : Int32) (x0_way : (Nat → Int32)) (x0_steps : Int32) (x0_met : Int64) (x0_queue : (Nat → Int32)) (x0_totals : (Nat → Int32)) (p1 : Int32) (p2 : Int32)  {out : (Nat → Nat → Int32)} (hf : fX7_newLine (x0_shelf, x0_rowSort, x0_rowSize, x0_rows, x0_moved, x0_shown, x0_tape, x0_tapeSize, x0_refused, x0_lines, x0_line, x0_changes, x0_coins, x0_goods, x0_good, x0_works, x0_work, x0_years, x0_gone, x0_spent, x0_at, x0_token, x0_from, x0_figures, x0_fault, x0_numbers, x0_statements, x0_left, x0_far, x0_tons, x0_way, x0_steps, x0_met, x0_queue, x0_totals) p1 p2 = some out) : Ct l d yX7_newLine cX7_newLine 4 none { frames := 0, cells := 0, slots := 0, locals := 0 } [.ref (h0 0), .int p1, .int p2] [gMd d h0 a0_kept a0_tried a0_chosen r0_rows r0_line r0_good r0_work x0_shelf x0_rowSort x0_rowSize x0_moved x0_shown x0_tape x0_tapeSize x0_refused x0_lines x0_changes x0_coins x0_goods x0_works x0_years x0_gone x0_spent x0_at x0_token x0_from x0_figures x0_fault x0_numbers x0_statements x0_left x0_far x0_tons x0_way x0_steps x0_met x0_queue x0_totals, gridI d r0_line 20 7 x0_line] (fun _ : Unit => (none, [gMd d h0 a0_kept a0_tried a0_chosen r0_rows r0_line r0_good r0_work x0_shelf x0_rowSort x0_rowSize x0_moved x0_shown x0_tape x0_tapeSize x0_refused x0_lines x0_changes x0_coins x0_goods x0_works x0_years x0_gone x0_spent x0_at x0_token x0_from x0_figures x0_fault x0_numbers x0_statements x0_left x0_far x0_tons x0_way x0_steps x0_met x0_queue x0_totals, gridI d r0_line 20 7 out])) := by
  refine Ct.of (by decide) (Nat.le_of_ble_eq_true rfl) ?_
  intro Φ hl hK hR
  subst hl
  have hK : Ok d Φ RX7 "newLine" cX7_newLine 4 none { frames := 0, cells := 0, slots := 0, locals := 0 } := hK
  unfold fX7_newLine at hf
  have hf := un35 hf
  show J d Φ 4 [gMd d h0 a0_kept a0_tried a0_chosen r0_rows r0_line r0_good r0_work x0_shelf x0_rowSort x0_rowSize x0_moved x0_shown x0_tape x0_tapeSize x0_refused x0_lines x0_changes x0_coins x0_goods x0_works x0_years x0_gone x0_spent x0_at x0_token x0_from x0_figures x0_fault x0_numbers x0_statements x0_left x0_far x0_tons x0_way x0_steps x0_met x0_queue x0_totals, gridI d r0_line 20 7 x0_line] 0 0 0 [(0, .ref (h0 0)), (1, .int p1), (2, .int p2)] []
  refine J_aload_n hK dX7_newLine_0 rfl 0 rfl rfl ?_
  refine J_get hK fo_RX7_39 dX7_newLine_1 rfl 0 0 rfl rfl rfl ?_
  refine J_aload_n hK dX7_newLine_4 rfl 0 rfl rfl ?_
  refine J_get hK fo_RX7_82 dX7_newLine_5 rfl 0 0 rfl rfl rfl ?_
  obtain ⟨q1, eq1, hf⟩ := bs hf
  refine J_aald hK dX7_newLine_8 rfl 0 9 rfl rfl rfl eq1 ?_
  refine J_astore_n (L' := [(3, .ref (r0_line q1)), (0, .ref (h0 0)), (1, .int p1), (2, .int p2)]) hK dX7_newLine_9 rfl rfl (by decide) rfl ?_
  refine J_aload_n hK dX7_newLine_10 rfl 0 rfl rfl ?_
  refine J_iconst (v := 0) hK dX7_newLine_11 rfl (by decide) ?_
  refine J_iload_n hK dX7_newLine_12 rfl 2 rfl rfl ?_
  obtain ⟨f2, ef2, hf⟩ := bs hf
  refine J_iast (g' := gridI d r0_line 20 7 (va_up x0_line q1 f2)) (gs' := [gMd d h0 a0_kept a0_tried a0_chosen r0_rows r0_line r0_good r0_work x0_shelf x0_rowSort x0_rowSize x0_moved x0_shown x0_tape x0_tapeSize x0_refused x0_lines x0_changes x0_coins x0_goods x0_works x0_years x0_gone x0_spent x0_at x0_token x0_from x0_figures x0_fault x0_numbers x0_statements x0_left x0_far x0_tons x0_way x0_steps x0_met x0_queue x0_totals, gridI d r0_line 20 7 (va_up x0_line q1 f2)]) hK dX7_newLine_13 rfl 1 q1 rfl (gridI_at (ck_ok eq1).2.2) ef2 gridI_set rfl ?_
  refine J_aload_n hK dX7_newLine_14 rfl 0 rfl rfl ?_
  refine J_iconst (v := 1) hK dX7_newLine_15 rfl (by decide) ?_
  refine J_iload_n hK dX7_newLine_16 rfl 3 rfl rfl ?_
  obtain ⟨f3, ef3, hf⟩ := bs hf
  refine J_iast (g' := gridI d r0_line 20 7 (va_up (va_up x0_line q1 f2) q1 f3)) (gs' := [gMd d h0 a0_kept a0_tried a0_chosen r0_rows r0_line r0_good r0_work x0_shelf x0_rowSort x0_rowSize x0_moved x0_shown x0_tape x0_tapeSize x0_refused x0_lines x0_changes x0_coins x0_goods x0_works x0_years x0_gone x0_spent x0_at x0_token x0_from x0_figures x0_fault x0_numbers x0_statements x0_left x0_far x0_tons x0_way x0_steps x0_met x0_queue x0_totals, gridI d r0_line 20 7 (va_up (va_up x0_line q1 f2) q1 f3)]) hK dX7_newLine_17 rfl 1 q1 rfl (gridI_at (ck_ok eq1).2.2) ef3 gridI_set rfl ?_
  refine J_aload_n hK dX7_newLine_18 rfl 0 rfl rfl ?_
  refine J_iconst (v := 2) hK dX7_newLine_19 rfl (by decide) ?_
  refine J_bipush (v := 7) hK dX7_newLine_20 rfl (by decide) ?_
  obtain ⟨f4, ef4, hf⟩ := bs hf
  refine J_iast (g' := gridI d r0_line 20 7 (va_up (va_up (va_up x0_line q1 f2) q1 f3) q1 f4)) (gs' := [gMd d h0 a0_kept a0_tried a0_chosen r0_rows r0_line r0_good r0_work x0_shelf x0_rowSort x0_rowSize x0_moved x0_shown x0_tape x0_tapeSize x0_refused x0_lines x0_changes x0_coins x0_goods x0_works x0_years x0_gone x0_spent x0_at x0_token x0_from x0_figures x0_fault x0_numbers x0_statements x0_left x0_far x0_tons x0_way x0_steps x0_met x0_queue x0_totals, gridI d r0_line 20 7 (va_up (va_up (va_up x0_line q1 f2) q1 f3) q1 f4)]) hK dX7_newLine_22 rfl 1 q1 rfl (gridI_at (ck_ok eq1).2.2) ef4 gridI_set rfl ?_
  refine J_aload_n hK dX7_newLine_23 rfl 0 rfl rfl ?_
  refine J_iconst (v := 3) hK dX7_newLine_24 rfl (by decide) ?_
  refine J_bipush (v := 10) hK dX7_newLine_25 rfl (by decide) ?_
  obtain ⟨f5, ef5, hf⟩ := bs hf
  refine J_iast (g' := gridI d r0_line 20 7 (va_up (va_up (va_up (va_up x0_line q1 f2) q1 f3) q1 f4) q1 f5)) (gs' := [gMd d h0 a0_kept a0_tried a0_chosen r0_rows r0_line r0_good r0_work x0_shelf x0_rowSort x0_rowSize x0_moved x0_shown x0_tape x0_tapeSize x0_refused x0_lines x0_changes x0_coins x0_goods x0_works x0_years x0_gone x0_spent x0_at x0_token x0_from x0_figures x0_fault x0_numbers x0_statements x0_left x0_far x0_tons x0_way x0_steps x0_met x0_queue x0_totals, gridI d r0_line 20 7 (va_up (va_up (va_up (va_up x0_line q1 f2) q1 f3) q1 f4) q1 f5)]) hK dX7_newLine_27 rfl 1 q1 rfl (gridI_at (ck_ok eq1).2.2) ef5 gridI_set rfl ?_
  refine J_aload_n hK dX7_newLine_28 rfl 0 rfl rfl ?_
  refine J_iconst (v := 4) hK dX7_newLine_29 rfl (by decide) ?_
  refine J_sipush (v := 999) hK dX7_newLine_30 rfl (by decide) ?_
  obtain ⟨f6, ef6, hf⟩ := bs hf
  refine J_iast (g' := gridI d r0_line 20 7 (va_up (va_up (va_up (va_up (va_up x0_line q1 f2) q1 f3) q1 f4) q1 f5) q1 f6)) (gs' := [gMd d h0 a0_kept a0_tried a0_chosen r0_rows r0_line r0_good r0_work x0_shelf x0_rowSort x0_rowSize x0_moved x0_shown x0_tape x0_tapeSize x0_refused x0_lines x0_changes x0_coins x0_goods x0_works x0_years x0_gone x0_spent x0_at x0_token x0_from x0_figures x0_fault x0_numbers x0_statements x0_left x0_far x0_tons x0_way x0_steps x0_met x0_queue x0_totals, gridI d r0_line 20 7 (va_up (va_up (va_up (va_up (va_up x0_line q1 f2) q1 f3) q1 f4) q1 f5) q1 f6)]) hK dX7_newLine_33 rfl 1 q1 rfl (gridI_at (ck_ok eq1).2.2) ef6 gridI_set rfl ?_
  refine J_aload_n hK dX7_newLine_34 rfl 0 rfl rfl ?_
  refine J_iconst (v := 5) hK dX7_newLine_35 rfl (by decide) ?_
  refine J_iconst (v := 0) hK dX7_newLine_36 rfl (by decide) ?_
  obtain ⟨f7, ef7, hf⟩ := bs hf
  refine J_iast (g' := gridI d r0_line 20 7 (va_up (va_up (va_up (va_up (va_up (va_up x0_line q1 f2) q1 f3) q1 f4) q1 f5) q1 f6) q1 f7)) (gs' := [gMd d h0 a0_kept a0_tried a0_chosen r0_rows r0_line r0_good r0_work x0_shelf x0_rowSort x0_rowSize x0_moved x0_shown x0_tape x0_tapeSize x0_refused x0_lines x0_changes x0_coins x0_goods x0_works x0_years x0_gone x0_spent x0_at x0_token x0_from x0_figures x0_fault x0_numbers x0_statements x0_left x0_far x0_tons x0_way x0_steps x0_met x0_queue x0_totals, gridI d r0_line 20 7 (va_up (va_up (va_up (va_up (va_up (va_up x0_line q1 f2) q1 f3) q1 f4) q1 f5) q1 f6) q1 f7)]) hK dX7_newLine_37 rfl 1 q1 rfl (gridI_at (ck_ok eq1).2.2) ef7 gridI_set rfl ?_
  refine J_aload_n hK dX7_newLine_38 rfl 0 rfl rfl ?_
  refine J_bipush (v := 6) hK dX7_newLine_39 rfl (by decide) ?_
  refine J_iconst (v := 0) hK dX7_newLine_41 rfl (by decide) ?_
  obtain ⟨f8, ef8, hf⟩ := bs hf
  refine J_iast (g' := gridI d r0_line 20 7 (va_up (va_up (va_up (va_up (va_up (va_up (va_up x0_line q1 f2) q1 f3) q1 f4) q1 f5) q1 f6) q1 f7) q1 f8)) (gs' := [gMd d h0 a0_kept a0_tried a0_chosen r0_rows r0_line r0_good r0_work x0_shelf x0_rowSort x0_rowSize x0_moved x0_shown x0_tape x0_tapeSize x0_refused x0_lines x0_changes x0_coins x0_goods x0_works x0_years x0_gone x0_spent x0_at x0_token x0_from x0_figures x0_fault x0_numbers x0_statements x0_left x0_far x0_tons x0_way x0_steps x0_met x0_queue x0_totals, gridI d r0_line 20 7 (va_up (va_up (va_up (va_up (va_up (va_up (va_up x0_line q1 f2) q1 f3) q1 f4) q1 f5) q1 f6) q1 f7) q1 f8)]) hK dX7_newLine_42 rfl 1 q1 rfl (gridI_at (ck_ok eq1).2.2) ef8 gridI_set rfl ?_
  obtain rfl := Option.some.inj hf
  exact J_vret hK hR dX7_newLine_43 () rfl (by decide) (by decide)

def fX7_line_j49 (p1 : Int32) (p2 : Int32) (p3 : Int32) (p4 : Int32) (p5 : Int32) (p6 : Int32) (x0_shelf : (Nat → Int32)) (x0_rowSort : (Nat → Int32)) (x0_rowSize : (Nat → Int32)) (x0_rows : (Nat → Nat → Int64)) (x0_moved : (Nat → Int64)) (x0_shown : (Nat → Int32)) (x0_tape : (Nat → Int32)) (x0_tapeSize : Int32) (x0_refused : (Nat → Int32)) (x0_lines : Int32) (x0_line : (Nat → Nat → Int32)) (x0_changes : (Nat → Int32)) (x0_coins : (Nat → Int32)) (x0_goods : Int32) (x0_good : (Nat → Nat → Int32)) (x0_works : Int32) (x0_work : (Nat → Nat → Int32)) (x0_years : Int32) (x0_gone : Int32) (x0_spent : Int32) (x0_at : Int32) (x0_token : Int32) (x0_from : Int32) (x0_figures : Int64) (x0_fault : Int32) (x0_numbers : (Nat → Int32)) (x0_statements : Int32) (x0_left : (Nat → Int32)) (x0_far : (Nat → Int32)) (x0_tons : Int32) (x0_way : (Nat → Int32)) (x0_steps : Int32) (x0_met : Int64) (x0_queue : (Nat → Int32)) (x0_totals : (Nat → Int32)) (y3 : Int32) : Option (Int32 × (Nat → Int32) × Int32 × (Nat → Nat → Int32)) :=
  if y3 = 0 then ((fX7_refuse (x0_shelf, x0_rowSort, x0_rowSize, x0_rows, x0_moved, x0_shown, x0_tape, x0_tapeSize, x0_refused, x0_lines, x0_line, x0_changes, x0_coins, x0_goods, x0_good, x0_works, x0_work, x0_years, x0_gone, x0_spent, x0_at, x0_token, x0_from, x0_figures, x0_fault, x0_numbers, x0_statements, x0_left, x0_far, x0_tons, x0_way, x0_steps, x0_met, x0_queue, x0_totals) (-2)).bind (u2 fun v4 g5 => some (v4, g5, x0_lines, x0_line))) else ((fX7_in ((p5).toInt64) (1 : Int64) (999 : Int64)).bind (fun v7 => if v7 = 0 then ((fX7_refuse (x0_shelf, x0_rowSort, x0_rowSize, x0_rows, x0_moved, x0_shown, x0_tape, x0_tapeSize, x0_refused, x0_lines, x0_line, x0_changes, x0_coins, x0_goods, x0_good, x0_works, x0_work, x0_years, x0_gone, x0_spent, x0_at, x0_token, x0_from, x0_figures, x0_fault, x0_numbers, x0_statements, x0_left, x0_far, x0_tons, x0_way, x0_steps, x0_met, x0_queue, x0_totals) (-2)).bind (u2 fun v9 g10 => some (v9, g10, x0_lines, x0_line))) else ((fX7_in ((p6).toInt64) (0 : Int64) (5 : Int64)).bind (fun v12 => if v12 = 0 then ((fX7_refuse (x0_shelf, x0_rowSort, x0_rowSize, x0_rows, x0_moved, x0_shown, x0_tape, x0_tapeSize, x0_refused, x0_lines, x0_line, x0_changes, x0_coins, x0_goods, x0_good, x0_works, x0_work, x0_years, x0_gone, x0_spent, x0_at, x0_token, x0_from, x0_figures, x0_fault, x0_numbers, x0_statements, x0_left, x0_far, x0_tons, x0_way, x0_steps, x0_met, x0_queue, x0_totals) (-2)).bind (u2 fun v27 g28 => some (v27, g28, x0_lines, x0_line))) else (if x0_lines = 20 then ((fX7_refuse (x0_shelf, x0_rowSort, x0_rowSize, x0_rows, x0_moved, x0_shown, x0_tape, x0_tapeSize, x0_refused, x0_lines, x0_line, x0_changes, x0_coins, x0_goods, x0_good, x0_works, x0_work, x0_years, x0_gone, x0_spent, x0_at, x0_token, x0_from, x0_figures, x0_fault, x0_numbers, x0_statements, x0_left, x0_far, x0_tons, x0_way, x0_steps, x0_met, x0_queue, x0_totals) (-6)).bind (u2 fun v24 g25 => some (v24, g25, x0_lines, x0_line))) else ((fX7_newLine (x0_shelf, x0_rowSort, x0_rowSize, x0_rows, x0_moved, x0_shown, x0_tape, x0_tapeSize, x0_refused, x0_lines, x0_line, x0_changes, x0_coins, x0_goods, x0_good, x0_works, x0_work, x0_years, x0_gone, x0_spent, x0_at, x0_token, x0_from, x0_figures, x0_fault, x0_numbers, x0_statements, x0_left, x0_far, x0_tons, x0_way, x0_steps, x0_met, x0_queue, x0_totals) p1 p2).bind (fun g14 => (ck x0_lines 20).bind fun q16 => (wr 7 (g14 q16) (2) p3).bind fun f17 => (ck x0_lines 20).bind fun q18 => (wr 7 ((va_up g14 q16 f17) q18) (3) p4).bind fun f19 => (ck x0_lines 20).bind fun q20 => (wr 7 ((va_up (va_up g14 q16 f17) q18 f19) q20) (4) p5).bind fun f21 => (ck x0_lines 20).bind fun q22 => (wr 7 ((va_up (va_up (va_up g14 q16 f17) q18 f19) q20 f21) q22) (5) p6).bind fun f23 => some (x0_lines, x0_refused, (x0_lines + 1), (va_up (va_up (va_up (va_up g14 q16 f17) q18 f19) q20 f21) q22 f23)))))))))
def fX7_line_j48 (p1 : Int32) (p2 : Int32) (p3 : Int32) (p4 : Int32) (p5 : Int32) (p6 : Int32) (x0_shelf : (Nat → Int32)) (x0_rowSort : (Nat → Int32)) (x0_rowSize : (Nat → Int32)) (x0_rows : (Nat → Nat → Int64)) (x0_moved : (Nat → Int64)) (x0_shown : (Nat → Int32)) (x0_tape : (Nat → Int32)) (x0_tapeSize : Int32) (x0_refused : (Nat → Int32)) (x0_lines : Int32) (x0_line : (Nat → Nat → Int32)) (x0_changes : (Nat → Int32)) (x0_coins : (Nat → Int32)) (x0_goods : Int32) (x0_good : (Nat → Nat → Int32)) (x0_works : Int32) (x0_work : (Nat → Nat → Int32)) (x0_years : Int32) (x0_gone : Int32) (x0_spent : Int32) (x0_at : Int32) (x0_token : Int32) (x0_from : Int32) (x0_figures : Int64) (x0_fault : Int32) (x0_numbers : (Nat → Int32)) (x0_statements : Int32) (x0_left : (Nat → Int32)) (x0_far : (Nat → Int32)) (x0_tons : Int32) (x0_way : (Nat → Int32)) (x0_steps : Int32) (x0_met : Int64) (x0_queue : (Nat → Int32)) (x0_totals : (Nat → Int32)) : Option (Int32 × (Nat → Int32) × Int32 × (Nat → Nat → Int32)) :=
  fX7_line_j49 p1 p2 p3 p4 p5 p6 x0_shelf x0_rowSort x0_rowSize x0_rows x0_moved x0_shown x0_tape x0_tapeSize x0_refused x0_lines x0_line x0_changes x0_coins x0_goods x0_good x0_works x0_work x0_years x0_gone x0_spent x0_at x0_token x0_from x0_figures x0_fault x0_numbers x0_statements x0_left x0_far x0_tons x0_way x0_steps x0_met x0_queue x0_totals (0)
def fX7_line (X0 : MdT) (p1 : Int32) (p2 : Int32) (p3 : Int32) (p4 : Int32) (p5 : Int32) (p6 : Int32) : Option (Int32 × (Nat → Int32) × Int32 × (Nat → Nat → Int32)) :=
  u35 (fun (x0_shelf : (Nat → Int32)) (x0_rowSort : (Nat → Int32)) (x0_rowSize : (Nat → Int32)) (x0_rows : (Nat → Nat → Int64)) (x0_moved : (Nat → Int64)) (x0_shown : (Nat → Int32)) (x0_tape : (Nat → Int32)) (x0_tapeSize : Int32) (x0_refused : (Nat → Int32)) (x0_lines : Int32) (x0_line : (Nat → Nat → Int32)) (x0_changes : (Nat → Int32)) (x0_coins : (Nat → Int32)) (x0_goods : Int32) (x0_good : (Nat → Nat → Int32)) (x0_works : Int32) (x0_work : (Nat → Nat → Int32)) (x0_years : Int32) (x0_gone : Int32) (x0_spent : Int32) (x0_at : Int32) (x0_token : Int32) (x0_from : Int32) (x0_figures : Int64) (x0_fault : Int32) (x0_numbers : (Nat → Int32)) (x0_statements : Int32) (x0_left : (Nat → Int32)) (x0_far : (Nat → Int32)) (x0_tons : Int32) (x0_way : (Nat → Int32)) (x0_steps : Int32) (x0_met : Int64) (x0_queue : (Nat → Int32)) (x0_totals : (Nat → Int32)) => (fX7_isPlace p1).bind (fun v1 => if v1 = 0 then (fX7_line_j48 p1 p2 p3 p4 p5 p6 x0_shelf x0_rowSort x0_rowSize x0_rows x0_moved x0_shown x0_tape x0_tapeSize x0_refused x0_lines x0_line x0_changes x0_coins x0_goods x0_good x0_works x0_work x0_years x0_gone x0_spent x0_at x0_token x0_from x0_figures x0_fault x0_numbers x0_statements x0_left x0_far x0_tons x0_way x0_steps x0_met x0_queue x0_totals) else ((fX7_isPlace p2).bind (fun v30 => if v30 = 0 then (fX7_line_j48 p1 p2 p3 p4 p5 p6 x0_shelf x0_rowSort x0_rowSize x0_rows x0_moved x0_shown x0_tape x0_tapeSize x0_refused x0_lines x0_line x0_changes x0_coins x0_goods x0_good x0_works x0_work x0_years x0_gone x0_spent x0_at x0_token x0_from x0_figures x0_fault x0_numbers x0_statements x0_left x0_far x0_tons x0_way x0_steps x0_met x0_queue x0_totals) else (if p1 = p2 then (fX7_line_j48 p1 p2 p3 p4 p5 p6 x0_shelf x0_rowSort x0_rowSize x0_rows x0_moved x0_shown x0_tape x0_tapeSize x0_refused x0_lines x0_line x0_changes x0_coins x0_goods x0_good x0_works x0_work x0_years x0_gone x0_spent x0_at x0_token x0_from x0_figures x0_fault x0_numbers x0_statements x0_left x0_far x0_tons x0_way x0_steps x0_met x0_queue x0_totals) else ((fX7_in ((p3).toInt64) (1 : Int64) (7 : Int64)).bind (fun v32 => if v32 = 0 then (fX7_line_j48 p1 p2 p3 p4 p5 p6 x0_shelf x0_rowSort x0_rowSize x0_rows x0_moved x0_shown x0_tape x0_tapeSize x0_refused x0_lines x0_line x0_changes x0_coins x0_goods x0_good x0_works x0_work x0_years x0_gone x0_spent x0_at x0_token x0_from x0_figures x0_fault x0_numbers x0_statements x0_left x0_far x0_tons x0_way x0_steps x0_met x0_queue x0_totals) else ((fX7_in ((p4).toInt64) (1 : Int64) (60 : Int64)).bind (fun v34 => if v34 = 0 then (fX7_line_j48 p1 p2 p3 p4 p5 p6 x0_shelf x0_rowSort x0_rowSize x0_rows x0_moved x0_shown x0_tape x0_tapeSize x0_refused x0_lines x0_line x0_changes x0_coins x0_goods x0_good x0_works x0_work x0_years x0_gone x0_spent x0_at x0_token x0_from x0_figures x0_fault x0_numbers x0_statements x0_left x0_far x0_tons x0_way x0_steps x0_met x0_queue x0_totals) else (fX7_line_j49 p1 p2 p3 p4 p5 p6 x0_shelf x0_rowSort x0_rowSize x0_rows x0_moved x0_shown x0_tape x0_tapeSize x0_refused x0_lines x0_line x0_changes x0_coins x0_goods x0_good x0_works x0_work x0_years x0_gone x0_spent x0_at x0_token x0_from x0_figures x0_fault x0_numbers x0_statements x0_left x0_far x0_tons x0_way x0_steps x0_met x0_queue x0_totals (1))))))))))) X0
set_option maxHeartbeats 4000000 in
set_option maxRecDepth 100000 in
theorem kX7_line (l : Launch) (d : DT) (h0 : Nat → Nat) (r0_rows : Nat → Nat) (r0_line : Nat → Nat) (r0_good : Nat → Nat) (r0_work : Nat → Nat) (a0_kept : Option Nat) (a0_tried : Option Nat) (a0_chosen : Option Nat) (x0_shelf : (Nat → Int32)) (x0_rowSort : (Nat → Int32)) (x0_rowSize : (Nat → Int32)) (x0_rows : (Nat → Nat → Int64)) (x0_moved : (Nat → Int64)) (x0_shown : (Nat → Int32)) (x0_tape : (Nat → Int32)) (x0_tapeSize : Int32) (x0_refused : (Nat → Int32)) (x0_lines : Int32) (x0_line : (Nat → Nat → Int32)) (x0_changes : (Nat → Int32)) (x0_coins : (Nat → Int32)) (x0_goods : Int32) (x0_good : (Nat → Nat → Int32)) (x0_works : Int32) (x0_work : (Nat → Nat → Int32)) (x0_years : Int32) (x0_gone : Int32) (x0_spent : Int32) (x0_at : Int32) (x0_token : Int32) (x0_from : Int32) (x0_figures : Int64) (x0_fault : Int32) (x0_numbers : (Nat → Int32)) (x0_statements : Int32) (x0_left : (Nat → Int32)) (x0_far : (Nat → Int32)) (x0_tons : Int32) (x0_way : (Nat → Int32)) (x0_steps : Int32) (x0_met : Int64) (x0_queue : (Nat → Int32)) (x0_totals : (Nat → Int32)) (p1 : Int32) (p2 : Int32) (p3 : Int32) (p4 : Int32) (p5 : Int32) (p6 : Int32)  {out : Int32 × (Nat → Int32) × Int32 × (Nat → Nat → Int32)} (hf : fX7_line (x0_shelf, x0_rowSort, x0_rowSize, x0_rows, x0_moved, x0_shown, x0_tape, x0_tapeSize, x0_refused, x0_lines, x0_line, x0_changes, x0_coins, x0_goods, x0_good, x0_works, x0_work, x0_years, x0_gone, x0_spent, x0_at, x0_token, x0_from, x0_figures, x0_fault, x0_numbers, x0_statements, x0_left, x0_far, x0_tons, x0_way, x0_steps, x0_met, x0_queue, x0_totals) p1 p2 p3 p4 p5 p6 = some out) : Ct l d yX7_line cX7_line 8 (some .int) { frames := 2, cells := 0, slots := 0, locals := 45 } [.ref (h0 0), .int p1, .int p2, .int p3, .int p4, .int p5, .int p6] [gMd d h0 a0_kept a0_tried a0_chosen r0_rows r0_line r0_good r0_work x0_shelf x0_rowSort x0_rowSize x0_moved x0_shown x0_tape x0_tapeSize x0_refused x0_lines x0_changes x0_coins x0_goods x0_works x0_years x0_gone x0_spent x0_at x0_token x0_from x0_figures x0_fault x0_numbers x0_statements x0_left x0_far x0_tons x0_way x0_steps x0_met x0_queue x0_totals, gridI d r0_line 20 7 x0_line] (fun _ : Unit => (some (.int out.1), [gMd d h0 a0_kept a0_tried a0_chosen r0_rows r0_line r0_good r0_work x0_shelf x0_rowSort x0_rowSize x0_moved x0_shown x0_tape x0_tapeSize (out.2.1) (out.2.2.1) x0_changes x0_coins x0_goods x0_works x0_years x0_gone x0_spent x0_at x0_token x0_from x0_figures x0_fault x0_numbers x0_statements x0_left x0_far x0_tons x0_way x0_steps x0_met x0_queue x0_totals, gridI d r0_line 20 7 (out.2.2.2)])) := by
  refine Ct.of (by decide) (Nat.le_of_ble_eq_true rfl) ?_
  intro Φ hl hK hR
  subst hl
  have hK : Ok d Φ RX7 "line" cX7_line 8 (some .int) { frames := 2, cells := 0, slots := 0, locals := 45 } := hK
  unfold fX7_line at hf
  have hf := un35 hf
  show J d Φ 8 [gMd d h0 a0_kept a0_tried a0_chosen r0_rows r0_line r0_good r0_work x0_shelf x0_rowSort x0_rowSize x0_moved x0_shown x0_tape x0_tapeSize x0_refused x0_lines x0_changes x0_coins x0_goods x0_works x0_years x0_gone x0_spent x0_at x0_token x0_from x0_figures x0_fault x0_numbers x0_statements x0_left x0_far x0_tons x0_way x0_steps x0_met x0_queue x0_totals, gridI d r0_line 20 7 x0_line] 0 0 0 [(0, .ref (h0 0)), (1, .int p1), (2, .int p2), (3, .int p3), (4, .int p4), (5, .int p5), (6, .int p6)] []
  refine J_iload_n hK dX7_line_0 rfl 1 rfl rfl ?_
  obtain ⟨v1, e2, hf⟩ := bs hf
  refine J_callS (m' := 2) (ce' := 0) (sl' := 0) (gr := [gMd d h0 a0_kept a0_tried a0_chosen r0_rows r0_line r0_good r0_work x0_shelf x0_rowSort x0_rowSize x0_moved x0_shown x0_tape x0_tapeSize x0_refused x0_lines x0_changes x0_coins x0_goods x0_works x0_years x0_gone x0_spent x0_at x0_token x0_from x0_figures x0_fault x0_numbers x0_statements x0_left x0_far x0_tons x0_way x0_steps x0_met x0_queue x0_totals, gridI d r0_line 20 7 x0_line]) (gs' := fun _ => [gMd d h0 a0_kept a0_tried a0_chosen r0_rows r0_line r0_good r0_work x0_shelf x0_rowSort x0_rowSize x0_moved x0_shown x0_tape x0_tapeSize x0_refused x0_lines x0_changes x0_coins x0_goods x0_works x0_years x0_gone x0_spent x0_at x0_token x0_from x0_figures x0_fault x0_numbers x0_statements x0_left x0_far x0_tons x0_way x0_steps x0_met x0_queue x0_totals, gridI d r0_line 20 7 x0_line]) (st' := fun _ => [.int v1]) (st := []) hK dX7_line_1 cv_RX7_112 ws_yX7_isPlace (As := [.int p1]) (kX7_isPlace _ d p1 e2) rfl rfl (Nat.le_of_ble_eq_true rfl) (by decide) [] [0, 1] rfl rfl rfl rfl [0, 1] rfl (fun _ => rfl) (fun _ => rfl) rfl rfl rfl (fun _ => rfl) (fun _ => ?_)
  have j49 : ∀ (y3 : Int32), fX7_line_j49 p1 p2 p3 p4 p5 p6 x0_shelf x0_rowSort x0_rowSize x0_rows x0_moved x0_shown x0_tape x0_tapeSize x0_refused x0_lines x0_line x0_changes x0_coins x0_goods x0_good x0_works x0_work x0_years x0_gone x0_spent x0_at x0_token x0_from x0_figures x0_fault x0_numbers x0_statements x0_left x0_far x0_tons x0_way x0_steps x0_met x0_queue x0_totals y3 = some out → J d Φ 8 [gMd d h0 a0_kept a0_tried a0_chosen r0_rows r0_line r0_good r0_work x0_shelf x0_rowSort x0_rowSize x0_moved x0_shown x0_tape x0_tapeSize x0_refused x0_lines x0_changes x0_coins x0_goods x0_works x0_years x0_gone x0_spent x0_at x0_token x0_from x0_figures x0_fault x0_numbers x0_statements x0_left x0_far x0_tons x0_way x0_steps x0_met x0_queue x0_totals, gridI d r0_line 20 7 x0_line] 0 0 49 [(0, .ref (h0 0)), (1, .int p1), (2, .int p2), (3, .int p3), (4, .int p4), (5, .int p5), (6, .int p6)] [.int y3] := by
    intro y3 hf
    unfold fX7_line_j49 at hf
    refine J_istore (L' := [(7, .int y3), (0, .ref (h0 0)), (1, .int p1), (2, .int p2), (3, .int p3), (4, .int p4), (5, .int p5), (6, .int p6)]) hK dX7_line_49 rfl (by decide) rfl ?_
    refine J_iload hK dX7_line_51 rfl 0 rfl ?_
    refine J_if_eq (tg := 82) hK dX7_line_53 rfl rfl (fun hc53 => ?_) (fun hc53 => ?_)
    · have hf := ip hc53 hf
      refine J_aload_n hK dX7_line_82 rfl 1 rfl rfl ?_
      refine J_bipush (v := (-2)) hK dX7_line_83 rfl (by decide) ?_
      obtain ⟨⟨v4, g5⟩, e6, hf⟩ := bs hf
      have hf := un2 hf
      refine J_callV (m' := 2) (ce' := 0) (sl' := 0) (gr := [gridI d r0_line 20 7 x0_line]) (gs' := fun _ => [gMd d h0 a0_kept a0_tried a0_chosen r0_rows r0_line r0_good r0_work x0_shelf x0_rowSort x0_rowSize x0_moved x0_shown x0_tape x0_tapeSize g5 x0_lines x0_changes x0_coins x0_goods x0_works x0_years x0_gone x0_spent x0_at x0_token x0_from x0_figures x0_fault x0_numbers x0_statements x0_left x0_far x0_tons x0_way x0_steps x0_met x0_queue x0_totals, gridI d r0_line 20 7 x0_line]) (st' := fun _ => [.int v4]) (st := []) hK dX7_line_85 cv_RX7_94 iv_yX7_refuse (As := [.int (-2)]) (kX7_refuse _ d h0 r0_rows r0_line r0_good r0_work a0_kept a0_tried a0_chosen x0_shelf x0_rowSort x0_rowSize x0_rows x0_moved x0_shown x0_tape x0_tapeSize x0_refused x0_lines x0_line x0_changes x0_coins x0_goods x0_good x0_works x0_work x0_years x0_gone x0_spent x0_at x0_token x0_from x0_figures x0_fault x0_numbers x0_statements x0_left x0_far x0_tons x0_way x0_steps x0_met x0_queue x0_totals (-2) e6) rfl rfl (Nat.le_of_ble_eq_true rfl) (by decide) 0 0 rfl rfl rfl [0] [1] rfl rfl rfl rfl [1, 0] rfl (fun _ => rfl) (fun _ => rfl) rfl rfl rfl (fun _ => rfl) (fun _ => ?_)
      obtain rfl := Option.some.inj hf
      exact J_iret hK hR dX7_line_88 () rfl (by decide) (by decide)
    · have hf := iq hc53 hf
      refine J_iload hK dX7_line_56 rfl 6 rfl ?_
      refine J_i2l hK dX7_line_58 rfl ?_
      refine J_lconst (v := 1) hK dX7_line_59 rfl (by decide) ?_
      refine J_ldc2 (v := (999 : Int64)) hK dX7_line_60 rfl wk_RX7_117 ?_
      obtain ⟨v7, e8, hf⟩ := bs hf
      refine J_callS (m' := 2) (ce' := 0) (sl' := 0) (gr := [gMd d h0 a0_kept a0_tried a0_chosen r0_rows r0_line r0_good r0_work x0_shelf x0_rowSort x0_rowSize x0_moved x0_shown x0_tape x0_tapeSize x0_refused x0_lines x0_changes x0_coins x0_goods x0_works x0_years x0_gone x0_spent x0_at x0_token x0_from x0_figures x0_fault x0_numbers x0_statements x0_left x0_far x0_tons x0_way x0_steps x0_met x0_queue x0_totals, gridI d r0_line 20 7 x0_line]) (gs' := fun _ => [gMd d h0 a0_kept a0_tried a0_chosen r0_rows r0_line r0_good r0_work x0_shelf x0_rowSort x0_rowSize x0_moved x0_shown x0_tape x0_tapeSize x0_refused x0_lines x0_changes x0_coins x0_goods x0_works x0_years x0_gone x0_spent x0_at x0_token x0_from x0_figures x0_fault x0_numbers x0_statements x0_left x0_far x0_tons x0_way x0_steps x0_met x0_queue x0_totals, gridI d r0_line 20 7 x0_line]) (st' := fun _ => [.int v7]) (st := []) hK dX7_line_63 cv_RX7_78 ws_yX7_in (As := [.long ((p5).toInt64), .long (1 : Int64), .long (999 : Int64)]) (kX7_in _ d ((p5).toInt64) (1 : Int64) (999 : Int64) e8) rfl rfl (Nat.le_of_ble_eq_true rfl) (by decide) [] [0, 1] rfl rfl rfl rfl [0, 1] rfl (fun _ => rfl) (fun _ => rfl) rfl rfl rfl (fun _ => rfl) (fun _ => ?_)
      refine J_if_eq (tg := 82) hK dX7_line_66 rfl rfl (fun hc66 => ?_) (fun hc66 => ?_)
      · have hf := ip hc66 hf
        refine J_aload_n hK dX7_line_82 rfl 1 rfl rfl ?_
        refine J_bipush (v := (-2)) hK dX7_line_83 rfl (by decide) ?_
        obtain ⟨⟨v9, g10⟩, e11, hf⟩ := bs hf
        have hf := un2 hf
        refine J_callV (m' := 2) (ce' := 0) (sl' := 0) (gr := [gridI d r0_line 20 7 x0_line]) (gs' := fun _ => [gMd d h0 a0_kept a0_tried a0_chosen r0_rows r0_line r0_good r0_work x0_shelf x0_rowSort x0_rowSize x0_moved x0_shown x0_tape x0_tapeSize g10 x0_lines x0_changes x0_coins x0_goods x0_works x0_years x0_gone x0_spent x0_at x0_token x0_from x0_figures x0_fault x0_numbers x0_statements x0_left x0_far x0_tons x0_way x0_steps x0_met x0_queue x0_totals, gridI d r0_line 20 7 x0_line]) (st' := fun _ => [.int v9]) (st := []) hK dX7_line_85 cv_RX7_94 iv_yX7_refuse (As := [.int (-2)]) (kX7_refuse _ d h0 r0_rows r0_line r0_good r0_work a0_kept a0_tried a0_chosen x0_shelf x0_rowSort x0_rowSize x0_rows x0_moved x0_shown x0_tape x0_tapeSize x0_refused x0_lines x0_line x0_changes x0_coins x0_goods x0_good x0_works x0_work x0_years x0_gone x0_spent x0_at x0_token x0_from x0_figures x0_fault x0_numbers x0_statements x0_left x0_far x0_tons x0_way x0_steps x0_met x0_queue x0_totals (-2) e11) rfl rfl (Nat.le_of_ble_eq_true rfl) (by decide) 0 0 rfl rfl rfl [0] [1] rfl rfl rfl rfl [1, 0] rfl (fun _ => rfl) (fun _ => rfl) rfl rfl rfl (fun _ => rfl) (fun _ => ?_)
        obtain rfl := Option.some.inj hf
        exact J_iret hK hR dX7_line_88 () rfl (by decide) (by decide)
      · have hf := iq hc66 hf
        refine J_iload hK dX7_line_69 rfl 7 rfl ?_
        refine J_i2l hK dX7_line_71 rfl ?_
        refine J_lconst (v := 0) hK dX7_line_72 rfl (by decide) ?_
        refine J_ldc2 (v := (5 : Int64)) hK dX7_line_73 rfl wk_RX7_106 ?_
        obtain ⟨v12, e13, hf⟩ := bs hf
        refine J_callS (m' := 2) (ce' := 0) (sl' := 0) (gr := [gMd d h0 a0_kept a0_tried a0_chosen r0_rows r0_line r0_good r0_work x0_shelf x0_rowSort x0_rowSize x0_moved x0_shown x0_tape x0_tapeSize x0_refused x0_lines x0_changes x0_coins x0_goods x0_works x0_years x0_gone x0_spent x0_at x0_token x0_from x0_figures x0_fault x0_numbers x0_statements x0_left x0_far x0_tons x0_way x0_steps x0_met x0_queue x0_totals, gridI d r0_line 20 7 x0_line]) (gs' := fun _ => [gMd d h0 a0_kept a0_tried a0_chosen r0_rows r0_line r0_good r0_work x0_shelf x0_rowSort x0_rowSize x0_moved x0_shown x0_tape x0_tapeSize x0_refused x0_lines x0_changes x0_coins x0_goods x0_works x0_years x0_gone x0_spent x0_at x0_token x0_from x0_figures x0_fault x0_numbers x0_statements x0_left x0_far x0_tons x0_way x0_steps x0_met x0_queue x0_totals, gridI d r0_line 20 7 x0_line]) (st' := fun _ => [.int v12]) (st := []) hK dX7_line_76 cv_RX7_78 ws_yX7_in (As := [.long ((p6).toInt64), .long (0 : Int64), .long (5 : Int64)]) (kX7_in _ d ((p6).toInt64) (0 : Int64) (5 : Int64) e13) rfl rfl (Nat.le_of_ble_eq_true rfl) (by decide) [] [0, 1] rfl rfl rfl rfl [0, 1] rfl (fun _ => rfl) (fun _ => rfl) rfl rfl rfl (fun _ => rfl) (fun _ => ?_)
        refine J_if_ne (tg := 89) hK dX7_line_79 rfl rfl (fun hc79 => ?_) (fun hc79 => ?_)
        · have hf := iq hc79 hf
          refine J_aload_n hK dX7_line_89 rfl 1 rfl rfl ?_
          refine J_get hK fo_RX7_82 dX7_line_90 rfl 0 0 rfl rfl rfl ?_
          refine J_bipush (v := 20) hK dX7_line_93 rfl (by decide) ?_
          refine J_icmp_ne (tg := 105) hK dX7_line_95 rfl rfl (fun hc95 => ?_) (fun hc95 => ?_)
          · have hf := iq hc95 hf
            refine J_aload_n hK dX7_line_105 rfl 1 rfl rfl ?_
            refine J_iload_n hK dX7_line_106 rfl 2 rfl rfl ?_
            refine J_iload_n hK dX7_line_107 rfl 3 rfl rfl ?_
            obtain ⟨g14, e15, hf⟩ := bs hf
            refine J_callV (m' := 2) (ce' := 0) (sl' := 0) (gr := []) (gs' := fun _ => [gMd d h0 a0_kept a0_tried a0_chosen r0_rows r0_line r0_good r0_work x0_shelf x0_rowSort x0_rowSize x0_moved x0_shown x0_tape x0_tapeSize x0_refused x0_lines x0_changes x0_coins x0_goods x0_works x0_years x0_gone x0_spent x0_at x0_token x0_from x0_figures x0_fault x0_numbers x0_statements x0_left x0_far x0_tons x0_way x0_steps x0_met x0_queue x0_totals, gridI d r0_line 20 7 g14]) (st' := fun _ => []) (st := []) hK dX7_line_108 cv_RX7_119 iv_yX7_newLine (As := [.int p1, .int p2]) (kX7_newLine _ d h0 r0_rows r0_line r0_good r0_work a0_kept a0_tried a0_chosen x0_shelf x0_rowSort x0_rowSize x0_rows x0_moved x0_shown x0_tape x0_tapeSize x0_refused x0_lines x0_line x0_changes x0_coins x0_goods x0_good x0_works x0_work x0_years x0_gone x0_spent x0_at x0_token x0_from x0_figures x0_fault x0_numbers x0_statements x0_left x0_far x0_tons x0_way x0_steps x0_met x0_queue x0_totals p1 p2 e15) rfl rfl (Nat.le_of_ble_eq_true rfl) (by decide) 0 0 rfl rfl rfl [0, 1] [] rfl rfl rfl rfl [0, 1] rfl (fun _ => rfl) (fun _ => rfl) rfl rfl rfl (fun _ => rfl) (fun _ => ?_)
            refine J_aload_n hK dX7_line_111 rfl 1 rfl rfl ?_
            refine J_get hK fo_RX7_39 dX7_line_112 rfl 0 0 rfl rfl rfl ?_
            refine J_aload_n hK dX7_line_115 rfl 1 rfl rfl ?_
            refine J_get hK fo_RX7_82 dX7_line_116 rfl 0 0 rfl rfl rfl ?_
            obtain ⟨q16, eq16, hf⟩ := bs hf
            refine J_aald hK dX7_line_119 rfl 0 9 rfl rfl rfl eq16 ?_
            refine J_iconst (v := 2) hK dX7_line_120 rfl (by decide) ?_
            refine J_iload_n hK dX7_line_121 rfl 4 rfl rfl ?_
            obtain ⟨f17, ef17, hf⟩ := bs hf
            refine J_iast (g' := gridI d r0_line 20 7 (va_up g14 q16 f17)) (gs' := [gMd d h0 a0_kept a0_tried a0_chosen r0_rows r0_line r0_good r0_work x0_shelf x0_rowSort x0_rowSize x0_moved x0_shown x0_tape x0_tapeSize x0_refused x0_lines x0_changes x0_coins x0_goods x0_works x0_years x0_gone x0_spent x0_at x0_token x0_from x0_figures x0_fault x0_numbers x0_statements x0_left x0_far x0_tons x0_way x0_steps x0_met x0_queue x0_totals, gridI d r0_line 20 7 (va_up g14 q16 f17)]) hK dX7_line_122 rfl 1 q16 rfl (gridI_at (ck_ok eq16).2.2) ef17 gridI_set rfl ?_
            refine J_aload_n hK dX7_line_123 rfl 1 rfl rfl ?_
            refine J_get hK fo_RX7_39 dX7_line_124 rfl 0 0 rfl rfl rfl ?_
            refine J_aload_n hK dX7_line_127 rfl 1 rfl rfl ?_
            refine J_get hK fo_RX7_82 dX7_line_128 rfl 0 0 rfl rfl rfl ?_
            obtain ⟨q18, eq18, hf⟩ := bs hf
            refine J_aald hK dX7_line_131 rfl 0 9 rfl rfl rfl eq18 ?_
            refine J_iconst (v := 3) hK dX7_line_132 rfl (by decide) ?_
            refine J_iload hK dX7_line_133 rfl 5 rfl ?_
            obtain ⟨f19, ef19, hf⟩ := bs hf
            refine J_iast (g' := gridI d r0_line 20 7 (va_up (va_up g14 q16 f17) q18 f19)) (gs' := [gMd d h0 a0_kept a0_tried a0_chosen r0_rows r0_line r0_good r0_work x0_shelf x0_rowSort x0_rowSize x0_moved x0_shown x0_tape x0_tapeSize x0_refused x0_lines x0_changes x0_coins x0_goods x0_works x0_years x0_gone x0_spent x0_at x0_token x0_from x0_figures x0_fault x0_numbers x0_statements x0_left x0_far x0_tons x0_way x0_steps x0_met x0_queue x0_totals, gridI d r0_line 20 7 (va_up (va_up g14 q16 f17) q18 f19)]) hK dX7_line_135 rfl 1 q18 rfl (gridI_at (ck_ok eq18).2.2) ef19 gridI_set rfl ?_
            refine J_aload_n hK dX7_line_136 rfl 1 rfl rfl ?_
            refine J_get hK fo_RX7_39 dX7_line_137 rfl 0 0 rfl rfl rfl ?_
            refine J_aload_n hK dX7_line_140 rfl 1 rfl rfl ?_
            refine J_get hK fo_RX7_82 dX7_line_141 rfl 0 0 rfl rfl rfl ?_
            obtain ⟨q20, eq20, hf⟩ := bs hf
            refine J_aald hK dX7_line_144 rfl 0 9 rfl rfl rfl eq20 ?_
            refine J_iconst (v := 4) hK dX7_line_145 rfl (by decide) ?_
            refine J_iload hK dX7_line_146 rfl 6 rfl ?_
            obtain ⟨f21, ef21, hf⟩ := bs hf
            refine J_iast (g' := gridI d r0_line 20 7 (va_up (va_up (va_up g14 q16 f17) q18 f19) q20 f21)) (gs' := [gMd d h0 a0_kept a0_tried a0_chosen r0_rows r0_line r0_good r0_work x0_shelf x0_rowSort x0_rowSize x0_moved x0_shown x0_tape x0_tapeSize x0_refused x0_lines x0_changes x0_coins x0_goods x0_works x0_years x0_gone x0_spent x0_at x0_token x0_from x0_figures x0_fault x0_numbers x0_statements x0_left x0_far x0_tons x0_way x0_steps x0_met x0_queue x0_totals, gridI d r0_line 20 7 (va_up (va_up (va_up g14 q16 f17) q18 f19) q20 f21)]) hK dX7_line_148 rfl 1 q20 rfl (gridI_at (ck_ok eq20).2.2) ef21 gridI_set rfl ?_
            refine J_aload_n hK dX7_line_149 rfl 1 rfl rfl ?_
            refine J_get hK fo_RX7_39 dX7_line_150 rfl 0 0 rfl rfl rfl ?_
            refine J_aload_n hK dX7_line_153 rfl 1 rfl rfl ?_
            refine J_get hK fo_RX7_82 dX7_line_154 rfl 0 0 rfl rfl rfl ?_
            obtain ⟨q22, eq22, hf⟩ := bs hf
            refine J_aald hK dX7_line_157 rfl 0 9 rfl rfl rfl eq22 ?_
            refine J_iconst (v := 5) hK dX7_line_158 rfl (by decide) ?_
            refine J_iload hK dX7_line_159 rfl 7 rfl ?_
            obtain ⟨f23, ef23, hf⟩ := bs hf
            refine J_iast (g' := gridI d r0_line 20 7 (va_up (va_up (va_up (va_up g14 q16 f17) q18 f19) q20 f21) q22 f23)) (gs' := [gMd d h0 a0_kept a0_tried a0_chosen r0_rows r0_line r0_good r0_work x0_shelf x0_rowSort x0_rowSize x0_moved x0_shown x0_tape x0_tapeSize x0_refused x0_lines x0_changes x0_coins x0_goods x0_works x0_years x0_gone x0_spent x0_at x0_token x0_from x0_figures x0_fault x0_numbers x0_statements x0_left x0_far x0_tons x0_way x0_steps x0_met x0_queue x0_totals, gridI d r0_line 20 7 (va_up (va_up (va_up (va_up g14 q16 f17) q18 f19) q20 f21) q22 f23)]) hK dX7_line_161 rfl 1 q22 rfl (gridI_at (ck_ok eq22).2.2) ef23 gridI_set rfl ?_
            refine J_aload_n hK dX7_line_162 rfl 1 rfl rfl ?_
            refine J_dup hK dX7_line_163 rfl rfl ?_
            refine J_get hK fo_RX7_82 dX7_line_164 rfl 0 0 rfl rfl rfl ?_
            refine J_dup_x1 hK dX7_line_167 rfl rfl rfl ?_
            refine J_iconst (v := 1) hK dX7_line_168 rfl (by decide) ?_
            refine J_iadd hK dX7_line_169 rfl ?_
            refine J_put (g' := gMd d h0 a0_kept a0_tried a0_chosen r0_rows r0_line r0_good r0_work x0_shelf x0_rowSort x0_rowSize x0_moved x0_shown x0_tape x0_tapeSize x0_refused (x0_lines + 1) x0_changes x0_coins x0_goods x0_works x0_years x0_gone x0_spent x0_at x0_token x0_from x0_figures x0_fault x0_numbers x0_statements x0_left x0_far x0_tons x0_way x0_steps x0_met x0_queue x0_totals) (gs' := [gMd d h0 a0_kept a0_tried a0_chosen r0_rows r0_line r0_good r0_work x0_shelf x0_rowSort x0_rowSize x0_moved x0_shown x0_tape x0_tapeSize x0_refused (x0_lines + 1) x0_changes x0_coins x0_goods x0_works x0_years x0_gone x0_spent x0_at x0_token x0_from x0_figures x0_fault x0_numbers x0_statements x0_left x0_far x0_tons x0_way x0_steps x0_met x0_queue x0_totals, gridI d r0_line 20 7 (va_up (va_up (va_up (va_up g14 q16 f17) q18 f19) q20 f21) q22 f23)]) hK fp_RX7_82 dX7_line_170 rfl 0 0 rfl rfl rfl rfl (Nat.le_of_ble_eq_true rfl) rfl rfl ?_
            obtain rfl := Option.some.inj hf
            exact J_iret hK hR dX7_line_173 () rfl (by decide) (by decide)
          · have hf := ip hc95 hf
            refine J_aload_n hK dX7_line_98 rfl 1 rfl rfl ?_
            refine J_bipush (v := (-6)) hK dX7_line_99 rfl (by decide) ?_
            obtain ⟨⟨v24, g25⟩, e26, hf⟩ := bs hf
            have hf := un2 hf
            refine J_callV (m' := 2) (ce' := 0) (sl' := 0) (gr := [gridI d r0_line 20 7 x0_line]) (gs' := fun _ => [gMd d h0 a0_kept a0_tried a0_chosen r0_rows r0_line r0_good r0_work x0_shelf x0_rowSort x0_rowSize x0_moved x0_shown x0_tape x0_tapeSize g25 x0_lines x0_changes x0_coins x0_goods x0_works x0_years x0_gone x0_spent x0_at x0_token x0_from x0_figures x0_fault x0_numbers x0_statements x0_left x0_far x0_tons x0_way x0_steps x0_met x0_queue x0_totals, gridI d r0_line 20 7 x0_line]) (st' := fun _ => [.int v24]) (st := []) hK dX7_line_101 cv_RX7_94 iv_yX7_refuse (As := [.int (-6)]) (kX7_refuse _ d h0 r0_rows r0_line r0_good r0_work a0_kept a0_tried a0_chosen x0_shelf x0_rowSort x0_rowSize x0_rows x0_moved x0_shown x0_tape x0_tapeSize x0_refused x0_lines x0_line x0_changes x0_coins x0_goods x0_good x0_works x0_work x0_years x0_gone x0_spent x0_at x0_token x0_from x0_figures x0_fault x0_numbers x0_statements x0_left x0_far x0_tons x0_way x0_steps x0_met x0_queue x0_totals (-6) e26) rfl rfl (Nat.le_of_ble_eq_true rfl) (by decide) 0 0 rfl rfl rfl [0] [1] rfl rfl rfl rfl [1, 0] rfl (fun _ => rfl) (fun _ => rfl) rfl rfl rfl (fun _ => rfl) (fun _ => ?_)
            obtain rfl := Option.some.inj hf
            exact J_iret hK hR dX7_line_104 () rfl (by decide) (by decide)
        · have hf := ip hc79 hf
          refine J_aload_n hK dX7_line_82 rfl 1 rfl rfl ?_
          refine J_bipush (v := (-2)) hK dX7_line_83 rfl (by decide) ?_
          obtain ⟨⟨v27, g28⟩, e29, hf⟩ := bs hf
          have hf := un2 hf
          refine J_callV (m' := 2) (ce' := 0) (sl' := 0) (gr := [gridI d r0_line 20 7 x0_line]) (gs' := fun _ => [gMd d h0 a0_kept a0_tried a0_chosen r0_rows r0_line r0_good r0_work x0_shelf x0_rowSort x0_rowSize x0_moved x0_shown x0_tape x0_tapeSize g28 x0_lines x0_changes x0_coins x0_goods x0_works x0_years x0_gone x0_spent x0_at x0_token x0_from x0_figures x0_fault x0_numbers x0_statements x0_left x0_far x0_tons x0_way x0_steps x0_met x0_queue x0_totals, gridI d r0_line 20 7 x0_line]) (st' := fun _ => [.int v27]) (st := []) hK dX7_line_85 cv_RX7_94 iv_yX7_refuse (As := [.int (-2)]) (kX7_refuse _ d h0 r0_rows r0_line r0_good r0_work a0_kept a0_tried a0_chosen x0_shelf x0_rowSort x0_rowSize x0_rows x0_moved x0_shown x0_tape x0_tapeSize x0_refused x0_lines x0_line x0_changes x0_coins x0_goods x0_good x0_works x0_work x0_years x0_gone x0_spent x0_at x0_token x0_from x0_figures x0_fault x0_numbers x0_statements x0_left x0_far x0_tons x0_way x0_steps x0_met x0_queue x0_totals (-2) e29) rfl rfl (Nat.le_of_ble_eq_true rfl) (by decide) 0 0 rfl rfl rfl [0] [1] rfl rfl rfl rfl [1, 0] rfl (fun _ => rfl) (fun _ => rfl) rfl rfl rfl (fun _ => rfl) (fun _ => ?_)
          obtain rfl := Option.some.inj hf
          exact J_iret hK hR dX7_line_88 () rfl (by decide) (by decide)
  have j48 : fX7_line_j48 p1 p2 p3 p4 p5 p6 x0_shelf x0_rowSort x0_rowSize x0_rows x0_moved x0_shown x0_tape x0_tapeSize x0_refused x0_lines x0_line x0_changes x0_coins x0_goods x0_good x0_works x0_work x0_years x0_gone x0_spent x0_at x0_token x0_from x0_figures x0_fault x0_numbers x0_statements x0_left x0_far x0_tons x0_way x0_steps x0_met x0_queue x0_totals = some out → J d Φ 8 [gMd d h0 a0_kept a0_tried a0_chosen r0_rows r0_line r0_good r0_work x0_shelf x0_rowSort x0_rowSize x0_moved x0_shown x0_tape x0_tapeSize x0_refused x0_lines x0_changes x0_coins x0_goods x0_works x0_years x0_gone x0_spent x0_at x0_token x0_from x0_figures x0_fault x0_numbers x0_statements x0_left x0_far x0_tons x0_way x0_steps x0_met x0_queue x0_totals, gridI d r0_line 20 7 x0_line] 0 0 48 [(0, .ref (h0 0)), (1, .int p1), (2, .int p2), (3, .int p3), (4, .int p4), (5, .int p5), (6, .int p6)] [] := by
    intro  hf
    unfold fX7_line_j48 at hf
    refine J_iconst (v := 0) hK dX7_line_48 rfl (by decide) ?_
    exact (j49 (0) hf)
  refine J_if_eq (tg := 48) hK dX7_line_4 rfl rfl (fun hc4 => ?_) (fun hc4 => ?_)
  · have hf := ip hc4 hf
    exact (j48  hf)
  · have hf := iq hc4 hf
    refine J_iload_n hK dX7_line_7 rfl 2 rfl rfl ?_
    obtain ⟨v30, e31, hf⟩ := bs hf
    refine J_callS (m' := 2) (ce' := 0) (sl' := 0) (gr := [gMd d h0 a0_kept a0_tried a0_chosen r0_rows r0_line r0_good r0_work x0_shelf x0_rowSort x0_rowSize x0_moved x0_shown x0_tape x0_tapeSize x0_refused x0_lines x0_changes x0_coins x0_goods x0_works x0_years x0_gone x0_spent x0_at x0_token x0_from x0_figures x0_fault x0_numbers x0_statements x0_left x0_far x0_tons x0_way x0_steps x0_met x0_queue x0_totals, gridI d r0_line 20 7 x0_line]) (gs' := fun _ => [gMd d h0 a0_kept a0_tried a0_chosen r0_rows r0_line r0_good r0_work x0_shelf x0_rowSort x0_rowSize x0_moved x0_shown x0_tape x0_tapeSize x0_refused x0_lines x0_changes x0_coins x0_goods x0_works x0_years x0_gone x0_spent x0_at x0_token x0_from x0_figures x0_fault x0_numbers x0_statements x0_left x0_far x0_tons x0_way x0_steps x0_met x0_queue x0_totals, gridI d r0_line 20 7 x0_line]) (st' := fun _ => [.int v30]) (st := []) hK dX7_line_8 cv_RX7_112 ws_yX7_isPlace (As := [.int p2]) (kX7_isPlace _ d p2 e31) rfl rfl (Nat.le_of_ble_eq_true rfl) (by decide) [] [0, 1] rfl rfl rfl rfl [0, 1] rfl (fun _ => rfl) (fun _ => rfl) rfl rfl rfl (fun _ => rfl) (fun _ => ?_)
    refine J_if_eq (tg := 48) hK dX7_line_11 rfl rfl (fun hc11 => ?_) (fun hc11 => ?_)
    · have hf := ip hc11 hf
      exact (j48  hf)
    · have hf := iq hc11 hf
      refine J_iload_n hK dX7_line_14 rfl 1 rfl rfl ?_
      refine J_iload_n hK dX7_line_15 rfl 2 rfl rfl ?_
      refine J_icmp_eq (tg := 48) hK dX7_line_16 rfl rfl (fun hc16 => ?_) (fun hc16 => ?_)
      · have hf := ip hc16 hf
        exact (j48  hf)
      · have hf := iq hc16 hf
        refine J_iload_n hK dX7_line_19 rfl 3 rfl rfl ?_
        refine J_i2l hK dX7_line_20 rfl ?_
        refine J_lconst (v := 1) hK dX7_line_21 rfl (by decide) ?_
        refine J_ldc2 (v := (7 : Int64)) hK dX7_line_22 rfl wk_RX7_88 ?_
        obtain ⟨v32, e33, hf⟩ := bs hf
        refine J_callS (m' := 2) (ce' := 0) (sl' := 0) (gr := [gMd d h0 a0_kept a0_tried a0_chosen r0_rows r0_line r0_good r0_work x0_shelf x0_rowSort x0_rowSize x0_moved x0_shown x0_tape x0_tapeSize x0_refused x0_lines x0_changes x0_coins x0_goods x0_works x0_years x0_gone x0_spent x0_at x0_token x0_from x0_figures x0_fault x0_numbers x0_statements x0_left x0_far x0_tons x0_way x0_steps x0_met x0_queue x0_totals, gridI d r0_line 20 7 x0_line]) (gs' := fun _ => [gMd d h0 a0_kept a0_tried a0_chosen r0_rows r0_line r0_good r0_work x0_shelf x0_rowSort x0_rowSize x0_moved x0_shown x0_tape x0_tapeSize x0_refused x0_lines x0_changes x0_coins x0_goods x0_works x0_years x0_gone x0_spent x0_at x0_token x0_from x0_figures x0_fault x0_numbers x0_statements x0_left x0_far x0_tons x0_way x0_steps x0_met x0_queue x0_totals, gridI d r0_line 20 7 x0_line]) (st' := fun _ => [.int v32]) (st := []) hK dX7_line_25 cv_RX7_78 ws_yX7_in (As := [.long ((p3).toInt64), .long (1 : Int64), .long (7 : Int64)]) (kX7_in _ d ((p3).toInt64) (1 : Int64) (7 : Int64) e33) rfl rfl (Nat.le_of_ble_eq_true rfl) (by decide) [] [0, 1] rfl rfl rfl rfl [0, 1] rfl (fun _ => rfl) (fun _ => rfl) rfl rfl rfl (fun _ => rfl) (fun _ => ?_)
        refine J_if_eq (tg := 48) hK dX7_line_28 rfl rfl (fun hc28 => ?_) (fun hc28 => ?_)
        · have hf := ip hc28 hf
          exact (j48  hf)
        · have hf := iq hc28 hf
          refine J_iload hK dX7_line_31 rfl 4 rfl ?_
          refine J_i2l hK dX7_line_33 rfl ?_
          refine J_lconst (v := 1) hK dX7_line_34 rfl (by decide) ?_
          refine J_ldc2 (v := (60 : Int64)) hK dX7_line_35 rfl wk_RX7_115 ?_
          obtain ⟨v34, e35, hf⟩ := bs hf
          refine J_callS (m' := 2) (ce' := 0) (sl' := 0) (gr := [gMd d h0 a0_kept a0_tried a0_chosen r0_rows r0_line r0_good r0_work x0_shelf x0_rowSort x0_rowSize x0_moved x0_shown x0_tape x0_tapeSize x0_refused x0_lines x0_changes x0_coins x0_goods x0_works x0_years x0_gone x0_spent x0_at x0_token x0_from x0_figures x0_fault x0_numbers x0_statements x0_left x0_far x0_tons x0_way x0_steps x0_met x0_queue x0_totals, gridI d r0_line 20 7 x0_line]) (gs' := fun _ => [gMd d h0 a0_kept a0_tried a0_chosen r0_rows r0_line r0_good r0_work x0_shelf x0_rowSort x0_rowSize x0_moved x0_shown x0_tape x0_tapeSize x0_refused x0_lines x0_changes x0_coins x0_goods x0_works x0_years x0_gone x0_spent x0_at x0_token x0_from x0_figures x0_fault x0_numbers x0_statements x0_left x0_far x0_tons x0_way x0_steps x0_met x0_queue x0_totals, gridI d r0_line 20 7 x0_line]) (st' := fun _ => [.int v34]) (st := []) hK dX7_line_38 cv_RX7_78 ws_yX7_in (As := [.long ((p4).toInt64), .long (1 : Int64), .long (60 : Int64)]) (kX7_in _ d ((p4).toInt64) (1 : Int64) (60 : Int64) e35) rfl rfl (Nat.le_of_ble_eq_true rfl) (by decide) [] [0, 1] rfl rfl rfl rfl [0, 1] rfl (fun _ => rfl) (fun _ => rfl) rfl rfl rfl (fun _ => rfl) (fun _ => ?_)
          refine J_if_eq (tg := 48) hK dX7_line_41 rfl rfl (fun hc41 => ?_) (fun hc41 => ?_)
          · have hf := ip hc41 hf
            exact (j48  hf)
          · have hf := iq hc41 hf
            refine J_iconst (v := 1) hK dX7_line_44 rfl (by decide) ?_
            refine J_goto hK dX7_line_45 (n := 49) rfl ?_
            exact (j49 (1) hf)

def fX7_goods (X0 : MdT) (p1 : Int32) (p2 : Int32) (p3 : Int32) : Option (Int32 × (Nat → Int32) × Int32 × (Nat → Nat → Int32)) :=
  u35 (fun (x0_shelf : (Nat → Int32)) (x0_rowSort : (Nat → Int32)) (x0_rowSize : (Nat → Int32)) (x0_rows : (Nat → Nat → Int64)) (x0_moved : (Nat → Int64)) (x0_shown : (Nat → Int32)) (x0_tape : (Nat → Int32)) (x0_tapeSize : Int32) (x0_refused : (Nat → Int32)) (x0_lines : Int32) (x0_line : (Nat → Nat → Int32)) (x0_changes : (Nat → Int32)) (x0_coins : (Nat → Int32)) (x0_goods : Int32) (x0_good : (Nat → Nat → Int32)) (x0_works : Int32) (x0_work : (Nat → Nat → Int32)) (x0_years : Int32) (x0_gone : Int32) (x0_spent : Int32) (x0_at : Int32) (x0_token : Int32) (x0_from : Int32) (x0_figures : Int64) (x0_fault : Int32) (x0_numbers : (Nat → Int32)) (x0_statements : Int32) (x0_left : (Nat → Int32)) (x0_far : (Nat → Int32)) (x0_tons : Int32) (x0_way : (Nat → Int32)) (x0_steps : Int32) (x0_met : Int64) (x0_queue : (Nat → Int32)) (x0_totals : (Nat → Int32)) => (fX7_isPlace p1).bind (fun v1 => if v1 = 0 then ((fX7_refuse (x0_shelf, x0_rowSort, x0_rowSize, x0_rows, x0_moved, x0_shown, x0_tape, x0_tapeSize, x0_refused, x0_lines, x0_line, x0_changes, x0_coins, x0_goods, x0_good, x0_works, x0_work, x0_years, x0_gone, x0_spent, x0_at, x0_token, x0_from, x0_figures, x0_fault, x0_numbers, x0_statements, x0_left, x0_far, x0_tons, x0_way, x0_steps, x0_met, x0_queue, x0_totals) (-2)).bind (u2 fun v3 g4 => some (v3, g4, x0_goods, x0_good))) else ((fX7_isPlace p2).bind (fun v6 => if v6 = 0 then ((fX7_refuse (x0_shelf, x0_rowSort, x0_rowSize, x0_rows, x0_moved, x0_shown, x0_tape, x0_tapeSize, x0_refused, x0_lines, x0_line, x0_changes, x0_coins, x0_goods, x0_good, x0_works, x0_work, x0_years, x0_gone, x0_spent, x0_at, x0_token, x0_from, x0_figures, x0_fault, x0_numbers, x0_statements, x0_left, x0_far, x0_tons, x0_way, x0_steps, x0_met, x0_queue, x0_totals) (-2)).bind (u2 fun v8 g9 => some (v8, g9, x0_goods, x0_good))) else (if p1 = p2 then ((fX7_refuse (x0_shelf, x0_rowSort, x0_rowSize, x0_rows, x0_moved, x0_shown, x0_tape, x0_tapeSize, x0_refused, x0_lines, x0_line, x0_changes, x0_coins, x0_goods, x0_good, x0_works, x0_work, x0_years, x0_gone, x0_spent, x0_at, x0_token, x0_from, x0_figures, x0_fault, x0_numbers, x0_statements, x0_left, x0_far, x0_tons, x0_way, x0_steps, x0_met, x0_queue, x0_totals) (-2)).bind (u2 fun v11 g12 => some (v11, g12, x0_goods, x0_good))) else ((fX7_in ((p3).toInt64) (1 : Int64) (99 : Int64)).bind (fun v14 => if v14 = 0 then ((fX7_refuse (x0_shelf, x0_rowSort, x0_rowSize, x0_rows, x0_moved, x0_shown, x0_tape, x0_tapeSize, x0_refused, x0_lines, x0_line, x0_changes, x0_coins, x0_goods, x0_good, x0_works, x0_work, x0_years, x0_gone, x0_spent, x0_at, x0_token, x0_from, x0_figures, x0_fault, x0_numbers, x0_statements, x0_left, x0_far, x0_tons, x0_way, x0_steps, x0_met, x0_queue, x0_totals) (-2)).bind (u2 fun v25 g26 => some (v25, g26, x0_goods, x0_good))) else (if x0_goods = 8 then ((fX7_refuse (x0_shelf, x0_rowSort, x0_rowSize, x0_rows, x0_moved, x0_shown, x0_tape, x0_tapeSize, x0_refused, x0_lines, x0_line, x0_changes, x0_coins, x0_goods, x0_good, x0_works, x0_work, x0_years, x0_gone, x0_spent, x0_at, x0_token, x0_from, x0_figures, x0_fault, x0_numbers, x0_statements, x0_left, x0_far, x0_tons, x0_way, x0_steps, x0_met, x0_queue, x0_totals) (-6)).bind (u2 fun v22 g23 => some (v22, g23, x0_goods, x0_good))) else ((ck x0_goods 8).bind fun q16 => (wr 3 (x0_good q16) (0) p1).bind fun f17 => (ck x0_goods 8).bind fun q18 => (wr 3 ((va_up x0_good q16 f17) q18) (1) p2).bind fun f19 => (ck x0_goods 8).bind fun q20 => (wr 3 ((va_up (va_up x0_good q16 f17) q18 f19) q20) (2) p3).bind fun f21 => some (x0_goods, x0_refused, (x0_goods + 1), (va_up (va_up (va_up x0_good q16 f17) q18 f19) q20 f21))))))))))) X0
set_option maxHeartbeats 4000000 in
set_option maxRecDepth 100000 in
theorem kX7_goods (l : Launch) (d : DT) (h0 : Nat → Nat) (r0_rows : Nat → Nat) (r0_line : Nat → Nat) (r0_good : Nat → Nat) (r0_work : Nat → Nat) (a0_kept : Option Nat) (a0_tried : Option Nat) (a0_chosen : Option Nat) (x0_shelf : (Nat → Int32)) (x0_rowSort : (Nat → Int32)) (x0_rowSize : (Nat → Int32)) (x0_rows : (Nat → Nat → Int64)) (x0_moved : (Nat → Int64)) (x0_shown : (Nat → Int32)) (x0_tape : (Nat → Int32)) (x0_tapeSize : Int32) (x0_refused : (Nat → Int32)) (x0_lines : Int32) (x0_line : (Nat → Nat → Int32)) (x0_changes : (Nat → Int32)) (x0_coins : (Nat → Int32)) (x0_goods : Int32) (x0_good : (Nat → Nat → Int32)) (x0_works : Int32) (x0_work : (Nat → Nat → Int32)) (x0_years : Int32) (x0_gone : Int32) (x0_spent : Int32) (x0_at : Int32) (x0_token : Int32) (x0_from : Int32) (x0_figures : Int64) (x0_fault : Int32) (x0_numbers : (Nat → Int32)) (x0_statements : Int32) (x0_left : (Nat → Int32)) (x0_far : (Nat → Int32)) (x0_tons : Int32) (x0_way : (Nat → Int32)) (x0_steps : Int32) (x0_met : Int64) (x0_queue : (Nat → Int32)) (x0_totals : (Nat → Int32)) (p1 : Int32) (p2 : Int32) (p3 : Int32)  {out : Int32 × (Nat → Int32) × Int32 × (Nat → Nat → Int32)} (hf : fX7_goods (x0_shelf, x0_rowSort, x0_rowSize, x0_rows, x0_moved, x0_shown, x0_tape, x0_tapeSize, x0_refused, x0_lines, x0_line, x0_changes, x0_coins, x0_goods, x0_good, x0_works, x0_work, x0_years, x0_gone, x0_spent, x0_at, x0_token, x0_from, x0_figures, x0_fault, x0_numbers, x0_statements, x0_left, x0_far, x0_tons, x0_way, x0_steps, x0_met, x0_queue, x0_totals) p1 p2 p3 = some out) : Ct l d yX7_goods cX7_goods 4 (some .int) { frames := 2, cells := 0, slots := 0, locals := 45 } [.ref (h0 0), .int p1, .int p2, .int p3] [gMd d h0 a0_kept a0_tried a0_chosen r0_rows r0_line r0_good r0_work x0_shelf x0_rowSort x0_rowSize x0_moved x0_shown x0_tape x0_tapeSize x0_refused x0_lines x0_changes x0_coins x0_goods x0_works x0_years x0_gone x0_spent x0_at x0_token x0_from x0_figures x0_fault x0_numbers x0_statements x0_left x0_far x0_tons x0_way x0_steps x0_met x0_queue x0_totals, gridI d r0_good 8 3 x0_good] (fun _ : Unit => (some (.int out.1), [gMd d h0 a0_kept a0_tried a0_chosen r0_rows r0_line r0_good r0_work x0_shelf x0_rowSort x0_rowSize x0_moved x0_shown x0_tape x0_tapeSize (out.2.1) x0_lines x0_changes x0_coins (out.2.2.1) x0_works x0_years x0_gone x0_spent x0_at x0_token x0_from x0_figures x0_fault x0_numbers x0_statements x0_left x0_far x0_tons x0_way x0_steps x0_met x0_queue x0_totals, gridI d r0_good 8 3 (out.2.2.2)])) := by
  refine Ct.of (by decide) (Nat.le_of_ble_eq_true rfl) ?_
  intro Φ hl hK hR
  subst hl
  have hK : Ok d Φ RX7 "goods" cX7_goods 4 (some .int) { frames := 2, cells := 0, slots := 0, locals := 45 } := hK
  unfold fX7_goods at hf
  have hf := un35 hf
  show J d Φ 4 [gMd d h0 a0_kept a0_tried a0_chosen r0_rows r0_line r0_good r0_work x0_shelf x0_rowSort x0_rowSize x0_moved x0_shown x0_tape x0_tapeSize x0_refused x0_lines x0_changes x0_coins x0_goods x0_works x0_years x0_gone x0_spent x0_at x0_token x0_from x0_figures x0_fault x0_numbers x0_statements x0_left x0_far x0_tons x0_way x0_steps x0_met x0_queue x0_totals, gridI d r0_good 8 3 x0_good] 0 0 0 [(0, .ref (h0 0)), (1, .int p1), (2, .int p2), (3, .int p3)] []
  refine J_iload_n hK dX7_goods_0 rfl 1 rfl rfl ?_
  obtain ⟨v1, e2, hf⟩ := bs hf
  refine J_callS (m' := 2) (ce' := 0) (sl' := 0) (gr := [gMd d h0 a0_kept a0_tried a0_chosen r0_rows r0_line r0_good r0_work x0_shelf x0_rowSort x0_rowSize x0_moved x0_shown x0_tape x0_tapeSize x0_refused x0_lines x0_changes x0_coins x0_goods x0_works x0_years x0_gone x0_spent x0_at x0_token x0_from x0_figures x0_fault x0_numbers x0_statements x0_left x0_far x0_tons x0_way x0_steps x0_met x0_queue x0_totals, gridI d r0_good 8 3 x0_good]) (gs' := fun _ => [gMd d h0 a0_kept a0_tried a0_chosen r0_rows r0_line r0_good r0_work x0_shelf x0_rowSort x0_rowSize x0_moved x0_shown x0_tape x0_tapeSize x0_refused x0_lines x0_changes x0_coins x0_goods x0_works x0_years x0_gone x0_spent x0_at x0_token x0_from x0_figures x0_fault x0_numbers x0_statements x0_left x0_far x0_tons x0_way x0_steps x0_met x0_queue x0_totals, gridI d r0_good 8 3 x0_good]) (st' := fun _ => [.int v1]) (st := []) hK dX7_goods_1 cv_RX7_112 ws_yX7_isPlace (As := [.int p1]) (kX7_isPlace _ d p1 e2) rfl rfl (Nat.le_of_ble_eq_true rfl) (by decide) [] [0, 1] rfl rfl rfl rfl [0, 1] rfl (fun _ => rfl) (fun _ => rfl) rfl rfl rfl (fun _ => rfl) (fun _ => ?_)
  refine J_if_eq (tg := 31) hK dX7_goods_4 rfl rfl (fun hc4 => ?_) (fun hc4 => ?_)
  · have hf := ip hc4 hf
    refine J_aload_n hK dX7_goods_31 rfl 0 rfl rfl ?_
    refine J_bipush (v := (-2)) hK dX7_goods_32 rfl (by decide) ?_
    obtain ⟨⟨v3, g4⟩, e5, hf⟩ := bs hf
    have hf := un2 hf
    refine J_callV (m' := 2) (ce' := 0) (sl' := 0) (gr := [gridI d r0_good 8 3 x0_good]) (gs' := fun _ => [gMd d h0 a0_kept a0_tried a0_chosen r0_rows r0_line r0_good r0_work x0_shelf x0_rowSort x0_rowSize x0_moved x0_shown x0_tape x0_tapeSize g4 x0_lines x0_changes x0_coins x0_goods x0_works x0_years x0_gone x0_spent x0_at x0_token x0_from x0_figures x0_fault x0_numbers x0_statements x0_left x0_far x0_tons x0_way x0_steps x0_met x0_queue x0_totals, gridI d r0_good 8 3 x0_good]) (st' := fun _ => [.int v3]) (st := []) hK dX7_goods_34 cv_RX7_94 iv_yX7_refuse (As := [.int (-2)]) (kX7_refuse _ d h0 r0_rows r0_line r0_good r0_work a0_kept a0_tried a0_chosen x0_shelf x0_rowSort x0_rowSize x0_rows x0_moved x0_shown x0_tape x0_tapeSize x0_refused x0_lines x0_line x0_changes x0_coins x0_goods x0_good x0_works x0_work x0_years x0_gone x0_spent x0_at x0_token x0_from x0_figures x0_fault x0_numbers x0_statements x0_left x0_far x0_tons x0_way x0_steps x0_met x0_queue x0_totals (-2) e5) rfl rfl (Nat.le_of_ble_eq_true rfl) (by decide) 0 0 rfl rfl rfl [0] [1] rfl rfl rfl rfl [1, 0] rfl (fun _ => rfl) (fun _ => rfl) rfl rfl rfl (fun _ => rfl) (fun _ => ?_)
    obtain rfl := Option.some.inj hf
    exact J_iret hK hR dX7_goods_37 () rfl (by decide) (by decide)
  · have hf := iq hc4 hf
    refine J_iload_n hK dX7_goods_7 rfl 2 rfl rfl ?_
    obtain ⟨v6, e7, hf⟩ := bs hf
    refine J_callS (m' := 2) (ce' := 0) (sl' := 0) (gr := [gMd d h0 a0_kept a0_tried a0_chosen r0_rows r0_line r0_good r0_work x0_shelf x0_rowSort x0_rowSize x0_moved x0_shown x0_tape x0_tapeSize x0_refused x0_lines x0_changes x0_coins x0_goods x0_works x0_years x0_gone x0_spent x0_at x0_token x0_from x0_figures x0_fault x0_numbers x0_statements x0_left x0_far x0_tons x0_way x0_steps x0_met x0_queue x0_totals, gridI d r0_good 8 3 x0_good]) (gs' := fun _ => [gMd d h0 a0_kept a0_tried a0_chosen r0_rows r0_line r0_good r0_work x0_shelf x0_rowSort x0_rowSize x0_moved x0_shown x0_tape x0_tapeSize x0_refused x0_lines x0_changes x0_coins x0_goods x0_works x0_years x0_gone x0_spent x0_at x0_token x0_from x0_figures x0_fault x0_numbers x0_statements x0_left x0_far x0_tons x0_way x0_steps x0_met x0_queue x0_totals, gridI d r0_good 8 3 x0_good]) (st' := fun _ => [.int v6]) (st := []) hK dX7_goods_8 cv_RX7_112 ws_yX7_isPlace (As := [.int p2]) (kX7_isPlace _ d p2 e7) rfl rfl (Nat.le_of_ble_eq_true rfl) (by decide) [] [0, 1] rfl rfl rfl rfl [0, 1] rfl (fun _ => rfl) (fun _ => rfl) rfl rfl rfl (fun _ => rfl) (fun _ => ?_)
    refine J_if_eq (tg := 31) hK dX7_goods_11 rfl rfl (fun hc11 => ?_) (fun hc11 => ?_)
    · have hf := ip hc11 hf
      refine J_aload_n hK dX7_goods_31 rfl 0 rfl rfl ?_
      refine J_bipush (v := (-2)) hK dX7_goods_32 rfl (by decide) ?_
      obtain ⟨⟨v8, g9⟩, e10, hf⟩ := bs hf
      have hf := un2 hf
      refine J_callV (m' := 2) (ce' := 0) (sl' := 0) (gr := [gridI d r0_good 8 3 x0_good]) (gs' := fun _ => [gMd d h0 a0_kept a0_tried a0_chosen r0_rows r0_line r0_good r0_work x0_shelf x0_rowSort x0_rowSize x0_moved x0_shown x0_tape x0_tapeSize g9 x0_lines x0_changes x0_coins x0_goods x0_works x0_years x0_gone x0_spent x0_at x0_token x0_from x0_figures x0_fault x0_numbers x0_statements x0_left x0_far x0_tons x0_way x0_steps x0_met x0_queue x0_totals, gridI d r0_good 8 3 x0_good]) (st' := fun _ => [.int v8]) (st := []) hK dX7_goods_34 cv_RX7_94 iv_yX7_refuse (As := [.int (-2)]) (kX7_refuse _ d h0 r0_rows r0_line r0_good r0_work a0_kept a0_tried a0_chosen x0_shelf x0_rowSort x0_rowSize x0_rows x0_moved x0_shown x0_tape x0_tapeSize x0_refused x0_lines x0_line x0_changes x0_coins x0_goods x0_good x0_works x0_work x0_years x0_gone x0_spent x0_at x0_token x0_from x0_figures x0_fault x0_numbers x0_statements x0_left x0_far x0_tons x0_way x0_steps x0_met x0_queue x0_totals (-2) e10) rfl rfl (Nat.le_of_ble_eq_true rfl) (by decide) 0 0 rfl rfl rfl [0] [1] rfl rfl rfl rfl [1, 0] rfl (fun _ => rfl) (fun _ => rfl) rfl rfl rfl (fun _ => rfl) (fun _ => ?_)
      obtain rfl := Option.some.inj hf
      exact J_iret hK hR dX7_goods_37 () rfl (by decide) (by decide)
    · have hf := iq hc11 hf
      refine J_iload_n hK dX7_goods_14 rfl 1 rfl rfl ?_
      refine J_iload_n hK dX7_goods_15 rfl 2 rfl rfl ?_
      refine J_icmp_eq (tg := 31) hK dX7_goods_16 rfl rfl (fun hc16 => ?_) (fun hc16 => ?_)
      · have hf := ip hc16 hf
        refine J_aload_n hK dX7_goods_31 rfl 0 rfl rfl ?_
        refine J_bipush (v := (-2)) hK dX7_goods_32 rfl (by decide) ?_
        obtain ⟨⟨v11, g12⟩, e13, hf⟩ := bs hf
        have hf := un2 hf
        refine J_callV (m' := 2) (ce' := 0) (sl' := 0) (gr := [gridI d r0_good 8 3 x0_good]) (gs' := fun _ => [gMd d h0 a0_kept a0_tried a0_chosen r0_rows r0_line r0_good r0_work x0_shelf x0_rowSort x0_rowSize x0_moved x0_shown x0_tape x0_tapeSize g12 x0_lines x0_changes x0_coins x0_goods x0_works x0_years x0_gone x0_spent x0_at x0_token x0_from x0_figures x0_fault x0_numbers x0_statements x0_left x0_far x0_tons x0_way x0_steps x0_met x0_queue x0_totals, gridI d r0_good 8 3 x0_good]) (st' := fun _ => [.int v11]) (st := []) hK dX7_goods_34 cv_RX7_94 iv_yX7_refuse (As := [.int (-2)]) (kX7_refuse _ d h0 r0_rows r0_line r0_good r0_work a0_kept a0_tried a0_chosen x0_shelf x0_rowSort x0_rowSize x0_rows x0_moved x0_shown x0_tape x0_tapeSize x0_refused x0_lines x0_line x0_changes x0_coins x0_goods x0_good x0_works x0_work x0_years x0_gone x0_spent x0_at x0_token x0_from x0_figures x0_fault x0_numbers x0_statements x0_left x0_far x0_tons x0_way x0_steps x0_met x0_queue x0_totals (-2) e13) rfl rfl (Nat.le_of_ble_eq_true rfl) (by decide) 0 0 rfl rfl rfl [0] [1] rfl rfl rfl rfl [1, 0] rfl (fun _ => rfl) (fun _ => rfl) rfl rfl rfl (fun _ => rfl) (fun _ => ?_)
        obtain rfl := Option.some.inj hf
        exact J_iret hK hR dX7_goods_37 () rfl (by decide) (by decide)
      · have hf := iq hc16 hf
        refine J_iload_n hK dX7_goods_19 rfl 3 rfl rfl ?_
        refine J_i2l hK dX7_goods_20 rfl ?_
        refine J_lconst (v := 1) hK dX7_goods_21 rfl (by decide) ?_
        refine J_ldc2 (v := (99 : Int64)) hK dX7_goods_22 rfl wk_RX7_123 ?_
        obtain ⟨v14, e15, hf⟩ := bs hf
        refine J_callS (m' := 2) (ce' := 0) (sl' := 0) (gr := [gMd d h0 a0_kept a0_tried a0_chosen r0_rows r0_line r0_good r0_work x0_shelf x0_rowSort x0_rowSize x0_moved x0_shown x0_tape x0_tapeSize x0_refused x0_lines x0_changes x0_coins x0_goods x0_works x0_years x0_gone x0_spent x0_at x0_token x0_from x0_figures x0_fault x0_numbers x0_statements x0_left x0_far x0_tons x0_way x0_steps x0_met x0_queue x0_totals, gridI d r0_good 8 3 x0_good]) (gs' := fun _ => [gMd d h0 a0_kept a0_tried a0_chosen r0_rows r0_line r0_good r0_work x0_shelf x0_rowSort x0_rowSize x0_moved x0_shown x0_tape x0_tapeSize x0_refused x0_lines x0_changes x0_coins x0_goods x0_works x0_years x0_gone x0_spent x0_at x0_token x0_from x0_figures x0_fault x0_numbers x0_statements x0_left x0_far x0_tons x0_way x0_steps x0_met x0_queue x0_totals, gridI d r0_good 8 3 x0_good]) (st' := fun _ => [.int v14]) (st := []) hK dX7_goods_25 cv_RX7_78 ws_yX7_in (As := [.long ((p3).toInt64), .long (1 : Int64), .long (99 : Int64)]) (kX7_in _ d ((p3).toInt64) (1 : Int64) (99 : Int64) e15) rfl rfl (Nat.le_of_ble_eq_true rfl) (by decide) [] [0, 1] rfl rfl rfl rfl [0, 1] rfl (fun _ => rfl) (fun _ => rfl) rfl rfl rfl (fun _ => rfl) (fun _ => ?_)
        refine J_if_ne (tg := 38) hK dX7_goods_28 rfl rfl (fun hc28 => ?_) (fun hc28 => ?_)
        · have hf := iq hc28 hf
          refine J_aload_n hK dX7_goods_38 rfl 0 rfl rfl ?_
          refine J_get hK fo_RX7_125 dX7_goods_39 rfl 0 0 rfl rfl rfl ?_
          refine J_bipush (v := 8) hK dX7_goods_42 rfl (by decide) ?_
          refine J_icmp_ne (tg := 54) hK dX7_goods_44 rfl rfl (fun hc44 => ?_) (fun hc44 => ?_)
          · have hf := iq hc44 hf
            refine J_aload_n hK dX7_goods_54 rfl 0 rfl rfl ?_
            refine J_get hK fo_RX7_48 dX7_goods_55 rfl 0 0 rfl rfl rfl ?_
            refine J_aload_n hK dX7_goods_58 rfl 0 rfl rfl ?_
            refine J_get hK fo_RX7_125 dX7_goods_59 rfl 0 0 rfl rfl rfl ?_
            obtain ⟨q16, eq16, hf⟩ := bs hf
            refine J_aald hK dX7_goods_62 rfl 0 12 rfl rfl rfl eq16 ?_
            refine J_iconst (v := 0) hK dX7_goods_63 rfl (by decide) ?_
            refine J_iload_n hK dX7_goods_64 rfl 1 rfl rfl ?_
            obtain ⟨f17, ef17, hf⟩ := bs hf
            refine J_iast (g' := gridI d r0_good 8 3 (va_up x0_good q16 f17)) (gs' := [gMd d h0 a0_kept a0_tried a0_chosen r0_rows r0_line r0_good r0_work x0_shelf x0_rowSort x0_rowSize x0_moved x0_shown x0_tape x0_tapeSize x0_refused x0_lines x0_changes x0_coins x0_goods x0_works x0_years x0_gone x0_spent x0_at x0_token x0_from x0_figures x0_fault x0_numbers x0_statements x0_left x0_far x0_tons x0_way x0_steps x0_met x0_queue x0_totals, gridI d r0_good 8 3 (va_up x0_good q16 f17)]) hK dX7_goods_65 rfl 1 q16 rfl (gridI_at (ck_ok eq16).2.2) ef17 gridI_set rfl ?_
            refine J_aload_n hK dX7_goods_66 rfl 0 rfl rfl ?_
            refine J_get hK fo_RX7_48 dX7_goods_67 rfl 0 0 rfl rfl rfl ?_
            refine J_aload_n hK dX7_goods_70 rfl 0 rfl rfl ?_
            refine J_get hK fo_RX7_125 dX7_goods_71 rfl 0 0 rfl rfl rfl ?_
            obtain ⟨q18, eq18, hf⟩ := bs hf
            refine J_aald hK dX7_goods_74 rfl 0 12 rfl rfl rfl eq18 ?_
            refine J_iconst (v := 1) hK dX7_goods_75 rfl (by decide) ?_
            refine J_iload_n hK dX7_goods_76 rfl 2 rfl rfl ?_
            obtain ⟨f19, ef19, hf⟩ := bs hf
            refine J_iast (g' := gridI d r0_good 8 3 (va_up (va_up x0_good q16 f17) q18 f19)) (gs' := [gMd d h0 a0_kept a0_tried a0_chosen r0_rows r0_line r0_good r0_work x0_shelf x0_rowSort x0_rowSize x0_moved x0_shown x0_tape x0_tapeSize x0_refused x0_lines x0_changes x0_coins x0_goods x0_works x0_years x0_gone x0_spent x0_at x0_token x0_from x0_figures x0_fault x0_numbers x0_statements x0_left x0_far x0_tons x0_way x0_steps x0_met x0_queue x0_totals, gridI d r0_good 8 3 (va_up (va_up x0_good q16 f17) q18 f19)]) hK dX7_goods_77 rfl 1 q18 rfl (gridI_at (ck_ok eq18).2.2) ef19 gridI_set rfl ?_
            refine J_aload_n hK dX7_goods_78 rfl 0 rfl rfl ?_
            refine J_get hK fo_RX7_48 dX7_goods_79 rfl 0 0 rfl rfl rfl ?_
            refine J_aload_n hK dX7_goods_82 rfl 0 rfl rfl ?_
            refine J_get hK fo_RX7_125 dX7_goods_83 rfl 0 0 rfl rfl rfl ?_
            obtain ⟨q20, eq20, hf⟩ := bs hf
            refine J_aald hK dX7_goods_86 rfl 0 12 rfl rfl rfl eq20 ?_
            refine J_iconst (v := 2) hK dX7_goods_87 rfl (by decide) ?_
            refine J_iload_n hK dX7_goods_88 rfl 3 rfl rfl ?_
            obtain ⟨f21, ef21, hf⟩ := bs hf
            refine J_iast (g' := gridI d r0_good 8 3 (va_up (va_up (va_up x0_good q16 f17) q18 f19) q20 f21)) (gs' := [gMd d h0 a0_kept a0_tried a0_chosen r0_rows r0_line r0_good r0_work x0_shelf x0_rowSort x0_rowSize x0_moved x0_shown x0_tape x0_tapeSize x0_refused x0_lines x0_changes x0_coins x0_goods x0_works x0_years x0_gone x0_spent x0_at x0_token x0_from x0_figures x0_fault x0_numbers x0_statements x0_left x0_far x0_tons x0_way x0_steps x0_met x0_queue x0_totals, gridI d r0_good 8 3 (va_up (va_up (va_up x0_good q16 f17) q18 f19) q20 f21)]) hK dX7_goods_89 rfl 1 q20 rfl (gridI_at (ck_ok eq20).2.2) ef21 gridI_set rfl ?_
            refine J_aload_n hK dX7_goods_90 rfl 0 rfl rfl ?_
            refine J_dup hK dX7_goods_91 rfl rfl ?_
            refine J_get hK fo_RX7_125 dX7_goods_92 rfl 0 0 rfl rfl rfl ?_
            refine J_dup_x1 hK dX7_goods_95 rfl rfl rfl ?_
            refine J_iconst (v := 1) hK dX7_goods_96 rfl (by decide) ?_
            refine J_iadd hK dX7_goods_97 rfl ?_
            refine J_put (g' := gMd d h0 a0_kept a0_tried a0_chosen r0_rows r0_line r0_good r0_work x0_shelf x0_rowSort x0_rowSize x0_moved x0_shown x0_tape x0_tapeSize x0_refused x0_lines x0_changes x0_coins (x0_goods + 1) x0_works x0_years x0_gone x0_spent x0_at x0_token x0_from x0_figures x0_fault x0_numbers x0_statements x0_left x0_far x0_tons x0_way x0_steps x0_met x0_queue x0_totals) (gs' := [gMd d h0 a0_kept a0_tried a0_chosen r0_rows r0_line r0_good r0_work x0_shelf x0_rowSort x0_rowSize x0_moved x0_shown x0_tape x0_tapeSize x0_refused x0_lines x0_changes x0_coins (x0_goods + 1) x0_works x0_years x0_gone x0_spent x0_at x0_token x0_from x0_figures x0_fault x0_numbers x0_statements x0_left x0_far x0_tons x0_way x0_steps x0_met x0_queue x0_totals, gridI d r0_good 8 3 (va_up (va_up (va_up x0_good q16 f17) q18 f19) q20 f21)]) hK fp_RX7_125 dX7_goods_98 rfl 0 0 rfl rfl rfl rfl (Nat.le_of_ble_eq_true rfl) rfl rfl ?_
            obtain rfl := Option.some.inj hf
            exact J_iret hK hR dX7_goods_101 () rfl (by decide) (by decide)
          · have hf := ip hc44 hf
            refine J_aload_n hK dX7_goods_47 rfl 0 rfl rfl ?_
            refine J_bipush (v := (-6)) hK dX7_goods_48 rfl (by decide) ?_
            obtain ⟨⟨v22, g23⟩, e24, hf⟩ := bs hf
            have hf := un2 hf
            refine J_callV (m' := 2) (ce' := 0) (sl' := 0) (gr := [gridI d r0_good 8 3 x0_good]) (gs' := fun _ => [gMd d h0 a0_kept a0_tried a0_chosen r0_rows r0_line r0_good r0_work x0_shelf x0_rowSort x0_rowSize x0_moved x0_shown x0_tape x0_tapeSize g23 x0_lines x0_changes x0_coins x0_goods x0_works x0_years x0_gone x0_spent x0_at x0_token x0_from x0_figures x0_fault x0_numbers x0_statements x0_left x0_far x0_tons x0_way x0_steps x0_met x0_queue x0_totals, gridI d r0_good 8 3 x0_good]) (st' := fun _ => [.int v22]) (st := []) hK dX7_goods_50 cv_RX7_94 iv_yX7_refuse (As := [.int (-6)]) (kX7_refuse _ d h0 r0_rows r0_line r0_good r0_work a0_kept a0_tried a0_chosen x0_shelf x0_rowSort x0_rowSize x0_rows x0_moved x0_shown x0_tape x0_tapeSize x0_refused x0_lines x0_line x0_changes x0_coins x0_goods x0_good x0_works x0_work x0_years x0_gone x0_spent x0_at x0_token x0_from x0_figures x0_fault x0_numbers x0_statements x0_left x0_far x0_tons x0_way x0_steps x0_met x0_queue x0_totals (-6) e24) rfl rfl (Nat.le_of_ble_eq_true rfl) (by decide) 0 0 rfl rfl rfl [0] [1] rfl rfl rfl rfl [1, 0] rfl (fun _ => rfl) (fun _ => rfl) rfl rfl rfl (fun _ => rfl) (fun _ => ?_)
            obtain rfl := Option.some.inj hf
            exact J_iret hK hR dX7_goods_53 () rfl (by decide) (by decide)
        · have hf := ip hc28 hf
          refine J_aload_n hK dX7_goods_31 rfl 0 rfl rfl ?_
          refine J_bipush (v := (-2)) hK dX7_goods_32 rfl (by decide) ?_
          obtain ⟨⟨v25, g26⟩, e27, hf⟩ := bs hf
          have hf := un2 hf
          refine J_callV (m' := 2) (ce' := 0) (sl' := 0) (gr := [gridI d r0_good 8 3 x0_good]) (gs' := fun _ => [gMd d h0 a0_kept a0_tried a0_chosen r0_rows r0_line r0_good r0_work x0_shelf x0_rowSort x0_rowSize x0_moved x0_shown x0_tape x0_tapeSize g26 x0_lines x0_changes x0_coins x0_goods x0_works x0_years x0_gone x0_spent x0_at x0_token x0_from x0_figures x0_fault x0_numbers x0_statements x0_left x0_far x0_tons x0_way x0_steps x0_met x0_queue x0_totals, gridI d r0_good 8 3 x0_good]) (st' := fun _ => [.int v25]) (st := []) hK dX7_goods_34 cv_RX7_94 iv_yX7_refuse (As := [.int (-2)]) (kX7_refuse _ d h0 r0_rows r0_line r0_good r0_work a0_kept a0_tried a0_chosen x0_shelf x0_rowSort x0_rowSize x0_rows x0_moved x0_shown x0_tape x0_tapeSize x0_refused x0_lines x0_line x0_changes x0_coins x0_goods x0_good x0_works x0_work x0_years x0_gone x0_spent x0_at x0_token x0_from x0_figures x0_fault x0_numbers x0_statements x0_left x0_far x0_tons x0_way x0_steps x0_met x0_queue x0_totals (-2) e27) rfl rfl (Nat.le_of_ble_eq_true rfl) (by decide) 0 0 rfl rfl rfl [0] [1] rfl rfl rfl rfl [1, 0] rfl (fun _ => rfl) (fun _ => rfl) rfl rfl rfl (fun _ => rfl) (fun _ => ?_)
          obtain rfl := Option.some.inj hf
          exact J_iret hK hR dX7_goods_37 () rfl (by decide) (by decide)

def fX7_mayBeFirst (X0 : MdT) (p1 : Int32) (p2 : Int32) : Option (Int32) :=
  u35 (fun (x0_shelf : (Nat → Int32)) (x0_rowSort : (Nat → Int32)) (x0_rowSize : (Nat → Int32)) (x0_rows : (Nat → Nat → Int64)) (x0_moved : (Nat → Int64)) (x0_shown : (Nat → Int32)) (x0_tape : (Nat → Int32)) (x0_tapeSize : Int32) (x0_refused : (Nat → Int32)) (x0_lines : Int32) (x0_line : (Nat → Nat → Int32)) (x0_changes : (Nat → Int32)) (x0_coins : (Nat → Int32)) (x0_goods : Int32) (x0_good : (Nat → Nat → Int32)) (x0_works : Int32) (x0_work : (Nat → Nat → Int32)) (x0_years : Int32) (x0_gone : Int32) (x0_spent : Int32) (x0_at : Int32) (x0_token : Int32) (x0_from : Int32) (x0_figures : Int64) (x0_fault : Int32) (x0_numbers : (Nat → Int32)) (x0_statements : Int32) (x0_left : (Nat → Int32)) (x0_far : (Nat → Int32)) (x0_tons : Int32) (x0_way : (Nat → Int32)) (x0_steps : Int32) (x0_met : Int64) (x0_queue : (Nat → Int32)) (x0_totals : (Nat → Int32)) => if p1 = 1 then ((fX7_isLine (x0_shelf, x0_rowSort, x0_rowSize, x0_rows, x0_moved, x0_shown, x0_tape, x0_tapeSize, x0_refused, x0_lines, x0_line, x0_changes, x0_coins, x0_goods, x0_good, x0_works, x0_work, x0_years, x0_gone, x0_spent, x0_at, x0_token, x0_from, x0_figures, x0_fault, x0_numbers, x0_statements, x0_left, x0_far, x0_tons, x0_way, x0_steps, x0_met, x0_queue, x0_totals) p2).bind (fun v1 => (zb v1).bind fun v3 => some v3)) else (if p1 = 2 then ((fX7_isLine (x0_shelf, x0_rowSort, x0_rowSize, x0_rows, x0_moved, x0_shown, x0_tape, x0_tapeSize, x0_refused, x0_lines, x0_line, x0_changes, x0_coins, x0_goods, x0_good, x0_works, x0_work, x0_years, x0_gone, x0_spent, x0_at, x0_token, x0_from, x0_figures, x0_fault, x0_numbers, x0_statements, x0_left, x0_far, x0_tons, x0_way, x0_steps, x0_met, x0_queue, x0_totals) p2).bind (fun v7 => (zb v7).bind fun v9 => some v9)) else ((fX7_isPlace p2).bind (fun v4 => (zb v4).bind fun v6 => some v6)))) X0
set_option maxHeartbeats 4000000 in
set_option maxRecDepth 100000 in
theorem kX7_mayBeFirst (l : Launch) (d : DT) (h0 : Nat → Nat) (r0_rows : Nat → Nat) (r0_line : Nat → Nat) (r0_good : Nat → Nat) (r0_work : Nat → Nat) (a0_kept : Option Nat) (a0_tried : Option Nat) (a0_chosen : Option Nat) (x0_shelf : (Nat → Int32)) (x0_rowSort : (Nat → Int32)) (x0_rowSize : (Nat → Int32)) (x0_rows : (Nat → Nat → Int64)) (x0_moved : (Nat → Int64)) (x0_shown : (Nat → Int32)) (x0_tape : (Nat → Int32)) (x0_tapeSize : Int32) (x0_refused : (Nat → Int32)) (x0_lines : Int32) (x0_line : (Nat → Nat → Int32)) (x0_changes : (Nat → Int32)) (x0_coins : (Nat → Int32)) (x0_goods : Int32) (x0_good : (Nat → Nat → Int32)) (x0_works : Int32) (x0_work : (Nat → Nat → Int32)) (x0_years : Int32) (x0_gone : Int32) (x0_spent : Int32) (x0_at : Int32) (x0_token : Int32) (x0_from : Int32) (x0_figures : Int64) (x0_fault : Int32) (x0_numbers : (Nat → Int32)) (x0_statements : Int32) (x0_left : (Nat → Int32)) (x0_far : (Nat → Int32)) (x0_tons : Int32) (x0_way : (Nat → Int32)) (x0_steps : Int32) (x0_met : Int64) (x0_queue : (Nat → Int32)) (x0_totals : (Nat → Int32)) (p1 : Int32) (p2 : Int32)  {out : Int32} (hf : fX7_mayBeFirst (x0_shelf, x0_rowSort, x0_rowSize, x0_rows, x0_moved, x0_shown, x0_tape, x0_tapeSize, x0_refused, x0_lines, x0_line, x0_changes, x0_coins, x0_goods, x0_good, x0_works, x0_work, x0_years, x0_gone, x0_spent, x0_at, x0_token, x0_from, x0_figures, x0_fault, x0_numbers, x0_statements, x0_left, x0_far, x0_tons, x0_way, x0_steps, x0_met, x0_queue, x0_totals) p1 p2 = some out) : Ct l d yX7_mayBeFirst cX7_mayBeFirst 3 (some .boolean) { frames := 2, cells := 0, slots := 0, locals := 46 } [.ref (h0 0), .int p1, .int p2] [gMd d h0 a0_kept a0_tried a0_chosen r0_rows r0_line r0_good r0_work x0_shelf x0_rowSort x0_rowSize x0_moved x0_shown x0_tape x0_tapeSize x0_refused x0_lines x0_changes x0_coins x0_goods x0_works x0_years x0_gone x0_spent x0_at x0_token x0_from x0_figures x0_fault x0_numbers x0_statements x0_left x0_far x0_tons x0_way x0_steps x0_met x0_queue x0_totals] (fun _ : Unit => (some (.int out), [gMd d h0 a0_kept a0_tried a0_chosen r0_rows r0_line r0_good r0_work x0_shelf x0_rowSort x0_rowSize x0_moved x0_shown x0_tape x0_tapeSize x0_refused x0_lines x0_changes x0_coins x0_goods x0_works x0_years x0_gone x0_spent x0_at x0_token x0_from x0_figures x0_fault x0_numbers x0_statements x0_left x0_far x0_tons x0_way x0_steps x0_met x0_queue x0_totals])) := by
  refine Ct.of (by decide) (Nat.le_of_ble_eq_true rfl) ?_
  intro Φ hl hK hR
  subst hl
  have hK : Ok d Φ RX7 "mayBeFirst" cX7_mayBeFirst 3 (some .boolean) { frames := 2, cells := 0, slots := 0, locals := 46 } := hK
  unfold fX7_mayBeFirst at hf
  have hf := un35 hf
  show J d Φ 3 [gMd d h0 a0_kept a0_tried a0_chosen r0_rows r0_line r0_good r0_work x0_shelf x0_rowSort x0_rowSize x0_moved x0_shown x0_tape x0_tapeSize x0_refused x0_lines x0_changes x0_coins x0_goods x0_works x0_years x0_gone x0_spent x0_at x0_token x0_from x0_figures x0_fault x0_numbers x0_statements x0_left x0_far x0_tons x0_way x0_steps x0_met x0_queue x0_totals] 0 0 0 [(0, .ref (h0 0)), (1, .int p1), (2, .int p2)] []
  refine J_iload_n hK dX7_mayBeFirst_0 rfl 1 rfl rfl ?_
  refine J_iconst (v := 1) hK dX7_mayBeFirst_1 rfl (by decide) ?_
  refine J_icmp_eq (tg := 10) hK dX7_mayBeFirst_2 rfl rfl (fun hc2 => ?_) (fun hc2 => ?_)
  · have hf := ip hc2 hf
    refine J_aload_n hK dX7_mayBeFirst_10 rfl 0 rfl rfl ?_
    refine J_iload_n hK dX7_mayBeFirst_11 rfl 2 rfl rfl ?_
    obtain ⟨v1, e2, hf⟩ := bs hf
    refine J_callV (m' := 1) (ce' := 0) (sl' := 0) (gr := []) (gs' := fun _ => [gMd d h0 a0_kept a0_tried a0_chosen r0_rows r0_line r0_good r0_work x0_shelf x0_rowSort x0_rowSize x0_moved x0_shown x0_tape x0_tapeSize x0_refused x0_lines x0_changes x0_coins x0_goods x0_works x0_years x0_gone x0_spent x0_at x0_token x0_from x0_figures x0_fault x0_numbers x0_statements x0_left x0_far x0_tons x0_way x0_steps x0_met x0_queue x0_totals]) (st' := fun _ => [.int v1]) (st := []) hK dX7_mayBeFirst_12 cv_RX7_128 iv_yX7_isLine (As := [.int p2]) (kX7_isLine _ d h0 r0_rows r0_line r0_good r0_work a0_kept a0_tried a0_chosen x0_shelf x0_rowSort x0_rowSize x0_rows x0_moved x0_shown x0_tape x0_tapeSize x0_refused x0_lines x0_line x0_changes x0_coins x0_goods x0_good x0_works x0_work x0_years x0_gone x0_spent x0_at x0_token x0_from x0_figures x0_fault x0_numbers x0_statements x0_left x0_far x0_tons x0_way x0_steps x0_met x0_queue x0_totals p2 e2) rfl rfl (Nat.le_of_ble_eq_true rfl) (by decide) 0 0 rfl rfl rfl [0] [] rfl rfl rfl rfl [0] rfl (fun _ => rfl) (fun _ => rfl) rfl rfl rfl (fun _ => rfl) (fun _ => ?_)
    refine J_goto hK dX7_mayBeFirst_15 (n := 22) rfl ?_
    obtain ⟨v3, ev3, hf⟩ := bs hf
    obtain rfl := Option.some.inj hf
    exact J_zret hK hR dX7_mayBeFirst_22 () (zb_ok ev3).2 (by rw [(zb_ok ev3).1]) (by decide) (by decide)
  · have hf := iq hc2 hf
    refine J_iload_n hK dX7_mayBeFirst_5 rfl 1 rfl rfl ?_
    refine J_iconst (v := 2) hK dX7_mayBeFirst_6 rfl (by decide) ?_
    refine J_icmp_ne (tg := 18) hK dX7_mayBeFirst_7 rfl rfl (fun hc7 => ?_) (fun hc7 => ?_)
    · have hf := iq hc7 hf
      refine J_iload_n hK dX7_mayBeFirst_18 rfl 2 rfl rfl ?_
      obtain ⟨v4, e5, hf⟩ := bs hf
      refine J_callS (m' := 1) (ce' := 0) (sl' := 0) (gr := [gMd d h0 a0_kept a0_tried a0_chosen r0_rows r0_line r0_good r0_work x0_shelf x0_rowSort x0_rowSize x0_moved x0_shown x0_tape x0_tapeSize x0_refused x0_lines x0_changes x0_coins x0_goods x0_works x0_years x0_gone x0_spent x0_at x0_token x0_from x0_figures x0_fault x0_numbers x0_statements x0_left x0_far x0_tons x0_way x0_steps x0_met x0_queue x0_totals]) (gs' := fun _ => [gMd d h0 a0_kept a0_tried a0_chosen r0_rows r0_line r0_good r0_work x0_shelf x0_rowSort x0_rowSize x0_moved x0_shown x0_tape x0_tapeSize x0_refused x0_lines x0_changes x0_coins x0_goods x0_works x0_years x0_gone x0_spent x0_at x0_token x0_from x0_figures x0_fault x0_numbers x0_statements x0_left x0_far x0_tons x0_way x0_steps x0_met x0_queue x0_totals]) (st' := fun _ => [.int v4]) (st := []) hK dX7_mayBeFirst_19 cv_RX7_112 ws_yX7_isPlace (As := [.int p2]) (kX7_isPlace _ d p2 e5) rfl rfl (Nat.le_of_ble_eq_true rfl) (by decide) [] [0] rfl rfl rfl rfl [0] rfl (fun _ => rfl) (fun _ => rfl) rfl rfl rfl (fun _ => rfl) (fun _ => ?_)
      obtain ⟨v6, ev6, hf⟩ := bs hf
      obtain rfl := Option.some.inj hf
      exact J_zret hK hR dX7_mayBeFirst_22 () (zb_ok ev6).2 (by rw [(zb_ok ev6).1]) (by decide) (by decide)
    · have hf := ip hc7 hf
      refine J_aload_n hK dX7_mayBeFirst_10 rfl 0 rfl rfl ?_
      refine J_iload_n hK dX7_mayBeFirst_11 rfl 2 rfl rfl ?_
      obtain ⟨v7, e8, hf⟩ := bs hf
      refine J_callV (m' := 1) (ce' := 0) (sl' := 0) (gr := []) (gs' := fun _ => [gMd d h0 a0_kept a0_tried a0_chosen r0_rows r0_line r0_good r0_work x0_shelf x0_rowSort x0_rowSize x0_moved x0_shown x0_tape x0_tapeSize x0_refused x0_lines x0_changes x0_coins x0_goods x0_works x0_years x0_gone x0_spent x0_at x0_token x0_from x0_figures x0_fault x0_numbers x0_statements x0_left x0_far x0_tons x0_way x0_steps x0_met x0_queue x0_totals]) (st' := fun _ => [.int v7]) (st := []) hK dX7_mayBeFirst_12 cv_RX7_128 iv_yX7_isLine (As := [.int p2]) (kX7_isLine _ d h0 r0_rows r0_line r0_good r0_work a0_kept a0_tried a0_chosen x0_shelf x0_rowSort x0_rowSize x0_rows x0_moved x0_shown x0_tape x0_tapeSize x0_refused x0_lines x0_line x0_changes x0_coins x0_goods x0_good x0_works x0_work x0_years x0_gone x0_spent x0_at x0_token x0_from x0_figures x0_fault x0_numbers x0_statements x0_left x0_far x0_tons x0_way x0_steps x0_met x0_queue x0_totals p2 e8) rfl rfl (Nat.le_of_ble_eq_true rfl) (by decide) 0 0 rfl rfl rfl [0] [] rfl rfl rfl rfl [0] rfl (fun _ => rfl) (fun _ => rfl) rfl rfl rfl (fun _ => rfl) (fun _ => ?_)
      refine J_goto hK dX7_mayBeFirst_15 (n := 22) rfl ?_
      obtain ⟨v9, ev9, hf⟩ := bs hf
      obtain rfl := Option.some.inj hf
      exact J_zret hK hR dX7_mayBeFirst_22 () (zb_ok ev9).2 (by rw [(zb_ok ev9).1]) (by decide) (by decide)

def fX7_mayBeSecond_j10 (p3 : Int32) : Option (Int32) :=
  (fX7_in ((p3).toInt64) (0 : Int64) (2 : Int64)).bind (fun v1 => (zb v1).bind fun v3 => some v3)
def fX7_mayBeSecond (p1 : Int32) (p2 : Int32) (p3 : Int32) : Option (Int32) :=
  if p1 = 1 then (fX7_mayBeSecond_j10 p3) else (if p1 = 2 then (fX7_mayBeSecond_j10 p3) else (if p1 = 3 then ((fX7_in ((p3).toInt64) (0 : Int64) (99 : Int64)).bind (fun v6 => (zb v6).bind fun v8 => some v8)) else ((fX7_isPlace p3).bind (fun v4 => if v4 = 0 then (some (0)) else (if p3 = p2 then (some (0)) else (some (1)))))))
set_option maxHeartbeats 4000000 in
set_option maxRecDepth 100000 in
theorem kX7_mayBeSecond (l : Launch) (d : DT) (o0 : Nat) (p1 : Int32) (p2 : Int32) (p3 : Int32)  {out : Int32} (hf : fX7_mayBeSecond p1 p2 p3 = some out) : Ct l d yX7_mayBeSecond cX7_mayBeSecond 4 (some .boolean) { frames := 2, cells := 0, slots := 0, locals := 45 } [.ref o0, .int p1, .int p2, .int p3] [] (fun _ : Unit => (some (.int out), [])) := by
  refine Ct.of (by decide) (Nat.le_of_ble_eq_true rfl) ?_
  intro Φ hl hK hR
  subst hl
  have hK : Ok d Φ RX7 "mayBeSecond" cX7_mayBeSecond 4 (some .boolean) { frames := 2, cells := 0, slots := 0, locals := 45 } := hK
  unfold fX7_mayBeSecond at hf
  show J d Φ 4 [] 0 0 0 [(0, .ref o0), (1, .int p1), (2, .int p2), (3, .int p3)] []
  refine J_iload_n hK dX7_mayBeSecond_0 rfl 1 rfl rfl ?_
  refine J_iconst (v := 1) hK dX7_mayBeSecond_1 rfl (by decide) ?_
  have j10 : fX7_mayBeSecond_j10 p3 = some out → J d Φ 4 [] 0 0 10 [(3, .int p3)] [] := by
    intro  hf
    unfold fX7_mayBeSecond_j10 at hf
    refine J_iload_n hK dX7_mayBeSecond_10 rfl 0 rfl rfl ?_
    refine J_i2l hK dX7_mayBeSecond_11 rfl ?_
    refine J_lconst (v := 0) hK dX7_mayBeSecond_12 rfl (by decide) ?_
    refine J_ldc2 (v := (2 : Int64)) hK dX7_mayBeSecond_13 rfl wk_RX7_131 ?_
    obtain ⟨v1, e2, hf⟩ := bs hf
    refine J_callS (m' := 0) (ce' := 0) (sl' := 0) (gr := []) (gs' := fun _ => []) (st' := fun _ => [.int v1]) (st := []) hK dX7_mayBeSecond_16 cv_RX7_78 ws_yX7_in (As := [.long ((p3).toInt64), .long (0 : Int64), .long (2 : Int64)]) (kX7_in _ d ((p3).toInt64) (0 : Int64) (2 : Int64) e2) rfl rfl (Nat.le_of_ble_eq_true rfl) (by decide) [] [] rfl rfl rfl rfl [] rfl (fun _ => rfl) (fun _ => rfl) rfl rfl rfl (fun _ => rfl) (fun _ => ?_)
    refine J_goto hK dX7_mayBeSecond_19 (n := 56) rfl ?_
    obtain ⟨v3, ev3, hf⟩ := bs hf
    obtain rfl := Option.some.inj hf
    exact J_zret hK hR dX7_mayBeSecond_56 () (zb_ok ev3).2 (by rw [(zb_ok ev3).1]) (by decide) (by decide)
  refine J_icmp_eq (tg := 10) hK dX7_mayBeSecond_2 rfl rfl (fun hc2 => ?_) (fun hc2 => ?_)
  · have hf := ip hc2 hf
    exact J_loc [3] rfl (j10  hf)
  · have hf := iq hc2 hf
    refine J_iload_n hK dX7_mayBeSecond_5 rfl 1 rfl rfl ?_
    refine J_iconst (v := 2) hK dX7_mayBeSecond_6 rfl (by decide) ?_
    refine J_icmp_ne (tg := 22) hK dX7_mayBeSecond_7 rfl rfl (fun hc7 => ?_) (fun hc7 => ?_)
    · have hf := iq hc7 hf
      refine J_iload_n hK dX7_mayBeSecond_22 rfl 1 rfl rfl ?_
      refine J_iconst (v := 3) hK dX7_mayBeSecond_23 rfl (by decide) ?_
      refine J_icmp_ne (tg := 39) hK dX7_mayBeSecond_24 rfl rfl (fun hc24 => ?_) (fun hc24 => ?_)
      · have hf := iq hc24 hf
        refine J_iload_n hK dX7_mayBeSecond_39 rfl 3 rfl rfl ?_
        obtain ⟨v4, e5, hf⟩ := bs hf
        refine J_callS (m' := 0) (ce' := 0) (sl' := 0) (gr := []) (gs' := fun _ => []) (st' := fun _ => [.int v4]) (st := []) hK dX7_mayBeSecond_40 cv_RX7_112 ws_yX7_isPlace (As := [.int p3]) (kX7_isPlace _ d p3 e5) rfl rfl (Nat.le_of_ble_eq_true rfl) (by decide) [] [] rfl rfl rfl rfl [] rfl (fun _ => rfl) (fun _ => rfl) rfl rfl rfl (fun _ => rfl) (fun _ => ?_)
        refine J_if_eq (tg := 55) hK dX7_mayBeSecond_43 rfl rfl (fun hc43 => ?_) (fun hc43 => ?_)
        · have hf := ip hc43 hf
          refine J_iconst (v := 0) hK dX7_mayBeSecond_55 rfl (by decide) ?_
          obtain rfl := Option.some.inj hf
          exact J_zret hK hR dX7_mayBeSecond_56 () rfl rfl (by decide) (by decide)
        · have hf := iq hc43 hf
          refine J_iload_n hK dX7_mayBeSecond_46 rfl 3 rfl rfl ?_
          refine J_iload_n hK dX7_mayBeSecond_47 rfl 2 rfl rfl ?_
          refine J_icmp_eq (tg := 55) hK dX7_mayBeSecond_48 rfl rfl (fun hc48 => ?_) (fun hc48 => ?_)
          · have hf := ip hc48 hf
            refine J_iconst (v := 0) hK dX7_mayBeSecond_55 rfl (by decide) ?_
            obtain rfl := Option.some.inj hf
            exact J_zret hK hR dX7_mayBeSecond_56 () rfl rfl (by decide) (by decide)
          · have hf := iq hc48 hf
            refine J_iconst (v := 1) hK dX7_mayBeSecond_51 rfl (by decide) ?_
            refine J_goto hK dX7_mayBeSecond_52 (n := 56) rfl ?_
            obtain rfl := Option.some.inj hf
            exact J_zret hK hR dX7_mayBeSecond_56 () rfl rfl (by decide) (by decide)
      · have hf := ip hc24 hf
        refine J_iload_n hK dX7_mayBeSecond_27 rfl 3 rfl rfl ?_
        refine J_i2l hK dX7_mayBeSecond_28 rfl ?_
        refine J_lconst (v := 0) hK dX7_mayBeSecond_29 rfl (by decide) ?_
        refine J_ldc2 (v := (99 : Int64)) hK dX7_mayBeSecond_30 rfl wk_RX7_123 ?_
        obtain ⟨v6, e7, hf⟩ := bs hf
        refine J_callS (m' := 0) (ce' := 0) (sl' := 0) (gr := []) (gs' := fun _ => []) (st' := fun _ => [.int v6]) (st := []) hK dX7_mayBeSecond_33 cv_RX7_78 ws_yX7_in (As := [.long ((p3).toInt64), .long (0 : Int64), .long (99 : Int64)]) (kX7_in _ d ((p3).toInt64) (0 : Int64) (99 : Int64) e7) rfl rfl (Nat.le_of_ble_eq_true rfl) (by decide) [] [] rfl rfl rfl rfl [] rfl (fun _ => rfl) (fun _ => rfl) rfl rfl rfl (fun _ => rfl) (fun _ => ?_)
        refine J_goto hK dX7_mayBeSecond_36 (n := 56) rfl ?_
        obtain ⟨v8, ev8, hf⟩ := bs hf
        obtain rfl := Option.some.inj hf
        exact J_zret hK hR dX7_mayBeSecond_56 () (zb_ok ev8).2 (by rw [(zb_ok ev8).1]) (by decide) (by decide)
    · have hf := ip hc7 hf
      exact J_loc [3] rfl (j10  hf)

def fX7_work (X0 : MdT) (p1 : Int32) (p2 : Int32) (p3 : Int32) (p4 : Int32) : Option (Int32 × (Nat → Int32) × Int32 × (Nat → Nat → Int32)) :=
  u35 (fun (x0_shelf : (Nat → Int32)) (x0_rowSort : (Nat → Int32)) (x0_rowSize : (Nat → Int32)) (x0_rows : (Nat → Nat → Int64)) (x0_moved : (Nat → Int64)) (x0_shown : (Nat → Int32)) (x0_tape : (Nat → Int32)) (x0_tapeSize : Int32) (x0_refused : (Nat → Int32)) (x0_lines : Int32) (x0_line : (Nat → Nat → Int32)) (x0_changes : (Nat → Int32)) (x0_coins : (Nat → Int32)) (x0_goods : Int32) (x0_good : (Nat → Nat → Int32)) (x0_works : Int32) (x0_work : (Nat → Nat → Int32)) (x0_years : Int32) (x0_gone : Int32) (x0_spent : Int32) (x0_at : Int32) (x0_token : Int32) (x0_from : Int32) (x0_figures : Int64) (x0_fault : Int32) (x0_numbers : (Nat → Int32)) (x0_statements : Int32) (x0_left : (Nat → Int32)) (x0_far : (Nat → Int32)) (x0_tons : Int32) (x0_way : (Nat → Int32)) (x0_steps : Int32) (x0_met : Int64) (x0_queue : (Nat → Int32)) (x0_totals : (Nat → Int32)) => (fX7_in ((p1).toInt64) (1 : Int64) (5 : Int64)).bind (fun v1 => if v1 = 0 then ((fX7_refuse (x0_shelf, x0_rowSort, x0_rowSize, x0_rows, x0_moved, x0_shown, x0_tape, x0_tapeSize, x0_refused, x0_lines, x0_line, x0_changes, x0_coins, x0_goods, x0_good, x0_works, x0_work, x0_years, x0_gone, x0_spent, x0_at, x0_token, x0_from, x0_figures, x0_fault, x0_numbers, x0_statements, x0_left, x0_far, x0_tons, x0_way, x0_steps, x0_met, x0_queue, x0_totals) (-2)).bind (u2 fun v3 g4 => some (v3, g4, x0_works, x0_work))) else ((fX7_mayBeFirst (x0_shelf, x0_rowSort, x0_rowSize, x0_rows, x0_moved, x0_shown, x0_tape, x0_tapeSize, x0_refused, x0_lines, x0_line, x0_changes, x0_coins, x0_goods, x0_good, x0_works, x0_work, x0_years, x0_gone, x0_spent, x0_at, x0_token, x0_from, x0_figures, x0_fault, x0_numbers, x0_statements, x0_left, x0_far, x0_tons, x0_way, x0_steps, x0_met, x0_queue, x0_totals) p1 p2).bind (fun v6 => if v6 = 0 then ((fX7_refuse (x0_shelf, x0_rowSort, x0_rowSize, x0_rows, x0_moved, x0_shown, x0_tape, x0_tapeSize, x0_refused, x0_lines, x0_line, x0_changes, x0_coins, x0_goods, x0_good, x0_works, x0_work, x0_years, x0_gone, x0_spent, x0_at, x0_token, x0_from, x0_figures, x0_fault, x0_numbers, x0_statements, x0_left, x0_far, x0_tons, x0_way, x0_steps, x0_met, x0_queue, x0_totals) (-2)).bind (u2 fun v8 g9 => some (v8, g9, x0_works, x0_work))) else ((fX7_mayBeSecond p1 p2 p3).bind (fun v11 => if v11 = 0 then ((fX7_refuse (x0_shelf, x0_rowSort, x0_rowSize, x0_rows, x0_moved, x0_shown, x0_tape, x0_tapeSize, x0_refused, x0_lines, x0_line, x0_changes, x0_coins, x0_goods, x0_good, x0_works, x0_work, x0_years, x0_gone, x0_spent, x0_at, x0_token, x0_from, x0_figures, x0_fault, x0_numbers, x0_statements, x0_left, x0_far, x0_tons, x0_way, x0_steps, x0_met, x0_queue, x0_totals) (-2)).bind (u2 fun v13 g14 => some (v13, g14, x0_works, x0_work))) else ((fX7_in ((p4).toInt64) (0 : Int64) (9999 : Int64)).bind (fun v16 => if v16 = 0 then ((fX7_refuse (x0_shelf, x0_rowSort, x0_rowSize, x0_rows, x0_moved, x0_shown, x0_tape, x0_tapeSize, x0_refused, x0_lines, x0_line, x0_changes, x0_coins, x0_goods, x0_good, x0_works, x0_work, x0_years, x0_gone, x0_spent, x0_at, x0_token, x0_from, x0_figures, x0_fault, x0_numbers, x0_statements, x0_left, x0_far, x0_tons, x0_way, x0_steps, x0_met, x0_queue, x0_totals) (-2)).bind (u2 fun v27 g28 => some (v27, g28, x0_works, x0_work))) else (if x0_works = 7 then ((fX7_refuse (x0_shelf, x0_rowSort, x0_rowSize, x0_rows, x0_moved, x0_shown, x0_tape, x0_tapeSize, x0_refused, x0_lines, x0_line, x0_changes, x0_coins, x0_goods, x0_good, x0_works, x0_work, x0_years, x0_gone, x0_spent, x0_at, x0_token, x0_from, x0_figures, x0_fault, x0_numbers, x0_statements, x0_left, x0_far, x0_tons, x0_way, x0_steps, x0_met, x0_queue, x0_totals) (-6)).bind (u2 fun v24 g25 => some (v24, g25, x0_works, x0_work))) else ((ck x0_works 7).bind fun q18 => (wr 5 (x0_work q18) (0) p1).bind fun f19 => (wr 5 ((va_up x0_work q18 f19) q18) (1) p2).bind fun f20 => (wr 5 ((va_up (va_up x0_work q18 f19) q18 f20) q18) (2) p3).bind fun f21 => (wr 5 ((va_up (va_up (va_up x0_work q18 f19) q18 f20) q18 f21) q18) (3) p4).bind fun f22 => (wr 5 ((va_up (va_up (va_up (va_up x0_work q18 f19) q18 f20) q18 f21) q18 f22) q18) (4) (0)).bind fun f23 => some (x0_works, x0_refused, (x0_works + 1), (va_up (va_up (va_up (va_up (va_up x0_work q18 f19) q18 f20) q18 f21) q18 f22) q18 f23)))))))))))) X0
set_option maxHeartbeats 4000000 in
set_option maxRecDepth 100000 in
theorem kX7_work (l : Launch) (d : DT) (h0 : Nat → Nat) (r0_rows : Nat → Nat) (r0_line : Nat → Nat) (r0_good : Nat → Nat) (r0_work : Nat → Nat) (a0_kept : Option Nat) (a0_tried : Option Nat) (a0_chosen : Option Nat) (x0_shelf : (Nat → Int32)) (x0_rowSort : (Nat → Int32)) (x0_rowSize : (Nat → Int32)) (x0_rows : (Nat → Nat → Int64)) (x0_moved : (Nat → Int64)) (x0_shown : (Nat → Int32)) (x0_tape : (Nat → Int32)) (x0_tapeSize : Int32) (x0_refused : (Nat → Int32)) (x0_lines : Int32) (x0_line : (Nat → Nat → Int32)) (x0_changes : (Nat → Int32)) (x0_coins : (Nat → Int32)) (x0_goods : Int32) (x0_good : (Nat → Nat → Int32)) (x0_works : Int32) (x0_work : (Nat → Nat → Int32)) (x0_years : Int32) (x0_gone : Int32) (x0_spent : Int32) (x0_at : Int32) (x0_token : Int32) (x0_from : Int32) (x0_figures : Int64) (x0_fault : Int32) (x0_numbers : (Nat → Int32)) (x0_statements : Int32) (x0_left : (Nat → Int32)) (x0_far : (Nat → Int32)) (x0_tons : Int32) (x0_way : (Nat → Int32)) (x0_steps : Int32) (x0_met : Int64) (x0_queue : (Nat → Int32)) (x0_totals : (Nat → Int32)) (p1 : Int32) (p2 : Int32) (p3 : Int32) (p4 : Int32)  {out : Int32 × (Nat → Int32) × Int32 × (Nat → Nat → Int32)} (hf : fX7_work (x0_shelf, x0_rowSort, x0_rowSize, x0_rows, x0_moved, x0_shown, x0_tape, x0_tapeSize, x0_refused, x0_lines, x0_line, x0_changes, x0_coins, x0_goods, x0_good, x0_works, x0_work, x0_years, x0_gone, x0_spent, x0_at, x0_token, x0_from, x0_figures, x0_fault, x0_numbers, x0_statements, x0_left, x0_far, x0_tons, x0_way, x0_steps, x0_met, x0_queue, x0_totals) p1 p2 p3 p4 = some out) : Ct l d yX7_work cX7_work 6 (some .int) { frames := 3, cells := 0, slots := 0, locals := 68 } [.ref (h0 0), .int p1, .int p2, .int p3, .int p4] [gMd d h0 a0_kept a0_tried a0_chosen r0_rows r0_line r0_good r0_work x0_shelf x0_rowSort x0_rowSize x0_moved x0_shown x0_tape x0_tapeSize x0_refused x0_lines x0_changes x0_coins x0_goods x0_works x0_years x0_gone x0_spent x0_at x0_token x0_from x0_figures x0_fault x0_numbers x0_statements x0_left x0_far x0_tons x0_way x0_steps x0_met x0_queue x0_totals, gridI d r0_work 7 5 x0_work] (fun _ : Unit => (some (.int out.1), [gMd d h0 a0_kept a0_tried a0_chosen r0_rows r0_line r0_good r0_work x0_shelf x0_rowSort x0_rowSize x0_moved x0_shown x0_tape x0_tapeSize (out.2.1) x0_lines x0_changes x0_coins x0_goods (out.2.2.1) x0_years x0_gone x0_spent x0_at x0_token x0_from x0_figures x0_fault x0_numbers x0_statements x0_left x0_far x0_tons x0_way x0_steps x0_met x0_queue x0_totals, gridI d r0_work 7 5 (out.2.2.2)])) := by
  refine Ct.of (by decide) (Nat.le_of_ble_eq_true rfl) ?_
  intro Φ hl hK hR
  subst hl
  have hK : Ok d Φ RX7 "work" cX7_work 6 (some .int) { frames := 3, cells := 0, slots := 0, locals := 68 } := hK
  unfold fX7_work at hf
  have hf := un35 hf
  show J d Φ 6 [gMd d h0 a0_kept a0_tried a0_chosen r0_rows r0_line r0_good r0_work x0_shelf x0_rowSort x0_rowSize x0_moved x0_shown x0_tape x0_tapeSize x0_refused x0_lines x0_changes x0_coins x0_goods x0_works x0_years x0_gone x0_spent x0_at x0_token x0_from x0_figures x0_fault x0_numbers x0_statements x0_left x0_far x0_tons x0_way x0_steps x0_met x0_queue x0_totals, gridI d r0_work 7 5 x0_work] 0 0 0 [(0, .ref (h0 0)), (1, .int p1), (2, .int p2), (3, .int p3), (4, .int p4)] []
  refine J_iload_n hK dX7_work_0 rfl 1 rfl rfl ?_
  refine J_i2l hK dX7_work_1 rfl ?_
  refine J_lconst (v := 1) hK dX7_work_2 rfl (by decide) ?_
  refine J_ldc2 (v := (5 : Int64)) hK dX7_work_3 rfl wk_RX7_106 ?_
  obtain ⟨v1, e2, hf⟩ := bs hf
  refine J_callS (m' := 2) (ce' := 0) (sl' := 0) (gr := [gMd d h0 a0_kept a0_tried a0_chosen r0_rows r0_line r0_good r0_work x0_shelf x0_rowSort x0_rowSize x0_moved x0_shown x0_tape x0_tapeSize x0_refused x0_lines x0_changes x0_coins x0_goods x0_works x0_years x0_gone x0_spent x0_at x0_token x0_from x0_figures x0_fault x0_numbers x0_statements x0_left x0_far x0_tons x0_way x0_steps x0_met x0_queue x0_totals, gridI d r0_work 7 5 x0_work]) (gs' := fun _ => [gMd d h0 a0_kept a0_tried a0_chosen r0_rows r0_line r0_good r0_work x0_shelf x0_rowSort x0_rowSize x0_moved x0_shown x0_tape x0_tapeSize x0_refused x0_lines x0_changes x0_coins x0_goods x0_works x0_years x0_gone x0_spent x0_at x0_token x0_from x0_figures x0_fault x0_numbers x0_statements x0_left x0_far x0_tons x0_way x0_steps x0_met x0_queue x0_totals, gridI d r0_work 7 5 x0_work]) (st' := fun _ => [.int v1]) (st := []) hK dX7_work_6 cv_RX7_78 ws_yX7_in (As := [.long ((p1).toInt64), .long (1 : Int64), .long (5 : Int64)]) (kX7_in _ d ((p1).toInt64) (1 : Int64) (5 : Int64) e2) rfl rfl (Nat.le_of_ble_eq_true rfl) (by decide) [] [0, 1] rfl rfl rfl rfl [0, 1] rfl (fun _ => rfl) (fun _ => rfl) rfl rfl rfl (fun _ => rfl) (fun _ => ?_)
  refine J_if_eq (tg := 44) hK dX7_work_9 rfl rfl (fun hc9 => ?_) (fun hc9 => ?_)
  · have hf := ip hc9 hf
    refine J_aload_n hK dX7_work_44 rfl 0 rfl rfl ?_
    refine J_bipush (v := (-2)) hK dX7_work_45 rfl (by decide) ?_
    obtain ⟨⟨v3, g4⟩, e5, hf⟩ := bs hf
    have hf := un2 hf
    refine J_callV (m' := 2) (ce' := 0) (sl' := 0) (gr := [gridI d r0_work 7 5 x0_work]) (gs' := fun _ => [gMd d h0 a0_kept a0_tried a0_chosen r0_rows r0_line r0_good r0_work x0_shelf x0_rowSort x0_rowSize x0_moved x0_shown x0_tape x0_tapeSize g4 x0_lines x0_changes x0_coins x0_goods x0_works x0_years x0_gone x0_spent x0_at x0_token x0_from x0_figures x0_fault x0_numbers x0_statements x0_left x0_far x0_tons x0_way x0_steps x0_met x0_queue x0_totals, gridI d r0_work 7 5 x0_work]) (st' := fun _ => [.int v3]) (st := []) hK dX7_work_47 cv_RX7_94 iv_yX7_refuse (As := [.int (-2)]) (kX7_refuse _ d h0 r0_rows r0_line r0_good r0_work a0_kept a0_tried a0_chosen x0_shelf x0_rowSort x0_rowSize x0_rows x0_moved x0_shown x0_tape x0_tapeSize x0_refused x0_lines x0_line x0_changes x0_coins x0_goods x0_good x0_works x0_work x0_years x0_gone x0_spent x0_at x0_token x0_from x0_figures x0_fault x0_numbers x0_statements x0_left x0_far x0_tons x0_way x0_steps x0_met x0_queue x0_totals (-2) e5) rfl rfl (Nat.le_of_ble_eq_true rfl) (by decide) 0 0 rfl rfl rfl [0] [1] rfl rfl rfl rfl [1, 0] rfl (fun _ => rfl) (fun _ => rfl) rfl rfl rfl (fun _ => rfl) (fun _ => ?_)
    obtain rfl := Option.some.inj hf
    exact J_iret hK hR dX7_work_50 () rfl (by decide) (by decide)
  · have hf := iq hc9 hf
    refine J_aload_n hK dX7_work_12 rfl 0 rfl rfl ?_
    refine J_iload_n hK dX7_work_13 rfl 1 rfl rfl ?_
    refine J_iload_n hK dX7_work_14 rfl 2 rfl rfl ?_
    obtain ⟨v6, e7, hf⟩ := bs hf
    refine J_callV (m' := 2) (ce' := 0) (sl' := 0) (gr := [gridI d r0_work 7 5 x0_work]) (gs' := fun _ => [gMd d h0 a0_kept a0_tried a0_chosen r0_rows r0_line r0_good r0_work x0_shelf x0_rowSort x0_rowSize x0_moved x0_shown x0_tape x0_tapeSize x0_refused x0_lines x0_changes x0_coins x0_goods x0_works x0_years x0_gone x0_spent x0_at x0_token x0_from x0_figures x0_fault x0_numbers x0_statements x0_left x0_far x0_tons x0_way x0_steps x0_met x0_queue x0_totals, gridI d r0_work 7 5 x0_work]) (st' := fun _ => [.int v6]) (st := []) hK dX7_work_15 cv_RX7_133 iv_yX7_mayBeFirst (As := [.int p1, .int p2]) (kX7_mayBeFirst _ d h0 r0_rows r0_line r0_good r0_work a0_kept a0_tried a0_chosen x0_shelf x0_rowSort x0_rowSize x0_rows x0_moved x0_shown x0_tape x0_tapeSize x0_refused x0_lines x0_line x0_changes x0_coins x0_goods x0_good x0_works x0_work x0_years x0_gone x0_spent x0_at x0_token x0_from x0_figures x0_fault x0_numbers x0_statements x0_left x0_far x0_tons x0_way x0_steps x0_met x0_queue x0_totals p1 p2 e7) rfl rfl (Nat.le_of_ble_eq_true rfl) (by decide) 0 0 rfl rfl rfl [0] [1] rfl rfl rfl rfl [1, 0] rfl (fun _ => rfl) (fun _ => rfl) rfl rfl rfl (fun _ => rfl) (fun _ => ?_)
    refine J_if_eq (tg := 44) hK dX7_work_18 rfl rfl (fun hc18 => ?_) (fun hc18 => ?_)
    · have hf := ip hc18 hf
      refine J_aload_n hK dX7_work_44 rfl 0 rfl rfl ?_
      refine J_bipush (v := (-2)) hK dX7_work_45 rfl (by decide) ?_
      obtain ⟨⟨v8, g9⟩, e10, hf⟩ := bs hf
      have hf := un2 hf
      refine J_callV (m' := 2) (ce' := 0) (sl' := 0) (gr := [gridI d r0_work 7 5 x0_work]) (gs' := fun _ => [gMd d h0 a0_kept a0_tried a0_chosen r0_rows r0_line r0_good r0_work x0_shelf x0_rowSort x0_rowSize x0_moved x0_shown x0_tape x0_tapeSize g9 x0_lines x0_changes x0_coins x0_goods x0_works x0_years x0_gone x0_spent x0_at x0_token x0_from x0_figures x0_fault x0_numbers x0_statements x0_left x0_far x0_tons x0_way x0_steps x0_met x0_queue x0_totals, gridI d r0_work 7 5 x0_work]) (st' := fun _ => [.int v8]) (st := []) hK dX7_work_47 cv_RX7_94 iv_yX7_refuse (As := [.int (-2)]) (kX7_refuse _ d h0 r0_rows r0_line r0_good r0_work a0_kept a0_tried a0_chosen x0_shelf x0_rowSort x0_rowSize x0_rows x0_moved x0_shown x0_tape x0_tapeSize x0_refused x0_lines x0_line x0_changes x0_coins x0_goods x0_good x0_works x0_work x0_years x0_gone x0_spent x0_at x0_token x0_from x0_figures x0_fault x0_numbers x0_statements x0_left x0_far x0_tons x0_way x0_steps x0_met x0_queue x0_totals (-2) e10) rfl rfl (Nat.le_of_ble_eq_true rfl) (by decide) 0 0 rfl rfl rfl [0] [1] rfl rfl rfl rfl [1, 0] rfl (fun _ => rfl) (fun _ => rfl) rfl rfl rfl (fun _ => rfl) (fun _ => ?_)
      obtain rfl := Option.some.inj hf
      exact J_iret hK hR dX7_work_50 () rfl (by decide) (by decide)
    · have hf := iq hc18 hf
      refine J_aload_n hK dX7_work_21 rfl 0 rfl rfl ?_
      refine J_iload_n hK dX7_work_22 rfl 1 rfl rfl ?_
      refine J_iload_n hK dX7_work_23 rfl 2 rfl rfl ?_
      refine J_iload_n hK dX7_work_24 rfl 3 rfl rfl ?_
      obtain ⟨v11, e12, hf⟩ := bs hf
      refine J_callV (m' := 2) (ce' := 0) (sl' := 0) (gr := [gMd d h0 a0_kept a0_tried a0_chosen r0_rows r0_line r0_good r0_work x0_shelf x0_rowSort x0_rowSize x0_moved x0_shown x0_tape x0_tapeSize x0_refused x0_lines x0_changes x0_coins x0_goods x0_works x0_years x0_gone x0_spent x0_at x0_token x0_from x0_figures x0_fault x0_numbers x0_statements x0_left x0_far x0_tons x0_way x0_steps x0_met x0_queue x0_totals, gridI d r0_work 7 5 x0_work]) (gs' := fun _ => [gMd d h0 a0_kept a0_tried a0_chosen r0_rows r0_line r0_good r0_work x0_shelf x0_rowSort x0_rowSize x0_moved x0_shown x0_tape x0_tapeSize x0_refused x0_lines x0_changes x0_coins x0_goods x0_works x0_years x0_gone x0_spent x0_at x0_token x0_from x0_figures x0_fault x0_numbers x0_statements x0_left x0_far x0_tons x0_way x0_steps x0_met x0_queue x0_totals, gridI d r0_work 7 5 x0_work]) (st' := fun _ => [.int v11]) (st := []) hK dX7_work_25 cv_RX7_136 iv_yX7_mayBeSecond (As := [.int p1, .int p2, .int p3]) (kX7_mayBeSecond _ d (h0 0) p1 p2 p3 e12) rfl rfl (Nat.le_of_ble_eq_true rfl) (by decide) 0 0 rfl rfl rfl [] [0, 1] rfl rfl rfl rfl [0, 1] rfl (fun _ => rfl) (fun _ => rfl) rfl rfl rfl (fun _ => rfl) (fun _ => ?_)
      refine J_if_eq (tg := 44) hK dX7_work_28 rfl rfl (fun hc28 => ?_) (fun hc28 => ?_)
      · have hf := ip hc28 hf
        refine J_aload_n hK dX7_work_44 rfl 0 rfl rfl ?_
        refine J_bipush (v := (-2)) hK dX7_work_45 rfl (by decide) ?_
        obtain ⟨⟨v13, g14⟩, e15, hf⟩ := bs hf
        have hf := un2 hf
        refine J_callV (m' := 2) (ce' := 0) (sl' := 0) (gr := [gridI d r0_work 7 5 x0_work]) (gs' := fun _ => [gMd d h0 a0_kept a0_tried a0_chosen r0_rows r0_line r0_good r0_work x0_shelf x0_rowSort x0_rowSize x0_moved x0_shown x0_tape x0_tapeSize g14 x0_lines x0_changes x0_coins x0_goods x0_works x0_years x0_gone x0_spent x0_at x0_token x0_from x0_figures x0_fault x0_numbers x0_statements x0_left x0_far x0_tons x0_way x0_steps x0_met x0_queue x0_totals, gridI d r0_work 7 5 x0_work]) (st' := fun _ => [.int v13]) (st := []) hK dX7_work_47 cv_RX7_94 iv_yX7_refuse (As := [.int (-2)]) (kX7_refuse _ d h0 r0_rows r0_line r0_good r0_work a0_kept a0_tried a0_chosen x0_shelf x0_rowSort x0_rowSize x0_rows x0_moved x0_shown x0_tape x0_tapeSize x0_refused x0_lines x0_line x0_changes x0_coins x0_goods x0_good x0_works x0_work x0_years x0_gone x0_spent x0_at x0_token x0_from x0_figures x0_fault x0_numbers x0_statements x0_left x0_far x0_tons x0_way x0_steps x0_met x0_queue x0_totals (-2) e15) rfl rfl (Nat.le_of_ble_eq_true rfl) (by decide) 0 0 rfl rfl rfl [0] [1] rfl rfl rfl rfl [1, 0] rfl (fun _ => rfl) (fun _ => rfl) rfl rfl rfl (fun _ => rfl) (fun _ => ?_)
        obtain rfl := Option.some.inj hf
        exact J_iret hK hR dX7_work_50 () rfl (by decide) (by decide)
      · have hf := iq hc28 hf
        refine J_iload hK dX7_work_31 rfl 4 rfl ?_
        refine J_i2l hK dX7_work_33 rfl ?_
        refine J_lconst (v := 0) hK dX7_work_34 rfl (by decide) ?_
        refine J_ldc2 (v := (9999 : Int64)) hK dX7_work_35 rfl wk_RX7_140 ?_
        obtain ⟨v16, e17, hf⟩ := bs hf
        refine J_callS (m' := 2) (ce' := 0) (sl' := 0) (gr := [gMd d h0 a0_kept a0_tried a0_chosen r0_rows r0_line r0_good r0_work x0_shelf x0_rowSort x0_rowSize x0_moved x0_shown x0_tape x0_tapeSize x0_refused x0_lines x0_changes x0_coins x0_goods x0_works x0_years x0_gone x0_spent x0_at x0_token x0_from x0_figures x0_fault x0_numbers x0_statements x0_left x0_far x0_tons x0_way x0_steps x0_met x0_queue x0_totals, gridI d r0_work 7 5 x0_work]) (gs' := fun _ => [gMd d h0 a0_kept a0_tried a0_chosen r0_rows r0_line r0_good r0_work x0_shelf x0_rowSort x0_rowSize x0_moved x0_shown x0_tape x0_tapeSize x0_refused x0_lines x0_changes x0_coins x0_goods x0_works x0_years x0_gone x0_spent x0_at x0_token x0_from x0_figures x0_fault x0_numbers x0_statements x0_left x0_far x0_tons x0_way x0_steps x0_met x0_queue x0_totals, gridI d r0_work 7 5 x0_work]) (st' := fun _ => [.int v16]) (st := []) hK dX7_work_38 cv_RX7_78 ws_yX7_in (As := [.long ((p4).toInt64), .long (0 : Int64), .long (9999 : Int64)]) (kX7_in _ d ((p4).toInt64) (0 : Int64) (9999 : Int64) e17) rfl rfl (Nat.le_of_ble_eq_true rfl) (by decide) [] [0, 1] rfl rfl rfl rfl [0, 1] rfl (fun _ => rfl) (fun _ => rfl) rfl rfl rfl (fun _ => rfl) (fun _ => ?_)
        refine J_if_ne (tg := 51) hK dX7_work_41 rfl rfl (fun hc41 => ?_) (fun hc41 => ?_)
        · have hf := iq hc41 hf
          refine J_aload_n hK dX7_work_51 rfl 0 rfl rfl ?_
          refine J_get hK fo_RX7_85 dX7_work_52 rfl 0 0 rfl rfl rfl ?_
          refine J_bipush (v := 7) hK dX7_work_55 rfl (by decide) ?_
          refine J_icmp_ne (tg := 67) hK dX7_work_57 rfl rfl (fun hc57 => ?_) (fun hc57 => ?_)
          · have hf := iq hc57 hf
            refine J_aload_n hK dX7_work_67 rfl 0 rfl rfl ?_
            refine J_get hK fo_RX7_51 dX7_work_68 rfl 0 0 rfl rfl rfl ?_
            refine J_aload_n hK dX7_work_71 rfl 0 rfl rfl ?_
            refine J_get hK fo_RX7_85 dX7_work_72 rfl 0 0 rfl rfl rfl ?_
            obtain ⟨q18, eq18, hf⟩ := bs hf
            refine J_aald hK dX7_work_75 rfl 0 13 rfl rfl rfl eq18 ?_
            refine J_astore (L' := [(5, .ref (r0_work q18)), (0, .ref (h0 0)), (1, .int p1), (2, .int p2), (3, .int p3), (4, .int p4)]) hK dX7_work_76 rfl (by decide) rfl ?_
            refine J_aload hK dX7_work_78 rfl 0 rfl ?_
            refine J_iconst (v := 0) hK dX7_work_80 rfl (by decide) ?_
            refine J_iload_n hK dX7_work_81 rfl 2 rfl rfl ?_
            obtain ⟨f19, ef19, hf⟩ := bs hf
            refine J_iast (g' := gridI d r0_work 7 5 (va_up x0_work q18 f19)) (gs' := [gMd d h0 a0_kept a0_tried a0_chosen r0_rows r0_line r0_good r0_work x0_shelf x0_rowSort x0_rowSize x0_moved x0_shown x0_tape x0_tapeSize x0_refused x0_lines x0_changes x0_coins x0_goods x0_works x0_years x0_gone x0_spent x0_at x0_token x0_from x0_figures x0_fault x0_numbers x0_statements x0_left x0_far x0_tons x0_way x0_steps x0_met x0_queue x0_totals, gridI d r0_work 7 5 (va_up x0_work q18 f19)]) hK dX7_work_82 rfl 1 q18 rfl (gridI_at (ck_ok eq18).2.2) ef19 gridI_set rfl ?_
            refine J_aload hK dX7_work_83 rfl 0 rfl ?_
            refine J_iconst (v := 1) hK dX7_work_85 rfl (by decide) ?_
            refine J_iload_n hK dX7_work_86 rfl 3 rfl rfl ?_
            obtain ⟨f20, ef20, hf⟩ := bs hf
            refine J_iast (g' := gridI d r0_work 7 5 (va_up (va_up x0_work q18 f19) q18 f20)) (gs' := [gMd d h0 a0_kept a0_tried a0_chosen r0_rows r0_line r0_good r0_work x0_shelf x0_rowSort x0_rowSize x0_moved x0_shown x0_tape x0_tapeSize x0_refused x0_lines x0_changes x0_coins x0_goods x0_works x0_years x0_gone x0_spent x0_at x0_token x0_from x0_figures x0_fault x0_numbers x0_statements x0_left x0_far x0_tons x0_way x0_steps x0_met x0_queue x0_totals, gridI d r0_work 7 5 (va_up (va_up x0_work q18 f19) q18 f20)]) hK dX7_work_87 rfl 1 q18 rfl (gridI_at (ck_ok eq18).2.2) ef20 gridI_set rfl ?_
            refine J_aload hK dX7_work_88 rfl 0 rfl ?_
            refine J_iconst (v := 2) hK dX7_work_90 rfl (by decide) ?_
            refine J_iload_n hK dX7_work_91 rfl 4 rfl rfl ?_
            obtain ⟨f21, ef21, hf⟩ := bs hf
            refine J_iast (g' := gridI d r0_work 7 5 (va_up (va_up (va_up x0_work q18 f19) q18 f20) q18 f21)) (gs' := [gMd d h0 a0_kept a0_tried a0_chosen r0_rows r0_line r0_good r0_work x0_shelf x0_rowSort x0_rowSize x0_moved x0_shown x0_tape x0_tapeSize x0_refused x0_lines x0_changes x0_coins x0_goods x0_works x0_years x0_gone x0_spent x0_at x0_token x0_from x0_figures x0_fault x0_numbers x0_statements x0_left x0_far x0_tons x0_way x0_steps x0_met x0_queue x0_totals, gridI d r0_work 7 5 (va_up (va_up (va_up x0_work q18 f19) q18 f20) q18 f21)]) hK dX7_work_92 rfl 1 q18 rfl (gridI_at (ck_ok eq18).2.2) ef21 gridI_set rfl ?_
            refine J_aload hK dX7_work_93 rfl 0 rfl ?_
            refine J_iconst (v := 3) hK dX7_work_95 rfl (by decide) ?_
            refine J_iload hK dX7_work_96 rfl 5 rfl ?_
            obtain ⟨f22, ef22, hf⟩ := bs hf
            refine J_iast (g' := gridI d r0_work 7 5 (va_up (va_up (va_up (va_up x0_work q18 f19) q18 f20) q18 f21) q18 f22)) (gs' := [gMd d h0 a0_kept a0_tried a0_chosen r0_rows r0_line r0_good r0_work x0_shelf x0_rowSort x0_rowSize x0_moved x0_shown x0_tape x0_tapeSize x0_refused x0_lines x0_changes x0_coins x0_goods x0_works x0_years x0_gone x0_spent x0_at x0_token x0_from x0_figures x0_fault x0_numbers x0_statements x0_left x0_far x0_tons x0_way x0_steps x0_met x0_queue x0_totals, gridI d r0_work 7 5 (va_up (va_up (va_up (va_up x0_work q18 f19) q18 f20) q18 f21) q18 f22)]) hK dX7_work_98 rfl 1 q18 rfl (gridI_at (ck_ok eq18).2.2) ef22 gridI_set rfl ?_
            refine J_aload hK dX7_work_99 rfl 0 rfl ?_
            refine J_iconst (v := 4) hK dX7_work_101 rfl (by decide) ?_
            refine J_iconst (v := 0) hK dX7_work_102 rfl (by decide) ?_
            obtain ⟨f23, ef23, hf⟩ := bs hf
            refine J_iast (g' := gridI d r0_work 7 5 (va_up (va_up (va_up (va_up (va_up x0_work q18 f19) q18 f20) q18 f21) q18 f22) q18 f23)) (gs' := [gMd d h0 a0_kept a0_tried a0_chosen r0_rows r0_line r0_good r0_work x0_shelf x0_rowSort x0_rowSize x0_moved x0_shown x0_tape x0_tapeSize x0_refused x0_lines x0_changes x0_coins x0_goods x0_works x0_years x0_gone x0_spent x0_at x0_token x0_from x0_figures x0_fault x0_numbers x0_statements x0_left x0_far x0_tons x0_way x0_steps x0_met x0_queue x0_totals, gridI d r0_work 7 5 (va_up (va_up (va_up (va_up (va_up x0_work q18 f19) q18 f20) q18 f21) q18 f22) q18 f23)]) hK dX7_work_103 rfl 1 q18 rfl (gridI_at (ck_ok eq18).2.2) ef23 gridI_set rfl ?_
            refine J_aload_n hK dX7_work_104 rfl 1 rfl rfl ?_
            refine J_dup hK dX7_work_105 rfl rfl ?_
            refine J_get hK fo_RX7_85 dX7_work_106 rfl 0 0 rfl rfl rfl ?_
            refine J_dup_x1 hK dX7_work_109 rfl rfl rfl ?_
            refine J_iconst (v := 1) hK dX7_work_110 rfl (by decide) ?_
            refine J_iadd hK dX7_work_111 rfl ?_
            refine J_put (g' := gMd d h0 a0_kept a0_tried a0_chosen r0_rows r0_line r0_good r0_work x0_shelf x0_rowSort x0_rowSize x0_moved x0_shown x0_tape x0_tapeSize x0_refused x0_lines x0_changes x0_coins x0_goods (x0_works + 1) x0_years x0_gone x0_spent x0_at x0_token x0_from x0_figures x0_fault x0_numbers x0_statements x0_left x0_far x0_tons x0_way x0_steps x0_met x0_queue x0_totals) (gs' := [gMd d h0 a0_kept a0_tried a0_chosen r0_rows r0_line r0_good r0_work x0_shelf x0_rowSort x0_rowSize x0_moved x0_shown x0_tape x0_tapeSize x0_refused x0_lines x0_changes x0_coins x0_goods (x0_works + 1) x0_years x0_gone x0_spent x0_at x0_token x0_from x0_figures x0_fault x0_numbers x0_statements x0_left x0_far x0_tons x0_way x0_steps x0_met x0_queue x0_totals, gridI d r0_work 7 5 (va_up (va_up (va_up (va_up (va_up x0_work q18 f19) q18 f20) q18 f21) q18 f22) q18 f23)]) hK fp_RX7_85 dX7_work_112 rfl 0 0 rfl rfl rfl rfl (Nat.le_of_ble_eq_true rfl) rfl rfl ?_
            obtain rfl := Option.some.inj hf
            exact J_iret hK hR dX7_work_115 () rfl (by decide) (by decide)
          · have hf := ip hc57 hf
            refine J_aload_n hK dX7_work_60 rfl 0 rfl rfl ?_
            refine J_bipush (v := (-6)) hK dX7_work_61 rfl (by decide) ?_
            obtain ⟨⟨v24, g25⟩, e26, hf⟩ := bs hf
            have hf := un2 hf
            refine J_callV (m' := 2) (ce' := 0) (sl' := 0) (gr := [gridI d r0_work 7 5 x0_work]) (gs' := fun _ => [gMd d h0 a0_kept a0_tried a0_chosen r0_rows r0_line r0_good r0_work x0_shelf x0_rowSort x0_rowSize x0_moved x0_shown x0_tape x0_tapeSize g25 x0_lines x0_changes x0_coins x0_goods x0_works x0_years x0_gone x0_spent x0_at x0_token x0_from x0_figures x0_fault x0_numbers x0_statements x0_left x0_far x0_tons x0_way x0_steps x0_met x0_queue x0_totals, gridI d r0_work 7 5 x0_work]) (st' := fun _ => [.int v24]) (st := []) hK dX7_work_63 cv_RX7_94 iv_yX7_refuse (As := [.int (-6)]) (kX7_refuse _ d h0 r0_rows r0_line r0_good r0_work a0_kept a0_tried a0_chosen x0_shelf x0_rowSort x0_rowSize x0_rows x0_moved x0_shown x0_tape x0_tapeSize x0_refused x0_lines x0_line x0_changes x0_coins x0_goods x0_good x0_works x0_work x0_years x0_gone x0_spent x0_at x0_token x0_from x0_figures x0_fault x0_numbers x0_statements x0_left x0_far x0_tons x0_way x0_steps x0_met x0_queue x0_totals (-6) e26) rfl rfl (Nat.le_of_ble_eq_true rfl) (by decide) 0 0 rfl rfl rfl [0] [1] rfl rfl rfl rfl [1, 0] rfl (fun _ => rfl) (fun _ => rfl) rfl rfl rfl (fun _ => rfl) (fun _ => ?_)
            obtain rfl := Option.some.inj hf
            exact J_iret hK hR dX7_work_66 () rfl (by decide) (by decide)
        · have hf := ip hc41 hf
          refine J_aload_n hK dX7_work_44 rfl 0 rfl rfl ?_
          refine J_bipush (v := (-2)) hK dX7_work_45 rfl (by decide) ?_
          obtain ⟨⟨v27, g28⟩, e29, hf⟩ := bs hf
          have hf := un2 hf
          refine J_callV (m' := 2) (ce' := 0) (sl' := 0) (gr := [gridI d r0_work 7 5 x0_work]) (gs' := fun _ => [gMd d h0 a0_kept a0_tried a0_chosen r0_rows r0_line r0_good r0_work x0_shelf x0_rowSort x0_rowSize x0_moved x0_shown x0_tape x0_tapeSize g28 x0_lines x0_changes x0_coins x0_goods x0_works x0_years x0_gone x0_spent x0_at x0_token x0_from x0_figures x0_fault x0_numbers x0_statements x0_left x0_far x0_tons x0_way x0_steps x0_met x0_queue x0_totals, gridI d r0_work 7 5 x0_work]) (st' := fun _ => [.int v27]) (st := []) hK dX7_work_47 cv_RX7_94 iv_yX7_refuse (As := [.int (-2)]) (kX7_refuse _ d h0 r0_rows r0_line r0_good r0_work a0_kept a0_tried a0_chosen x0_shelf x0_rowSort x0_rowSize x0_rows x0_moved x0_shown x0_tape x0_tapeSize x0_refused x0_lines x0_line x0_changes x0_coins x0_goods x0_good x0_works x0_work x0_years x0_gone x0_spent x0_at x0_token x0_from x0_figures x0_fault x0_numbers x0_statements x0_left x0_far x0_tons x0_way x0_steps x0_met x0_queue x0_totals (-2) e29) rfl rfl (Nat.le_of_ble_eq_true rfl) (by decide) 0 0 rfl rfl rfl [0] [1] rfl rfl rfl rfl [1, 0] rfl (fun _ => rfl) (fun _ => rfl) rfl rfl rfl (fun _ => rfl) (fun _ => ?_)
          obtain rfl := Option.some.inj hf
          exact J_iret hK hR dX7_work_50 () rfl (by decide) (by decide)

def fX7_change (X0 : MdT) (p1 : Int32) (p2 : Int32) : Option (Int32 × (Nat → Int32) × (Nat → Int32)) :=
  u35 (fun (x0_shelf : (Nat → Int32)) (x0_rowSort : (Nat → Int32)) (x0_rowSize : (Nat → Int32)) (x0_rows : (Nat → Nat → Int64)) (x0_moved : (Nat → Int64)) (x0_shown : (Nat → Int32)) (x0_tape : (Nat → Int32)) (x0_tapeSize : Int32) (x0_refused : (Nat → Int32)) (x0_lines : Int32) (x0_line : (Nat → Nat → Int32)) (x0_changes : (Nat → Int32)) (x0_coins : (Nat → Int32)) (x0_goods : Int32) (x0_good : (Nat → Nat → Int32)) (x0_works : Int32) (x0_work : (Nat → Nat → Int32)) (x0_years : Int32) (x0_gone : Int32) (x0_spent : Int32) (x0_at : Int32) (x0_token : Int32) (x0_from : Int32) (x0_figures : Int64) (x0_fault : Int32) (x0_numbers : (Nat → Int32)) (x0_statements : Int32) (x0_left : (Nat → Int32)) (x0_far : (Nat → Int32)) (x0_tons : Int32) (x0_way : (Nat → Int32)) (x0_steps : Int32) (x0_met : Int64) (x0_queue : (Nat → Int32)) (x0_totals : (Nat → Int32)) => (fX7_isPlace p1).bind (fun v1 => if v1 = 0 then ((fX7_refuse (x0_shelf, x0_rowSort, x0_rowSize, x0_rows, x0_moved, x0_shown, x0_tape, x0_tapeSize, x0_refused, x0_lines, x0_line, x0_changes, x0_coins, x0_goods, x0_good, x0_works, x0_work, x0_years, x0_gone, x0_spent, x0_at, x0_token, x0_from, x0_figures, x0_fault, x0_numbers, x0_statements, x0_left, x0_far, x0_tons, x0_way, x0_steps, x0_met, x0_queue, x0_totals) (-2)).bind (u2 fun v3 g4 => some (v3, g4, x0_changes))) else ((fX7_in ((p2).toInt64) (0 : Int64) (99 : Int64)).bind (fun v6 => if v6 = 0 then ((fX7_refuse (x0_shelf, x0_rowSort, x0_rowSize, x0_rows, x0_moved, x0_shown, x0_tape, x0_tapeSize, x0_refused, x0_lines, x0_line, x0_changes, x0_coins, x0_goods, x0_good, x0_works, x0_work, x0_years, x0_gone, x0_spent, x0_at, x0_token, x0_from, x0_figures, x0_fault, x0_numbers, x0_statements, x0_left, x0_far, x0_tons, x0_way, x0_steps, x0_met, x0_queue, x0_totals) (-2)).bind (u2 fun v10 g11 => some (v10, g11, x0_changes))) else ((rd 12 x0_changes p1).bind fun v8 => (wr 12 x0_changes p1 p2).bind fun f9 => some (v8, x0_refused, f9)))))) X0
set_option maxHeartbeats 4000000 in
set_option maxRecDepth 100000 in
theorem kX7_change (l : Launch) (d : DT) (h0 : Nat → Nat) (r0_rows : Nat → Nat) (r0_line : Nat → Nat) (r0_good : Nat → Nat) (r0_work : Nat → Nat) (a0_kept : Option Nat) (a0_tried : Option Nat) (a0_chosen : Option Nat) (x0_shelf : (Nat → Int32)) (x0_rowSort : (Nat → Int32)) (x0_rowSize : (Nat → Int32)) (x0_rows : (Nat → Nat → Int64)) (x0_moved : (Nat → Int64)) (x0_shown : (Nat → Int32)) (x0_tape : (Nat → Int32)) (x0_tapeSize : Int32) (x0_refused : (Nat → Int32)) (x0_lines : Int32) (x0_line : (Nat → Nat → Int32)) (x0_changes : (Nat → Int32)) (x0_coins : (Nat → Int32)) (x0_goods : Int32) (x0_good : (Nat → Nat → Int32)) (x0_works : Int32) (x0_work : (Nat → Nat → Int32)) (x0_years : Int32) (x0_gone : Int32) (x0_spent : Int32) (x0_at : Int32) (x0_token : Int32) (x0_from : Int32) (x0_figures : Int64) (x0_fault : Int32) (x0_numbers : (Nat → Int32)) (x0_statements : Int32) (x0_left : (Nat → Int32)) (x0_far : (Nat → Int32)) (x0_tons : Int32) (x0_way : (Nat → Int32)) (x0_steps : Int32) (x0_met : Int64) (x0_queue : (Nat → Int32)) (x0_totals : (Nat → Int32)) (p1 : Int32) (p2 : Int32)  {out : Int32 × (Nat → Int32) × (Nat → Int32)} (hf : fX7_change (x0_shelf, x0_rowSort, x0_rowSize, x0_rows, x0_moved, x0_shown, x0_tape, x0_tapeSize, x0_refused, x0_lines, x0_line, x0_changes, x0_coins, x0_goods, x0_good, x0_works, x0_work, x0_years, x0_gone, x0_spent, x0_at, x0_token, x0_from, x0_figures, x0_fault, x0_numbers, x0_statements, x0_left, x0_far, x0_tons, x0_way, x0_steps, x0_met, x0_queue, x0_totals) p1 p2 = some out) : Ct l d yX7_change cX7_change 4 (some .int) { frames := 2, cells := 0, slots := 0, locals := 45 } [.ref (h0 0), .int p1, .int p2] [gMd d h0 a0_kept a0_tried a0_chosen r0_rows r0_line r0_good r0_work x0_shelf x0_rowSort x0_rowSize x0_moved x0_shown x0_tape x0_tapeSize x0_refused x0_lines x0_changes x0_coins x0_goods x0_works x0_years x0_gone x0_spent x0_at x0_token x0_from x0_figures x0_fault x0_numbers x0_statements x0_left x0_far x0_tons x0_way x0_steps x0_met x0_queue x0_totals] (fun _ : Unit => (some (.int out.1), [gMd d h0 a0_kept a0_tried a0_chosen r0_rows r0_line r0_good r0_work x0_shelf x0_rowSort x0_rowSize x0_moved x0_shown x0_tape x0_tapeSize (out.2.1) x0_lines (out.2.2) x0_coins x0_goods x0_works x0_years x0_gone x0_spent x0_at x0_token x0_from x0_figures x0_fault x0_numbers x0_statements x0_left x0_far x0_tons x0_way x0_steps x0_met x0_queue x0_totals])) := by
  refine Ct.of (by decide) (Nat.le_of_ble_eq_true rfl) ?_
  intro Φ hl hK hR
  subst hl
  have hK : Ok d Φ RX7 "change" cX7_change 4 (some .int) { frames := 2, cells := 0, slots := 0, locals := 45 } := hK
  unfold fX7_change at hf
  have hf := un35 hf
  show J d Φ 4 [gMd d h0 a0_kept a0_tried a0_chosen r0_rows r0_line r0_good r0_work x0_shelf x0_rowSort x0_rowSize x0_moved x0_shown x0_tape x0_tapeSize x0_refused x0_lines x0_changes x0_coins x0_goods x0_works x0_years x0_gone x0_spent x0_at x0_token x0_from x0_figures x0_fault x0_numbers x0_statements x0_left x0_far x0_tons x0_way x0_steps x0_met x0_queue x0_totals] 0 0 0 [(0, .ref (h0 0)), (1, .int p1), (2, .int p2)] []
  refine J_iload_n hK dX7_change_0 rfl 1 rfl rfl ?_
  obtain ⟨v1, e2, hf⟩ := bs hf
  refine J_callS (m' := 1) (ce' := 0) (sl' := 0) (gr := [gMd d h0 a0_kept a0_tried a0_chosen r0_rows r0_line r0_good r0_work x0_shelf x0_rowSort x0_rowSize x0_moved x0_shown x0_tape x0_tapeSize x0_refused x0_lines x0_changes x0_coins x0_goods x0_works x0_years x0_gone x0_spent x0_at x0_token x0_from x0_figures x0_fault x0_numbers x0_statements x0_left x0_far x0_tons x0_way x0_steps x0_met x0_queue x0_totals]) (gs' := fun _ => [gMd d h0 a0_kept a0_tried a0_chosen r0_rows r0_line r0_good r0_work x0_shelf x0_rowSort x0_rowSize x0_moved x0_shown x0_tape x0_tapeSize x0_refused x0_lines x0_changes x0_coins x0_goods x0_works x0_years x0_gone x0_spent x0_at x0_token x0_from x0_figures x0_fault x0_numbers x0_statements x0_left x0_far x0_tons x0_way x0_steps x0_met x0_queue x0_totals]) (st' := fun _ => [.int v1]) (st := []) hK dX7_change_1 cv_RX7_112 ws_yX7_isPlace (As := [.int p1]) (kX7_isPlace _ d p1 e2) rfl rfl (Nat.le_of_ble_eq_true rfl) (by decide) [] [0] rfl rfl rfl rfl [0] rfl (fun _ => rfl) (fun _ => rfl) rfl rfl rfl (fun _ => rfl) (fun _ => ?_)
  refine J_if_eq (tg := 19) hK dX7_change_4 rfl rfl (fun hc4 => ?_) (fun hc4 => ?_)
  · have hf := ip hc4 hf
    refine J_aload_n hK dX7_change_19 rfl 0 rfl rfl ?_
    refine J_bipush (v := (-2)) hK dX7_change_20 rfl (by decide) ?_
    obtain ⟨⟨v3, g4⟩, e5, hf⟩ := bs hf
    have hf := un2 hf
    refine J_callV (m' := 1) (ce' := 0) (sl' := 0) (gr := []) (gs' := fun _ => [gMd d h0 a0_kept a0_tried a0_chosen r0_rows r0_line r0_good r0_work x0_shelf x0_rowSort x0_rowSize x0_moved x0_shown x0_tape x0_tapeSize g4 x0_lines x0_changes x0_coins x0_goods x0_works x0_years x0_gone x0_spent x0_at x0_token x0_from x0_figures x0_fault x0_numbers x0_statements x0_left x0_far x0_tons x0_way x0_steps x0_met x0_queue x0_totals]) (st' := fun _ => [.int v3]) (st := []) hK dX7_change_22 cv_RX7_94 iv_yX7_refuse (As := [.int (-2)]) (kX7_refuse _ d h0 r0_rows r0_line r0_good r0_work a0_kept a0_tried a0_chosen x0_shelf x0_rowSort x0_rowSize x0_rows x0_moved x0_shown x0_tape x0_tapeSize x0_refused x0_lines x0_line x0_changes x0_coins x0_goods x0_good x0_works x0_work x0_years x0_gone x0_spent x0_at x0_token x0_from x0_figures x0_fault x0_numbers x0_statements x0_left x0_far x0_tons x0_way x0_steps x0_met x0_queue x0_totals (-2) e5) rfl rfl (Nat.le_of_ble_eq_true rfl) (by decide) 0 0 rfl rfl rfl [0] [] rfl rfl rfl rfl [0] rfl (fun _ => rfl) (fun _ => rfl) rfl rfl rfl (fun _ => rfl) (fun _ => ?_)
    obtain rfl := Option.some.inj hf
    exact J_iret hK hR dX7_change_25 () rfl (by decide) (by decide)
  · have hf := iq hc4 hf
    refine J_iload_n hK dX7_change_7 rfl 2 rfl rfl ?_
    refine J_i2l hK dX7_change_8 rfl ?_
    refine J_lconst (v := 0) hK dX7_change_9 rfl (by decide) ?_
    refine J_ldc2 (v := (99 : Int64)) hK dX7_change_10 rfl wk_RX7_123 ?_
    obtain ⟨v6, e7, hf⟩ := bs hf
    refine J_callS (m' := 1) (ce' := 0) (sl' := 0) (gr := [gMd d h0 a0_kept a0_tried a0_chosen r0_rows r0_line r0_good r0_work x0_shelf x0_rowSort x0_rowSize x0_moved x0_shown x0_tape x0_tapeSize x0_refused x0_lines x0_changes x0_coins x0_goods x0_works x0_years x0_gone x0_spent x0_at x0_token x0_from x0_figures x0_fault x0_numbers x0_statements x0_left x0_far x0_tons x0_way x0_steps x0_met x0_queue x0_totals]) (gs' := fun _ => [gMd d h0 a0_kept a0_tried a0_chosen r0_rows r0_line r0_good r0_work x0_shelf x0_rowSort x0_rowSize x0_moved x0_shown x0_tape x0_tapeSize x0_refused x0_lines x0_changes x0_coins x0_goods x0_works x0_years x0_gone x0_spent x0_at x0_token x0_from x0_figures x0_fault x0_numbers x0_statements x0_left x0_far x0_tons x0_way x0_steps x0_met x0_queue x0_totals]) (st' := fun _ => [.int v6]) (st := []) hK dX7_change_13 cv_RX7_78 ws_yX7_in (As := [.long ((p2).toInt64), .long (0 : Int64), .long (99 : Int64)]) (kX7_in _ d ((p2).toInt64) (0 : Int64) (99 : Int64) e7) rfl rfl (Nat.le_of_ble_eq_true rfl) (by decide) [] [0] rfl rfl rfl rfl [0] rfl (fun _ => rfl) (fun _ => rfl) rfl rfl rfl (fun _ => rfl) (fun _ => ?_)
    refine J_if_ne (tg := 26) hK dX7_change_16 rfl rfl (fun hc16 => ?_) (fun hc16 => ?_)
    · have hf := iq hc16 hf
      refine J_aload_n hK dX7_change_26 rfl 0 rfl rfl ?_
      refine J_get hK fo_RX7_42 dX7_change_27 rfl 0 0 rfl rfl rfl ?_
      refine J_iload_n hK dX7_change_30 rfl 1 rfl rfl ?_
      obtain ⟨v8, ev8, hf⟩ := bs hf
      refine J_iald hK dX7_change_31 rfl 0 10 rfl rfl ev8 ?_
      refine J_istore_n (L' := [(3, .int v8), (0, .ref (h0 0)), (1, .int p1), (2, .int p2)]) hK dX7_change_32 rfl rfl (by decide) rfl ?_
      refine J_aload_n hK dX7_change_33 rfl 1 rfl rfl ?_
      refine J_get hK fo_RX7_42 dX7_change_34 rfl 0 0 rfl rfl rfl ?_
      refine J_iload_n hK dX7_change_37 rfl 2 rfl rfl ?_
      refine J_iload_n hK dX7_change_38 rfl 3 rfl rfl ?_
      obtain ⟨f9, ef9, hf⟩ := bs hf
      refine J_iast (g' := gMd d h0 a0_kept a0_tried a0_chosen r0_rows r0_line r0_good r0_work x0_shelf x0_rowSort x0_rowSize x0_moved x0_shown x0_tape x0_tapeSize x0_refused x0_lines f9 x0_coins x0_goods x0_works x0_years x0_gone x0_spent x0_at x0_token x0_from x0_figures x0_fault x0_numbers x0_statements x0_left x0_far x0_tons x0_way x0_steps x0_met x0_queue x0_totals) (gs' := [gMd d h0 a0_kept a0_tried a0_chosen r0_rows r0_line r0_good r0_work x0_shelf x0_rowSort x0_rowSize x0_moved x0_shown x0_tape x0_tapeSize x0_refused x0_lines f9 x0_coins x0_goods x0_works x0_years x0_gone x0_spent x0_at x0_token x0_from x0_figures x0_fault x0_numbers x0_statements x0_left x0_far x0_tons x0_way x0_steps x0_met x0_queue x0_totals]) hK dX7_change_39 rfl 0 10 rfl rfl ef9 rfl rfl ?_
      refine J_iload_n hK dX7_change_40 rfl 0 rfl rfl ?_
      obtain rfl := Option.some.inj hf
      exact J_iret hK hR dX7_change_41 () rfl (by decide) (by decide)
    · have hf := ip hc16 hf
      refine J_aload_n hK dX7_change_19 rfl 0 rfl rfl ?_
      refine J_bipush (v := (-2)) hK dX7_change_20 rfl (by decide) ?_
      obtain ⟨⟨v10, g11⟩, e12, hf⟩ := bs hf
      have hf := un2 hf
      refine J_callV (m' := 1) (ce' := 0) (sl' := 0) (gr := []) (gs' := fun _ => [gMd d h0 a0_kept a0_tried a0_chosen r0_rows r0_line r0_good r0_work x0_shelf x0_rowSort x0_rowSize x0_moved x0_shown x0_tape x0_tapeSize g11 x0_lines x0_changes x0_coins x0_goods x0_works x0_years x0_gone x0_spent x0_at x0_token x0_from x0_figures x0_fault x0_numbers x0_statements x0_left x0_far x0_tons x0_way x0_steps x0_met x0_queue x0_totals]) (st' := fun _ => [.int v10]) (st := []) hK dX7_change_22 cv_RX7_94 iv_yX7_refuse (As := [.int (-2)]) (kX7_refuse _ d h0 r0_rows r0_line r0_good r0_work a0_kept a0_tried a0_chosen x0_shelf x0_rowSort x0_rowSize x0_rows x0_moved x0_shown x0_tape x0_tapeSize x0_refused x0_lines x0_line x0_changes x0_coins x0_goods x0_good x0_works x0_work x0_years x0_gone x0_spent x0_at x0_token x0_from x0_figures x0_fault x0_numbers x0_statements x0_left x0_far x0_tons x0_way x0_steps x0_met x0_queue x0_totals (-2) e12) rfl rfl (Nat.le_of_ble_eq_true rfl) (by decide) 0 0 rfl rfl rfl [0] [] rfl rfl rfl rfl [0] rfl (fun _ => rfl) (fun _ => rfl) rfl rfl rfl (fun _ => rfl) (fun _ => ?_)
      obtain rfl := Option.some.inj hf
      exact J_iret hK hR dX7_change_25 () rfl (by decide) (by decide)

def fX7_coin (X0 : MdT) (p1 : Int32) (p2 : Int32) : Option (Int32 × (Nat → Int32) × (Nat → Int32)) :=
  u35 (fun (x0_shelf : (Nat → Int32)) (x0_rowSort : (Nat → Int32)) (x0_rowSize : (Nat → Int32)) (x0_rows : (Nat → Nat → Int64)) (x0_moved : (Nat → Int64)) (x0_shown : (Nat → Int32)) (x0_tape : (Nat → Int32)) (x0_tapeSize : Int32) (x0_refused : (Nat → Int32)) (x0_lines : Int32) (x0_line : (Nat → Nat → Int32)) (x0_changes : (Nat → Int32)) (x0_coins : (Nat → Int32)) (x0_goods : Int32) (x0_good : (Nat → Nat → Int32)) (x0_works : Int32) (x0_work : (Nat → Nat → Int32)) (x0_years : Int32) (x0_gone : Int32) (x0_spent : Int32) (x0_at : Int32) (x0_token : Int32) (x0_from : Int32) (x0_figures : Int64) (x0_fault : Int32) (x0_numbers : (Nat → Int32)) (x0_statements : Int32) (x0_left : (Nat → Int32)) (x0_far : (Nat → Int32)) (x0_tons : Int32) (x0_way : (Nat → Int32)) (x0_steps : Int32) (x0_met : Int64) (x0_queue : (Nat → Int32)) (x0_totals : (Nat → Int32)) => (fX7_in ((p1).toInt64) (0 : Int64) (2 : Int64)).bind (fun v1 => if v1 = 0 then ((fX7_refuse (x0_shelf, x0_rowSort, x0_rowSize, x0_rows, x0_moved, x0_shown, x0_tape, x0_tapeSize, x0_refused, x0_lines, x0_line, x0_changes, x0_coins, x0_goods, x0_good, x0_works, x0_work, x0_years, x0_gone, x0_spent, x0_at, x0_token, x0_from, x0_figures, x0_fault, x0_numbers, x0_statements, x0_left, x0_far, x0_tons, x0_way, x0_steps, x0_met, x0_queue, x0_totals) (-2)).bind (u2 fun v3 g4 => some (v3, g4, x0_coins))) else ((fX7_in ((p2).toInt64) (0 : Int64) (9 : Int64)).bind (fun v6 => if v6 = 0 then ((fX7_refuse (x0_shelf, x0_rowSort, x0_rowSize, x0_rows, x0_moved, x0_shown, x0_tape, x0_tapeSize, x0_refused, x0_lines, x0_line, x0_changes, x0_coins, x0_goods, x0_good, x0_works, x0_work, x0_years, x0_gone, x0_spent, x0_at, x0_token, x0_from, x0_figures, x0_fault, x0_numbers, x0_statements, x0_left, x0_far, x0_tons, x0_way, x0_steps, x0_met, x0_queue, x0_totals) (-2)).bind (u2 fun v10 g11 => some (v10, g11, x0_coins))) else ((rd 3 x0_coins p1).bind fun v8 => (wr 3 x0_coins p1 p2).bind fun f9 => some (v8, x0_refused, f9)))))) X0
set_option maxHeartbeats 4000000 in
set_option maxRecDepth 100000 in
theorem kX7_coin (l : Launch) (d : DT) (h0 : Nat → Nat) (r0_rows : Nat → Nat) (r0_line : Nat → Nat) (r0_good : Nat → Nat) (r0_work : Nat → Nat) (a0_kept : Option Nat) (a0_tried : Option Nat) (a0_chosen : Option Nat) (x0_shelf : (Nat → Int32)) (x0_rowSort : (Nat → Int32)) (x0_rowSize : (Nat → Int32)) (x0_rows : (Nat → Nat → Int64)) (x0_moved : (Nat → Int64)) (x0_shown : (Nat → Int32)) (x0_tape : (Nat → Int32)) (x0_tapeSize : Int32) (x0_refused : (Nat → Int32)) (x0_lines : Int32) (x0_line : (Nat → Nat → Int32)) (x0_changes : (Nat → Int32)) (x0_coins : (Nat → Int32)) (x0_goods : Int32) (x0_good : (Nat → Nat → Int32)) (x0_works : Int32) (x0_work : (Nat → Nat → Int32)) (x0_years : Int32) (x0_gone : Int32) (x0_spent : Int32) (x0_at : Int32) (x0_token : Int32) (x0_from : Int32) (x0_figures : Int64) (x0_fault : Int32) (x0_numbers : (Nat → Int32)) (x0_statements : Int32) (x0_left : (Nat → Int32)) (x0_far : (Nat → Int32)) (x0_tons : Int32) (x0_way : (Nat → Int32)) (x0_steps : Int32) (x0_met : Int64) (x0_queue : (Nat → Int32)) (x0_totals : (Nat → Int32)) (p1 : Int32) (p2 : Int32)  {out : Int32 × (Nat → Int32) × (Nat → Int32)} (hf : fX7_coin (x0_shelf, x0_rowSort, x0_rowSize, x0_rows, x0_moved, x0_shown, x0_tape, x0_tapeSize, x0_refused, x0_lines, x0_line, x0_changes, x0_coins, x0_goods, x0_good, x0_works, x0_work, x0_years, x0_gone, x0_spent, x0_at, x0_token, x0_from, x0_figures, x0_fault, x0_numbers, x0_statements, x0_left, x0_far, x0_tons, x0_way, x0_steps, x0_met, x0_queue, x0_totals) p1 p2 = some out) : Ct l d yX7_coin cX7_coin 4 (some .int) { frames := 1, cells := 0, slots := 0, locals := 25 } [.ref (h0 0), .int p1, .int p2] [gMd d h0 a0_kept a0_tried a0_chosen r0_rows r0_line r0_good r0_work x0_shelf x0_rowSort x0_rowSize x0_moved x0_shown x0_tape x0_tapeSize x0_refused x0_lines x0_changes x0_coins x0_goods x0_works x0_years x0_gone x0_spent x0_at x0_token x0_from x0_figures x0_fault x0_numbers x0_statements x0_left x0_far x0_tons x0_way x0_steps x0_met x0_queue x0_totals] (fun _ : Unit => (some (.int out.1), [gMd d h0 a0_kept a0_tried a0_chosen r0_rows r0_line r0_good r0_work x0_shelf x0_rowSort x0_rowSize x0_moved x0_shown x0_tape x0_tapeSize (out.2.1) x0_lines x0_changes (out.2.2) x0_goods x0_works x0_years x0_gone x0_spent x0_at x0_token x0_from x0_figures x0_fault x0_numbers x0_statements x0_left x0_far x0_tons x0_way x0_steps x0_met x0_queue x0_totals])) := by
  refine Ct.of (by decide) (Nat.le_of_ble_eq_true rfl) ?_
  intro Φ hl hK hR
  subst hl
  have hK : Ok d Φ RX7 "coin" cX7_coin 4 (some .int) { frames := 1, cells := 0, slots := 0, locals := 25 } := hK
  unfold fX7_coin at hf
  have hf := un35 hf
  show J d Φ 4 [gMd d h0 a0_kept a0_tried a0_chosen r0_rows r0_line r0_good r0_work x0_shelf x0_rowSort x0_rowSize x0_moved x0_shown x0_tape x0_tapeSize x0_refused x0_lines x0_changes x0_coins x0_goods x0_works x0_years x0_gone x0_spent x0_at x0_token x0_from x0_figures x0_fault x0_numbers x0_statements x0_left x0_far x0_tons x0_way x0_steps x0_met x0_queue x0_totals] 0 0 0 [(0, .ref (h0 0)), (1, .int p1), (2, .int p2)] []
  refine J_iload_n hK dX7_coin_0 rfl 1 rfl rfl ?_
  refine J_i2l hK dX7_coin_1 rfl ?_
  refine J_lconst (v := 0) hK dX7_coin_2 rfl (by decide) ?_
  refine J_ldc2 (v := (2 : Int64)) hK dX7_coin_3 rfl wk_RX7_131 ?_
  obtain ⟨v1, e2, hf⟩ := bs hf
  refine J_callS (m' := 1) (ce' := 0) (sl' := 0) (gr := [gMd d h0 a0_kept a0_tried a0_chosen r0_rows r0_line r0_good r0_work x0_shelf x0_rowSort x0_rowSize x0_moved x0_shown x0_tape x0_tapeSize x0_refused x0_lines x0_changes x0_coins x0_goods x0_works x0_years x0_gone x0_spent x0_at x0_token x0_from x0_figures x0_fault x0_numbers x0_statements x0_left x0_far x0_tons x0_way x0_steps x0_met x0_queue x0_totals]) (gs' := fun _ => [gMd d h0 a0_kept a0_tried a0_chosen r0_rows r0_line r0_good r0_work x0_shelf x0_rowSort x0_rowSize x0_moved x0_shown x0_tape x0_tapeSize x0_refused x0_lines x0_changes x0_coins x0_goods x0_works x0_years x0_gone x0_spent x0_at x0_token x0_from x0_figures x0_fault x0_numbers x0_statements x0_left x0_far x0_tons x0_way x0_steps x0_met x0_queue x0_totals]) (st' := fun _ => [.int v1]) (st := []) hK dX7_coin_6 cv_RX7_78 ws_yX7_in (As := [.long ((p1).toInt64), .long (0 : Int64), .long (2 : Int64)]) (kX7_in _ d ((p1).toInt64) (0 : Int64) (2 : Int64) e2) rfl rfl (Nat.le_of_ble_eq_true rfl) (by decide) [] [0] rfl rfl rfl rfl [0] rfl (fun _ => rfl) (fun _ => rfl) rfl rfl rfl (fun _ => rfl) (fun _ => ?_)
  refine J_if_eq (tg := 24) hK dX7_coin_9 rfl rfl (fun hc9 => ?_) (fun hc9 => ?_)
  · have hf := ip hc9 hf
    refine J_aload_n hK dX7_coin_24 rfl 0 rfl rfl ?_
    refine J_bipush (v := (-2)) hK dX7_coin_25 rfl (by decide) ?_
    obtain ⟨⟨v3, g4⟩, e5, hf⟩ := bs hf
    have hf := un2 hf
    refine J_callV (m' := 1) (ce' := 0) (sl' := 0) (gr := []) (gs' := fun _ => [gMd d h0 a0_kept a0_tried a0_chosen r0_rows r0_line r0_good r0_work x0_shelf x0_rowSort x0_rowSize x0_moved x0_shown x0_tape x0_tapeSize g4 x0_lines x0_changes x0_coins x0_goods x0_works x0_years x0_gone x0_spent x0_at x0_token x0_from x0_figures x0_fault x0_numbers x0_statements x0_left x0_far x0_tons x0_way x0_steps x0_met x0_queue x0_totals]) (st' := fun _ => [.int v3]) (st := []) hK dX7_coin_27 cv_RX7_94 iv_yX7_refuse (As := [.int (-2)]) (kX7_refuse _ d h0 r0_rows r0_line r0_good r0_work a0_kept a0_tried a0_chosen x0_shelf x0_rowSort x0_rowSize x0_rows x0_moved x0_shown x0_tape x0_tapeSize x0_refused x0_lines x0_line x0_changes x0_coins x0_goods x0_good x0_works x0_work x0_years x0_gone x0_spent x0_at x0_token x0_from x0_figures x0_fault x0_numbers x0_statements x0_left x0_far x0_tons x0_way x0_steps x0_met x0_queue x0_totals (-2) e5) rfl rfl (Nat.le_of_ble_eq_true rfl) (by decide) 0 0 rfl rfl rfl [0] [] rfl rfl rfl rfl [0] rfl (fun _ => rfl) (fun _ => rfl) rfl rfl rfl (fun _ => rfl) (fun _ => ?_)
    obtain rfl := Option.some.inj hf
    exact J_iret hK hR dX7_coin_30 () rfl (by decide) (by decide)
  · have hf := iq hc9 hf
    refine J_iload_n hK dX7_coin_12 rfl 2 rfl rfl ?_
    refine J_i2l hK dX7_coin_13 rfl ?_
    refine J_lconst (v := 0) hK dX7_coin_14 rfl (by decide) ?_
    refine J_ldc2 (v := (9 : Int64)) hK dX7_coin_15 rfl wk_RX7_142 ?_
    obtain ⟨v6, e7, hf⟩ := bs hf
    refine J_callS (m' := 1) (ce' := 0) (sl' := 0) (gr := [gMd d h0 a0_kept a0_tried a0_chosen r0_rows r0_line r0_good r0_work x0_shelf x0_rowSort x0_rowSize x0_moved x0_shown x0_tape x0_tapeSize x0_refused x0_lines x0_changes x0_coins x0_goods x0_works x0_years x0_gone x0_spent x0_at x0_token x0_from x0_figures x0_fault x0_numbers x0_statements x0_left x0_far x0_tons x0_way x0_steps x0_met x0_queue x0_totals]) (gs' := fun _ => [gMd d h0 a0_kept a0_tried a0_chosen r0_rows r0_line r0_good r0_work x0_shelf x0_rowSort x0_rowSize x0_moved x0_shown x0_tape x0_tapeSize x0_refused x0_lines x0_changes x0_coins x0_goods x0_works x0_years x0_gone x0_spent x0_at x0_token x0_from x0_figures x0_fault x0_numbers x0_statements x0_left x0_far x0_tons x0_way x0_steps x0_met x0_queue x0_totals]) (st' := fun _ => [.int v6]) (st := []) hK dX7_coin_18 cv_RX7_78 ws_yX7_in (As := [.long ((p2).toInt64), .long (0 : Int64), .long (9 : Int64)]) (kX7_in _ d ((p2).toInt64) (0 : Int64) (9 : Int64) e7) rfl rfl (Nat.le_of_ble_eq_true rfl) (by decide) [] [0] rfl rfl rfl rfl [0] rfl (fun _ => rfl) (fun _ => rfl) rfl rfl rfl (fun _ => rfl) (fun _ => ?_)
    refine J_if_ne (tg := 31) hK dX7_coin_21 rfl rfl (fun hc21 => ?_) (fun hc21 => ?_)
    · have hf := iq hc21 hf
      refine J_aload_n hK dX7_coin_31 rfl 0 rfl rfl ?_
      refine J_get hK fo_RX7_45 dX7_coin_32 rfl 0 0 rfl rfl rfl ?_
      refine J_iload_n hK dX7_coin_35 rfl 1 rfl rfl ?_
      obtain ⟨v8, ev8, hf⟩ := bs hf
      refine J_iald hK dX7_coin_36 rfl 0 11 rfl rfl ev8 ?_
      refine J_istore_n (L' := [(3, .int v8), (0, .ref (h0 0)), (1, .int p1), (2, .int p2)]) hK dX7_coin_37 rfl rfl (by decide) rfl ?_
      refine J_aload_n hK dX7_coin_38 rfl 1 rfl rfl ?_
      refine J_get hK fo_RX7_45 dX7_coin_39 rfl 0 0 rfl rfl rfl ?_
      refine J_iload_n hK dX7_coin_42 rfl 2 rfl rfl ?_
      refine J_iload_n hK dX7_coin_43 rfl 3 rfl rfl ?_
      obtain ⟨f9, ef9, hf⟩ := bs hf
      refine J_iast (g' := gMd d h0 a0_kept a0_tried a0_chosen r0_rows r0_line r0_good r0_work x0_shelf x0_rowSort x0_rowSize x0_moved x0_shown x0_tape x0_tapeSize x0_refused x0_lines x0_changes f9 x0_goods x0_works x0_years x0_gone x0_spent x0_at x0_token x0_from x0_figures x0_fault x0_numbers x0_statements x0_left x0_far x0_tons x0_way x0_steps x0_met x0_queue x0_totals) (gs' := [gMd d h0 a0_kept a0_tried a0_chosen r0_rows r0_line r0_good r0_work x0_shelf x0_rowSort x0_rowSize x0_moved x0_shown x0_tape x0_tapeSize x0_refused x0_lines x0_changes f9 x0_goods x0_works x0_years x0_gone x0_spent x0_at x0_token x0_from x0_figures x0_fault x0_numbers x0_statements x0_left x0_far x0_tons x0_way x0_steps x0_met x0_queue x0_totals]) hK dX7_coin_44 rfl 0 11 rfl rfl ef9 rfl rfl ?_
      refine J_iload_n hK dX7_coin_45 rfl 0 rfl rfl ?_
      obtain rfl := Option.some.inj hf
      exact J_iret hK hR dX7_coin_46 () rfl (by decide) (by decide)
    · have hf := ip hc21 hf
      refine J_aload_n hK dX7_coin_24 rfl 0 rfl rfl ?_
      refine J_bipush (v := (-2)) hK dX7_coin_25 rfl (by decide) ?_
      obtain ⟨⟨v10, g11⟩, e12, hf⟩ := bs hf
      have hf := un2 hf
      refine J_callV (m' := 1) (ce' := 0) (sl' := 0) (gr := []) (gs' := fun _ => [gMd d h0 a0_kept a0_tried a0_chosen r0_rows r0_line r0_good r0_work x0_shelf x0_rowSort x0_rowSize x0_moved x0_shown x0_tape x0_tapeSize g11 x0_lines x0_changes x0_coins x0_goods x0_works x0_years x0_gone x0_spent x0_at x0_token x0_from x0_figures x0_fault x0_numbers x0_statements x0_left x0_far x0_tons x0_way x0_steps x0_met x0_queue x0_totals]) (st' := fun _ => [.int v10]) (st := []) hK dX7_coin_27 cv_RX7_94 iv_yX7_refuse (As := [.int (-2)]) (kX7_refuse _ d h0 r0_rows r0_line r0_good r0_work a0_kept a0_tried a0_chosen x0_shelf x0_rowSort x0_rowSize x0_rows x0_moved x0_shown x0_tape x0_tapeSize x0_refused x0_lines x0_line x0_changes x0_coins x0_goods x0_good x0_works x0_work x0_years x0_gone x0_spent x0_at x0_token x0_from x0_figures x0_fault x0_numbers x0_statements x0_left x0_far x0_tons x0_way x0_steps x0_met x0_queue x0_totals (-2) e12) rfl rfl (Nat.le_of_ble_eq_true rfl) (by decide) 0 0 rfl rfl rfl [0] [] rfl rfl rfl rfl [0] rfl (fun _ => rfl) (fun _ => rfl) rfl rfl rfl (fun _ => rfl) (fun _ => ?_)
      obtain rfl := Option.some.inj hf
      exact J_iret hK hR dX7_coin_30 () rfl (by decide) (by decide)

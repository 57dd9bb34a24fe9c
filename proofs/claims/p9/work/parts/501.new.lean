
set_option maxHeartbeats 4000000 in
set_option maxRecDepth 100000 in
theorem kX7_totalOfNt (l : Launch) (d : DT) (h0 : Nat → Nat) (r0_rows : Nat → Nat) (r0_line : Nat → Nat) (r0_good : Nat → Nat) (r0_work : Nat → Nat) (a0_kept : Option Nat) (a0_chosen : Option Nat) (n : Nat) (x0_shelf : (Nat → Int32)) (x0_rowSort : (Nat → Int32)) (x0_rowSize : (Nat → Int32)) (x0_rows : (Nat → Nat → Int64)) (x0_moved : (Nat → Int64)) (x0_shown : (Nat → Int32)) (x0_tape : (Nat → Int32)) (x0_tapeSize : Int32) (x0_refused : (Nat → Int32)) (x0_lines : Int32) (x0_line : (Nat → Nat → Int32)) (x0_changes : (Nat → Int32)) (x0_coins : (Nat → Int32)) (x0_goods : Int32) (x0_good : (Nat → Nat → Int32)) (x0_works : Int32) (x0_work : (Nat → Nat → Int32)) (x0_years : Int32) (x0_gone : Int32) (x0_spent : Int32) (x0_at : Int32) (x0_token : Int32) (x0_from : Int32) (x0_figures : Int64) (x0_fault : Int32) (x0_numbers : (Nat → Int32)) (x0_statements : Int32) (x0_left : (Nat → Int32)) (x0_far : (Nat → Int32)) (x0_tons : Int32) (x0_way : (Nat → Int32)) (x0_steps : Int32) (x0_met : Int64) (x0_queue : (Nat → Int32)) (x0_totals : (Nat → Int32)) (p1 : Int32)  {out : Int32 × (Int32 × (Nat → Nat → Int32) × (Nat → Int32) × (Nat → Int32) × Int32 × (Nat → Nat → Int32) × Int32 × (Nat → Nat → Int32) × Int32 × Int32 × Int32 × (Nat → Int32) × (Nat → Int32) × Int32)} (hf : fX7_totalOf n (x0_shelf, x0_rowSort, x0_rowSize, x0_rows, x0_moved, x0_shown, x0_tape, x0_tapeSize, x0_refused, x0_lines, x0_line, x0_changes, x0_coins, x0_goods, x0_good, x0_works, x0_work, x0_years, x0_gone, x0_spent, x0_at, x0_token, x0_from, x0_figures, x0_fault, x0_numbers, x0_statements, x0_left, x0_far, x0_tons, x0_way, x0_steps, x0_met, x0_queue, x0_totals) ((fun _ => 0), (fun _ => 0), (fun _ => 0), (fun _ _ => 0), (fun _ => 0), (fun _ => 0), (fun _ => 0), 0, (fun _ => 0), 0, (fun _ _ => 0), (fillV 12 9 (fun _ => 0)), (va_up (va_up (va_up (fun _ => 0) 0 1) 1 1) 2 1), 0, (fun _ _ => 0), 0, (fun _ _ => 0), 10, 0, 0, 0, 0, 0, 0, 0, (fun _ => 0), 0, (fun _ => 0), (fun _ => 0), 0, (fun _ => 0), 0, 0, (fun _ => 0), (fun _ => 0)) p1 = some out) : Ct l d yX7_totalOf cX7_totalOf 5 (some .int) { frames := 4, cells := 63, slots := 1204, locals := 85 } [.ref (h0 0), .int p1] [gMd d h0 a0_kept none a0_chosen r0_rows r0_line r0_good r0_work x0_shelf x0_rowSort x0_rowSize x0_moved x0_shown x0_tape x0_tapeSize x0_refused x0_lines x0_changes x0_coins x0_goods x0_works x0_years x0_gone x0_spent x0_at x0_token x0_from x0_figures x0_fault x0_numbers x0_statements x0_left x0_far x0_tons x0_way x0_steps x0_met x0_queue x0_totals, gridI d r0_line 20 7 x0_line, gridI d r0_good 8 3 x0_good, gridI d r0_work 7 5 x0_work] (fun u : AdM => (some (.int out.1), [gMd d h0 a0_kept (some (u.1 0)) a0_chosen r0_rows r0_line r0_good r0_work x0_shelf x0_rowSort x0_rowSize x0_moved x0_shown x0_tape x0_tapeSize x0_refused x0_lines x0_changes x0_coins x0_goods x0_works x0_years x0_gone x0_spent x0_at x0_token x0_from x0_figures x0_fault x0_numbers x0_statements x0_left x0_far x0_tons x0_way x0_steps x0_met x0_queue x0_totals, gridI d r0_line 20 7 x0_line, gridI d r0_good 8 3 x0_good, gridI d r0_work 7 5 x0_work, gMd d u.1 none none none u.2.1 u.2.2.1 u.2.2.2.1 u.2.2.2.2 (fun _ => 0) (fun _ => 0) (fun _ => 0) (fun _ => 0) (fun _ => 0) (fun _ => 0) (0) (fun _ => 0) (out.2.1) (out.2.2.2.1) (out.2.2.2.2.1) (out.2.2.2.2.2.1) (out.2.2.2.2.2.2.2.1) (out.2.2.2.2.2.2.2.2.2.1) (out.2.2.2.2.2.2.2.2.2.2.1) (out.2.2.2.2.2.2.2.2.2.2.2.1) (0) (0) (0) (0) (0) (fun _ => 0) (0) (out.2.2.2.2.2.2.2.2.2.2.2.2.1) (out.2.2.2.2.2.2.2.2.2.2.2.2.2.1) (out.2.2.2.2.2.2.2.2.2.2.2.2.2.2) (fun _ => 0) (0) (0) (fun _ => 0) (fun _ => 0), gridJ d u.2.1 8 40 (fun _ _ => 0), gridI d u.2.2.1 20 7 (out.2.2.1), gridI d u.2.2.2.1 8 3 (out.2.2.2.2.2.2.1), gridI d u.2.2.2.2 7 5 (out.2.2.2.2.2.2.2.2.1)])) := by
  refine Ct.of (by decide) (Nat.le_of_ble_eq_true rfl) ?_
  intro Φ hl hK hR
  subst hl
  have hK : Ok d Φ RX7 "totalOf" cX7_totalOf 5 (some .int) { frames := 4, cells := 63, slots := 1204, locals := 85 } := hK
  unfold fX7_totalOf at hf
  have hf := un35 hf
  have hf := un35 hf
  show J d Φ 5 [gMd d h0 a0_kept none a0_chosen r0_rows r0_line r0_good r0_work x0_shelf x0_rowSort x0_rowSize x0_moved x0_shown x0_tape x0_tapeSize x0_refused x0_lines x0_changes x0_coins x0_goods x0_works x0_years x0_gone x0_spent x0_at x0_token x0_from x0_figures x0_fault x0_numbers x0_statements x0_left x0_far x0_tons x0_way x0_steps x0_met x0_queue x0_totals, gridI d r0_line 20 7 x0_line, gridI d r0_good 8 3 x0_good, gridI d r0_work 7 5 x0_work] 0 0 0 [(0, .ref (h0 0)), (1, .int p1)] []
  refine J_aload_n hK dX7_totalOf_0 rfl 0 rfl rfl ?_
  obtain ⟨⟨g2, g3, g4, g5, g6, g7, g8, g9, g10, g11, g12⟩, e13, hf⟩ := bs hf
  have hf := un11 hf
  refine J_callV (m' := 9) (ce' := 63) (sl' := 1204) (gr := []) (gs' := fun u1 => [gMd d h0 a0_kept (some (u1.1 0)) a0_chosen r0_rows r0_line r0_good r0_work x0_shelf x0_rowSort x0_rowSize x0_moved x0_shown x0_tape x0_tapeSize x0_refused x0_lines x0_changes x0_coins x0_goods x0_works x0_years x0_gone x0_spent x0_at x0_token x0_from x0_figures x0_fault x0_numbers x0_statements x0_left x0_far x0_tons x0_way x0_steps x0_met x0_queue x0_totals, gridI d r0_line 20 7 x0_line, gridI d r0_good 8 3 x0_good, gridI d r0_work 7 5 x0_work, gMd d u1.1 none none none u1.2.1 u1.2.2.1 u1.2.2.2.1 u1.2.2.2.2 (fun _ => 0) (fun _ => 0) (fun _ => 0) (fun _ => 0) (fun _ => 0) (fun _ => 0) (0) (fun _ => 0) g2 g4 g5 g6 g8 g10 g11 g12 (0) (0) (0) (0) (0) (fun _ => 0) (0) (fun _ => 0) (fun _ => 0) (0) (fun _ => 0) (0) (0) (fun _ => 0) (fun _ => 0), gridJ d u1.2.1 8 40 (fun _ _ => 0), gridI d u1.2.2.1 20 7 g3, gridI d u1.2.2.2.1 8 3 g7, gridI d u1.2.2.2.2 7 5 g9]) (st' := fun u1 => [.ref (u1.1 0)]) (st := []) hK dX7_totalOf_1 cv_RX7_238 iv_yX7_fresh (As := []) (kX7_freshNt _ d h0 r0_rows r0_line r0_good r0_work a0_kept a0_chosen n x0_shelf x0_rowSort x0_rowSize x0_rows x0_moved x0_shown x0_tape x0_tapeSize x0_refused x0_lines x0_line x0_changes x0_coins x0_goods x0_good x0_works x0_work x0_years x0_gone x0_spent x0_at x0_token x0_from x0_figures x0_fault x0_numbers x0_statements x0_left x0_far x0_tons x0_way x0_steps x0_met x0_queue x0_totals e13) rfl rfl (Nat.le_of_ble_eq_true rfl) (by decide) 0 0 rfl rfl rfl [0, 1, 2, 3] [] rfl rfl rfl rfl [0, 1, 2, 3, 4, 5, 6, 7, 8] rfl (fun _ => rfl) (fun _ => rfl) rfl rfl rfl (fun _ => rfl) (fun u1 => ?_)
  refine J_astore_n (L' := [(2, .ref (u1.1 0)), (0, .ref (h0 0)), (1, .int p1)]) hK dX7_totalOf_4 rfl rfl (by decide) rfl ?_
  refine J_iconst (v := 0) hK dX7_totalOf_5 rfl (by decide) ?_
  refine J_istore_n (L' := [(3, .int (0)), (2, .ref (u1.1 0)), (0, .ref (h0 0)), (1, .int p1)]) hK dX7_totalOf_6 rfl rfl (by decide) rfl ?_
  refine J_iconst (v := 0) hK dX7_totalOf_7 rfl (by decide) ?_
  refine J_istore (L' := [(4, .int (0)), (3, .int (0)), (2, .ref (u1.1 0)), (0, .ref (h0 0)), (1, .int p1)]) hK dX7_totalOf_8 rfl (by decide) rfl ?_
  obtain ⟨e21, hl14, hf⟩ := bs hf
  have hx14_64 : ∀ (w22 : Int32) (w23 : Int32) (w24 : (Nat → Nat → Int32)) (w25 : (Nat → Int32)) (w26 : (Nat → Nat → Int32)), (w22, w23, w24, w25, w26) = e21 → J d Φ 5 [gMd d h0 a0_kept (some (u1.1 0)) a0_chosen r0_rows r0_line r0_good r0_work x0_shelf x0_rowSort x0_rowSize x0_moved x0_shown x0_tape x0_tapeSize x0_refused x0_lines x0_changes x0_coins x0_goods x0_works x0_years x0_gone x0_spent x0_at x0_token x0_from x0_figures x0_fault x0_numbers x0_statements x0_left x0_far x0_tons x0_way x0_steps x0_met x0_queue x0_totals, gridI d r0_line 20 7 x0_line, gridI d r0_good 8 3 x0_good, gridI d r0_work 7 5 x0_work, gMd d u1.1 none none none u1.2.1 u1.2.2.1 u1.2.2.2.1 u1.2.2.2.2 (fun _ => 0) (fun _ => 0) (fun _ => 0) (fun _ => 0) (fun _ => 0) (fun _ => 0) (0) (fun _ => 0) w23 w25 g5 g6 g8 g10 g11 g12 (0) (0) (0) (0) (0) (fun _ => 0) (0) (fun _ => 0) (fun _ => 0) (0) (fun _ => 0) (0) (0) (fun _ => 0) (fun _ => 0), gridJ d u1.2.1 8 40 (fun _ _ => 0), gridI d u1.2.2.1 20 7 w24, gridI d u1.2.2.2.1 8 3 g7, gridI d u1.2.2.2.2 7 5 w26] 63 1204 64 [(0, .ref (h0 0)), (2, .ref (u1.1 0)), (3, .int w22)] [] := by
    intro w22 w23 w24 w25 w26 he
    rw [← he] at hf
    have hf := un5 hf
    refine J_iload_n hK dX7_totalOf_64 rfl 2 rfl rfl ?_
    refine J_aload_n hK dX7_totalOf_65 rfl 0 rfl rfl ?_
    refine J_get hK fo_RX7_54 dX7_totalOf_66 rfl 0 0 rfl rfl rfl ?_
    refine J_aload_n hK dX7_totalOf_69 rfl 1 rfl rfl ?_
    obtain ⟨⟨v27, g28, g29, g30⟩, e31, hf⟩ := bs hf
    have hf := un4 hf
    refine J_callV (m' := 9) (ce' := 63) (sl' := 1204) (gr := [gMd d h0 a0_kept (some (u1.1 0)) a0_chosen r0_rows r0_line r0_good r0_work x0_shelf x0_rowSort x0_rowSize x0_moved x0_shown x0_tape x0_tapeSize x0_refused x0_lines x0_changes x0_coins x0_goods x0_works x0_years x0_gone x0_spent x0_at x0_token x0_from x0_figures x0_fault x0_numbers x0_statements x0_left x0_far x0_tons x0_way x0_steps x0_met x0_queue x0_totals, gridI d r0_line 20 7 x0_line, gridI d r0_good 8 3 x0_good, gridI d r0_work 7 5 x0_work, gridJ d u1.2.1 8 40 (fun _ _ => 0), gridI d u1.2.2.2.2 7 5 w26]) (gs' := fun _ => [gMd d h0 a0_kept (some (u1.1 0)) a0_chosen r0_rows r0_line r0_good r0_work x0_shelf x0_rowSort x0_rowSize x0_moved x0_shown x0_tape x0_tapeSize x0_refused x0_lines x0_changes x0_coins x0_goods x0_works x0_years x0_gone x0_spent x0_at x0_token x0_from x0_figures x0_fault x0_numbers x0_statements x0_left x0_far x0_tons x0_way x0_steps x0_met x0_queue x0_totals, gridI d r0_line 20 7 x0_line, gridI d r0_good 8 3 x0_good, gridI d r0_work 7 5 x0_work, gMd d u1.1 none none none u1.2.1 u1.2.2.1 u1.2.2.2.1 u1.2.2.2.2 (fun _ => 0) (fun _ => 0) (fun _ => 0) (fun _ => 0) (fun _ => 0) (fun _ => 0) (0) (fun _ => 0) w23 w25 g5 g6 g8 g10 g11 g12 (0) (0) (0) (0) (0) (fun _ => 0) (0) g28 g29 g30 (fun _ => 0) (0) (0) (fun _ => 0) (fun _ => 0), gridJ d u1.2.1 8 40 (fun _ _ => 0), gridI d u1.2.2.1 20 7 w24, gridI d u1.2.2.2.1 8 3 g7, gridI d u1.2.2.2.2 7 5 w26]) (st' := fun _ => [.int v27, .int x0_years, .int w22]) (st := [.int x0_years, .int w22]) hK dX7_totalOf_70 cv_RX7_288 iv_yX7_free (As := []) (kX7_free _ d u1.1 u1.2.1 u1.2.2.1 u1.2.2.2.1 u1.2.2.2.2 none none none n (fun _ => 0) (fun _ => 0) (fun _ => 0) (fun _ _ => 0) (fun _ => 0) (fun _ => 0) (fun _ => 0) (0) (fun _ => 0) w23 w24 w25 g5 g6 g7 g8 w26 g10 g11 g12 (0) (0) (0) (0) (0) (fun _ => 0) (0) (fun _ => 0) (fun _ => 0) (0) (fun _ => 0) (0) (0) (fun _ => 0) (fun _ => 0) e31) rfl rfl (Nat.le_of_ble_eq_true rfl) (by decide) 4 0 rfl rfl rfl [4, 6, 7] [0, 1, 2, 3, 5, 8] rfl rfl rfl rfl [0, 1, 2, 3, 6, 4, 7, 8, 5] rfl (fun _ => rfl) (fun _ => rfl) rfl rfl rfl (fun _ => rfl) (fun _ => ?_)
    refine J_imul hK dX7_totalOf_73 rfl ?_
    refine J_iadd hK dX7_totalOf_74 rfl ?_
    obtain rfl := Option.some.inj hf
    exact J_iret hK hR dX7_totalOf_75 u1 rfl (by decide) (by decide)
  have lo14 : ∀ (k : Nat) (z15 : Int32) (z16 : Int32) (z17 : Int32) (z18 : (Nat → Nat → Int32)) (z19 : (Nat → Int32)) (z20 : (Nat → Nat → Int32)), lp (u6 (fX7_totalOf_s10 p1 x0_works (fun _ => 0) (fun _ => 0) (fun _ => 0) (fun _ _ => 0) (fun _ => 0) (fun _ => 0) (fun _ => 0) (0) (fun _ => 0) (0) (0) (0) (0) (0) (fun _ => 0) (0) (fun _ => 0) (fun _ => 0) (0) (fun _ => 0) (0) (0) (fun _ => 0) (fun _ => 0) g5 g6 g7 g8 g10 g11 g12)) k (z15, z16, z17, z18, z19, z20) = some e21 → J d Φ 5 [gMd d h0 a0_kept (some (u1.1 0)) a0_chosen r0_rows r0_line r0_good r0_work x0_shelf x0_rowSort x0_rowSize x0_moved x0_shown x0_tape x0_tapeSize x0_refused x0_lines x0_changes x0_coins x0_goods x0_works x0_years x0_gone x0_spent x0_at x0_token x0_from x0_figures x0_fault x0_numbers x0_statements x0_left x0_far x0_tons x0_way x0_steps x0_met x0_queue x0_totals, gridI d r0_line 20 7 x0_line, gridI d r0_good 8 3 x0_good, gridI d r0_work 7 5 x0_work, gMd d u1.1 none none none u1.2.1 u1.2.2.1 u1.2.2.2.1 u1.2.2.2.2 (fun _ => 0) (fun _ => 0) (fun _ => 0) (fun _ => 0) (fun _ => 0) (fun _ => 0) (0) (fun _ => 0) z17 z19 g5 g6 g8 g10 g11 g12 (0) (0) (0) (0) (0) (fun _ => 0) (0) (fun _ => 0) (fun _ => 0) (0) (fun _ => 0) (0) (0) (fun _ => 0) (fun _ => 0), gridJ d u1.2.1 8 40 (fun _ _ => 0), gridI d u1.2.2.1 20 7 z18, gridI d u1.2.2.2.1 8 3 g7, gridI d u1.2.2.2.2 7 5 z20] 63 1204 10 [(0, .ref (h0 0)), (1, .int p1), (2, .ref (u1.1 0)), (3, .int z15), (4, .int z16)] [] := by
    intro k
    induction k with
    | zero => intro z15 z16 z17 z18 z19 z20 h; cases h
    | succ k ih14 =>
      intro z15 z16 z17 z18 z19 z20 h
      obtain ⟨k2, rr14, hk2, hs14, hr14⟩ := lp_ok h
      cases hk2
      have hs14 : fX7_totalOf_s10 p1 x0_works (fun _ => 0) (fun _ => 0) (fun _ => 0) (fun _ _ => 0) (fun _ => 0) (fun _ => 0) (fun _ => 0) (0) (fun _ => 0) (0) (0) (0) (0) (0) (fun _ => 0) (0) (fun _ => 0) (fun _ => 0) (0) (fun _ => 0) (0) (0) (fun _ => 0) (fun _ => 0) g5 g6 g7 g8 g10 g11 g12 z15 z16 z17 z18 z19 z20 = some rr14 := hs14
      unfold fX7_totalOf_s10 at hs14
      refine J_iload hK dX7_totalOf_10 rfl 4 rfl ?_
      refine J_aload_n hK dX7_totalOf_12 rfl 0 rfl rfl ?_
      refine J_get hK fo_RX7_85 dX7_totalOf_13 rfl 0 0 rfl rfl rfl ?_
      refine J_icmp_ge (tg := 64) hK dX7_totalOf_16 rfl rfl (fun hc16 => ?_) (fun hc16 => ?_)
      · have hs14 := ip hc16 hs14
        exact J_loc [0, 2, 3] rfl (hx14_64 z15 z17 z18 z19 z20 (lpx hs14 hr14))
      · have hs14 := iq hc16 hs14
        refine J_iload_n hK dX7_totalOf_19 rfl 1 rfl rfl ?_
        refine J_iload hK dX7_totalOf_20 rfl 4 rfl ?_
        refine J_ishr hK dX7_totalOf_22 rfl ?_
        refine J_iconst (v := 1) hK dX7_totalOf_23 rfl (by decide) ?_
        refine J_iand hK dX7_totalOf_24 rfl ?_
        refine J_if_eq (tg := 58) hK dX7_totalOf_25 rfl rfl (fun hc25 => ?_) (fun hc25 => ?_)
        · have hs14 := ip hc25 hs14
          refine J_iinc (L' := [(4, .int (z16 + 1)), (0, .ref (h0 0)), (1, .int p1), (2, .ref (u1.1 0)), (3, .int z15)]) (v := (z16 + 1)) hK dX7_totalOf_58 rfl 4 rfl rfl (by decide) rfl ?_
          refine J_goto hK dX7_totalOf_61 (n := 10) rfl ?_
          exact J_loc [1, 2, 3, 4, 0] rfl (ih14 z15 (z16 + 1) z17 z18 z19 z20 (lpc hs14 hr14))
        · have hs14 := iq hc25 hs14
          refine J_aload_n hK dX7_totalOf_28 rfl 2 rfl rfl ?_
          refine J_get hK fo_RX7_51 dX7_totalOf_29 rfl 4 0 rfl rfl rfl ?_
          refine J_iload hK dX7_totalOf_32 rfl 4 rfl ?_
          obtain ⟨q32, eq32, hs14⟩ := bs hs14
          refine J_aald hK dX7_totalOf_34 rfl 4 13 rfl rfl rfl eq32 ?_
          refine J_iconst (v := 4) hK dX7_totalOf_35 rfl (by decide) ?_
          obtain ⟨v33, ev33, hs14⟩ := bs hs14
          refine J_iald hK dX7_totalOf_36 rfl 8 q32 rfl (gridI_at (ck_ok eq32).2.2) ev33 ?_
          refine J_if_ne (tg := 58) hK dX7_totalOf_37 rfl rfl (fun hc37 => ?_) (fun hc37 => ?_)
          · have hs14 := iq hc37 hs14
            refine J_iinc (L' := [(4, .int (z16 + 1)), (0, .ref (h0 0)), (1, .int p1), (2, .ref (u1.1 0)), (3, .int z15)]) (v := (z16 + 1)) hK dX7_totalOf_58 rfl 4 rfl rfl (by decide) rfl ?_
            refine J_goto hK dX7_totalOf_61 (n := 10) rfl ?_
            exact J_loc [1, 2, 3, 4, 0] rfl (ih14 z15 (z16 + 1) z17 z18 z19 z20 (lpc hs14 hr14))
          · have hs14 := ip hc37 hs14
            refine J_iload_n hK dX7_totalOf_40 rfl 3 rfl rfl ?_
            refine J_aload_n hK dX7_totalOf_41 rfl 2 rfl rfl ?_
            refine J_get hK fo_RX7_51 dX7_totalOf_42 rfl 4 0 rfl rfl rfl ?_
            refine J_iload hK dX7_totalOf_45 rfl 4 rfl ?_
            obtain ⟨q34, eq34, hs14⟩ := bs hs14
            refine J_aald hK dX7_totalOf_47 rfl 4 13 rfl rfl rfl eq34 ?_
            refine J_iconst (v := 3) hK dX7_totalOf_48 rfl (by decide) ?_
            obtain ⟨v35, ev35, hs14⟩ := bs hs14
            refine J_iald hK dX7_totalOf_49 rfl 8 q34 rfl (gridI_at (ck_ok eq34).2.2) ev35 ?_
            refine J_iadd hK dX7_totalOf_50 rfl ?_
            refine J_istore_n (L' := [(3, .int (z15 + v35)), (0, .ref (h0 0)), (1, .int p1), (2, .ref (u1.1 0)), (4, .int z16)]) hK dX7_totalOf_51 rfl rfl (by decide) rfl ?_
            refine J_aload_n hK dX7_totalOf_52 rfl 3 rfl rfl ?_
            refine J_iload hK dX7_totalOf_53 rfl 4 rfl ?_
            obtain ⟨⟨g36, g37, g38, g39⟩, e40, hs14⟩ := bs hs14
            have hs14 := un4 hs14
            refine J_callV (m' := 9) (ce' := 63) (sl' := 1204) (gr := [gMd d h0 a0_kept (some (u1.1 0)) a0_chosen r0_rows r0_line r0_good r0_work x0_shelf x0_rowSort x0_rowSize x0_moved x0_shown x0_tape x0_tapeSize x0_refused x0_lines x0_changes x0_coins x0_goods x0_works x0_years x0_gone x0_spent x0_at x0_token x0_from x0_figures x0_fault x0_numbers x0_statements x0_left x0_far x0_tons x0_way x0_steps x0_met x0_queue x0_totals, gridI d r0_line 20 7 x0_line, gridI d r0_good 8 3 x0_good, gridI d r0_work 7 5 x0_work, gridJ d u1.2.1 8 40 (fun _ _ => 0), gridI d u1.2.2.2.1 8 3 g7]) (gs' := fun _ => [gMd d h0 a0_kept (some (u1.1 0)) a0_chosen r0_rows r0_line r0_good r0_work x0_shelf x0_rowSort x0_rowSize x0_moved x0_shown x0_tape x0_tapeSize x0_refused x0_lines x0_changes x0_coins x0_goods x0_works x0_years x0_gone x0_spent x0_at x0_token x0_from x0_figures x0_fault x0_numbers x0_statements x0_left x0_far x0_tons x0_way x0_steps x0_met x0_queue x0_totals, gridI d r0_line 20 7 x0_line, gridI d r0_good 8 3 x0_good, gridI d r0_work 7 5 x0_work, gMd d u1.1 none none none u1.2.1 u1.2.2.1 u1.2.2.2.1 u1.2.2.2.2 (fun _ => 0) (fun _ => 0) (fun _ => 0) (fun _ => 0) (fun _ => 0) (fun _ => 0) (0) (fun _ => 0) g36 g38 g5 g6 g8 g10 g11 g12 (0) (0) (0) (0) (0) (fun _ => 0) (0) (fun _ => 0) (fun _ => 0) (0) (fun _ => 0) (0) (0) (fun _ => 0) (fun _ => 0), gridJ d u1.2.1 8 40 (fun _ _ => 0), gridI d u1.2.2.1 20 7 g37, gridI d u1.2.2.2.1 8 3 g7, gridI d u1.2.2.2.2 7 5 g39]) (st' := fun _ => []) (st := []) hK dX7_totalOf_55 cv_RX7_296 iv_yX7_does (As := [.int z16]) (kX7_does _ d u1.1 u1.2.1 u1.2.2.1 u1.2.2.2.1 u1.2.2.2.2 none none none (fun _ => 0) (fun _ => 0) (fun _ => 0) (fun _ _ => 0) (fun _ => 0) (fun _ => 0) (fun _ => 0) (0) (fun _ => 0) z17 z18 z19 g5 g6 g7 g8 z20 g10 g11 g12 (0) (0) (0) (0) (0) (fun _ => 0) (0) (fun _ => 0) (fun _ => 0) (0) (fun _ => 0) (0) (0) (fun _ => 0) (fun _ => 0) z16 e40) rfl rfl (Nat.le_of_ble_eq_true rfl) (by decide) 4 0 rfl rfl rfl [4, 6, 8] [0, 1, 2, 3, 5, 7] rfl rfl rfl rfl [0, 1, 2, 3, 6, 4, 7, 5, 8] rfl (fun _ => rfl) (fun _ => rfl) rfl rfl rfl (fun _ => rfl) (fun _ => ?_)
            refine J_iinc (L' := [(4, .int (z16 + 1)), (3, .int (z15 + v35)), (0, .ref (h0 0)), (1, .int p1), (2, .ref (u1.1 0))]) (v := (z16 + 1)) hK dX7_totalOf_58 rfl 4 rfl rfl (by decide) rfl ?_
            refine J_goto hK dX7_totalOf_61 (n := 10) rfl ?_
            exact J_loc [2, 3, 4, 1, 0] rfl (ih14 (z15 + v35) (z16 + 1) g36 g37 g38 g39 (lpc hs14 hr14))
  exact J_loc [3, 4, 2, 1, 0] rfl (lo14 n (0) (0) g2 g3 g4 g9 hl14)


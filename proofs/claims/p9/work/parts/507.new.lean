
set_option maxHeartbeats 4000000 in
set_option maxRecDepth 100000 in
theorem kX7_firstNt (l : Launch) (d : DT) (h0 : Nat → Nat) (r0_rows : Nat → Nat) (r0_line : Nat → Nat) (r0_good : Nat → Nat) (r0_work : Nat → Nat) (a0_kept : Option Nat) (a0_chosen : Option Nat) (n : Nat) (x0_shelf : (Nat → Int32)) (x0_rowSort : (Nat → Int32)) (x0_rowSize : (Nat → Int32)) (x0_rows : (Nat → Nat → Int64)) (x0_moved : (Nat → Int64)) (x0_shown : (Nat → Int32)) (x0_tape : (Nat → Int32)) (x0_tapeSize : Int32) (x0_refused : (Nat → Int32)) (x0_lines : Int32) (x0_line : (Nat → Nat → Int32)) (x0_changes : (Nat → Int32)) (x0_coins : (Nat → Int32)) (x0_goods : Int32) (x0_good : (Nat → Nat → Int32)) (x0_works : Int32) (x0_work : (Nat → Nat → Int32)) (x0_years : Int32) (x0_gone : Int32) (x0_spent : Int32) (x0_at : Int32) (x0_token : Int32) (x0_from : Int32) (x0_figures : Int64) (x0_fault : Int32) (x0_numbers : (Nat → Int32)) (x0_statements : Int32) (x0_left : (Nat → Int32)) (x0_far : (Nat → Int32)) (x0_tons : Int32) (x0_way : (Nat → Int32)) (x0_steps : Int32) (x0_met : Int64) (x0_queue : (Nat → Int32)) (x0_totals : (Nat → Int32))  {out : Int32 × (Int32 × (Nat → Nat → Int32) × (Nat → Int32) × (Nat → Int32) × Int32 × (Nat → Nat → Int32) × Int32 × (Nat → Nat → Int32) × Int32 × Int32 × Int32 × (Nat → Int32) × (Nat → Int32) × Int32)} (hf : fX7_first n (x0_shelf, x0_rowSort, x0_rowSize, x0_rows, x0_moved, x0_shown, x0_tape, x0_tapeSize, x0_refused, x0_lines, x0_line, x0_changes, x0_coins, x0_goods, x0_good, x0_works, x0_work, x0_years, x0_gone, x0_spent, x0_at, x0_token, x0_from, x0_figures, x0_fault, x0_numbers, x0_statements, x0_left, x0_far, x0_tons, x0_way, x0_steps, x0_met, x0_queue, x0_totals) ((fun _ => 0), (fun _ => 0), (fun _ => 0), (fun _ _ => 0), (fun _ => 0), (fun _ => 0), (fun _ => 0), 0, (fun _ => 0), 0, (fun _ _ => 0), (fillV 12 9 (fun _ => 0)), (va_up (va_up (va_up (fun _ => 0) 0 1) 1 1) 2 1), 0, (fun _ _ => 0), 0, (fun _ _ => 0), 10, 0, 0, 0, 0, 0, 0, 0, (fun _ => 0), 0, (fun _ => 0), (fun _ => 0), 0, (fun _ => 0), 0, 0, (fun _ => 0), (fun _ => 0)) = some out) : Ct l d yX7_first cX7_first 5 (some .int) { frames := 6, cells := 63, slots := 1204, locals := 129 } [.ref (h0 0)] [gMd d h0 a0_kept none a0_chosen r0_rows r0_line r0_good r0_work x0_shelf x0_rowSort x0_rowSize x0_moved x0_shown x0_tape x0_tapeSize x0_refused x0_lines x0_changes x0_coins x0_goods x0_works x0_years x0_gone x0_spent x0_at x0_token x0_from x0_figures x0_fault x0_numbers x0_statements x0_left x0_far x0_tons x0_way x0_steps x0_met x0_queue x0_totals, gridI d r0_line 20 7 x0_line, gridI d r0_good 8 3 x0_good, gridI d r0_work 7 5 x0_work] (fun u : {q : Option AdM // q = none → ((fun _ => 0), (fun _ => 0), (fun _ => 0), (fun _ _ => 0), (fun _ => 0), (fun _ => 0), (fun _ => 0), 0, (fun _ => 0), out.2.1, out.2.2.1, out.2.2.2.1, out.2.2.2.2.1, out.2.2.2.2.2.1, out.2.2.2.2.2.2.1, out.2.2.2.2.2.2.2.1, out.2.2.2.2.2.2.2.2.1, out.2.2.2.2.2.2.2.2.2.1, out.2.2.2.2.2.2.2.2.2.2.1, out.2.2.2.2.2.2.2.2.2.2.2.1, 0, 0, 0, 0, 0, (fun _ => 0), 0, out.2.2.2.2.2.2.2.2.2.2.2.2.1, out.2.2.2.2.2.2.2.2.2.2.2.2.2.1, out.2.2.2.2.2.2.2.2.2.2.2.2.2.2, (fun _ => 0), 0, 0, (fun _ => 0), (fun _ => 0)) = M0} => (some (.int out.1), [gMd d h0 a0_kept (bs_ u.1) a0_chosen r0_rows r0_line r0_good r0_work x0_shelf x0_rowSort x0_rowSize x0_moved x0_shown x0_tape x0_tapeSize x0_refused x0_lines x0_changes x0_coins x0_goods x0_works x0_years x0_gone x0_spent x0_at x0_token x0_from x0_figures x0_fault x0_numbers x0_statements x0_left x0_far x0_tons x0_way x0_steps x0_met x0_queue x0_totals, gridI d r0_line 20 7 x0_line, gridI d r0_good 8 3 x0_good, gridI d r0_work 7 5 x0_work, oMd d (u.1) none none none (fun _ => 0) (fun _ => 0) (fun _ => 0) (fun _ _ => 0) (fun _ => 0) (fun _ => 0) (fun _ => 0) (0) (fun _ => 0) (out.2.1) (out.2.2.1) (out.2.2.2.1) (out.2.2.2.2.1) (out.2.2.2.2.2.1) (out.2.2.2.2.2.2.1) (out.2.2.2.2.2.2.2.1) (out.2.2.2.2.2.2.2.2.1) (out.2.2.2.2.2.2.2.2.2.1) (out.2.2.2.2.2.2.2.2.2.2.1) (out.2.2.2.2.2.2.2.2.2.2.2.1) (0) (0) (0) (0) (0) (fun _ => 0) (0) (out.2.2.2.2.2.2.2.2.2.2.2.2.1) (out.2.2.2.2.2.2.2.2.2.2.2.2.2.1) (out.2.2.2.2.2.2.2.2.2.2.2.2.2.2) (fun _ => 0) (0) (0) (fun _ => 0) (fun _ => 0)])) := by
  refine Ct.of (by decide) (Nat.le_of_ble_eq_true rfl) ?_
  intro Φ hl hK hR
  subst hl
  have hK : Ok d Φ RX7 "first" cX7_first 5 (some .int) { frames := 6, cells := 63, slots := 1204, locals := 129 } := hK
  unfold fX7_first at hf
  have hf := un35 hf
  have hf := un35 hf
  show J d Φ 5 [gMd d h0 a0_kept none a0_chosen r0_rows r0_line r0_good r0_work x0_shelf x0_rowSort x0_rowSize x0_moved x0_shown x0_tape x0_tapeSize x0_refused x0_lines x0_changes x0_coins x0_goods x0_works x0_years x0_gone x0_spent x0_at x0_token x0_from x0_figures x0_fault x0_numbers x0_statements x0_left x0_far x0_tons x0_way x0_steps x0_met x0_queue x0_totals, gridI d r0_line 20 7 x0_line, gridI d r0_good 8 3 x0_good, gridI d r0_work 7 5 x0_work] 0 0 0 [(0, .ref (h0 0))] []
  refine J_iconst (v := (-1)) hK dX7_first_0 rfl (by decide) ?_
  refine J_istore_n (L' := [(1, .int (-1)), (0, .ref (h0 0))]) hK dX7_first_1 rfl rfl (by decide) rfl ?_
  refine J_iconst (v := 0) hK dX7_first_2 rfl (by decide) ?_
  refine J_istore_n (L' := [(2, .int (0)), (1, .int (-1)), (0, .ref (h0 0))]) hK dX7_first_3 rfl rfl (by decide) rfl ?_
  refine J_iconst (v := 0) hK dX7_first_4 rfl (by decide) ?_
  refine J_istore_n (L' := [(3, .int (0)), (2, .int (0)), (1, .int (-1)), (0, .ref (h0 0))]) hK dX7_first_5 rfl rfl (by decide) rfl ?_
  obtain ⟨e19, hl1, hf⟩ := bs hf
  have hx1_53P : ∀ (uL0 : AdM) (w20 : Int32) (w21 : Int32) (w22 : (Nat → Nat → Int32)) (w23 : (Nat → Int32)) (w24 : (Nat → Int32)) (w25 : Int32) (w26 : (Nat → Nat → Int32)) (w27 : Int32) (w28 : (Nat → Nat → Int32)) (w29 : Int32) (w30 : Int32) (w31 : Int32) (w32 : (Nat → Int32)) (w33 : (Nat → Int32)) (w34 : Int32), (w20, w21, w22, w23, w24, w25, w26, w27, w28, w29, w30, w31, w32, w33, w34) = e19 → J d Φ 5 [gMd d h0 a0_kept (some (uL0.1 0)) a0_chosen r0_rows r0_line r0_good r0_work x0_shelf x0_rowSort x0_rowSize x0_moved x0_shown x0_tape x0_tapeSize x0_refused x0_lines x0_changes x0_coins x0_goods x0_works x0_years x0_gone x0_spent x0_at x0_token x0_from x0_figures x0_fault x0_numbers x0_statements x0_left x0_far x0_tons x0_way x0_steps x0_met x0_queue x0_totals, gridI d r0_line 20 7 x0_line, gridI d r0_good 8 3 x0_good, gridI d r0_work 7 5 x0_work, gMd d uL0.1 none none none uL0.2.1 uL0.2.2.1 uL0.2.2.2.1 uL0.2.2.2.2 (fun _ => 0) (fun _ => 0) (fun _ => 0) (fun _ => 0) (fun _ => 0) (fun _ => 0) (0) (fun _ => 0) w21 w23 w24 w25 w27 w29 w30 w31 (0) (0) (0) (0) (0) (fun _ => 0) (0) w32 w33 w34 (fun _ => 0) (0) (0) (fun _ => 0) (fun _ => 0), gridJ d uL0.2.1 8 40 (fun _ _ => 0), gridI d uL0.2.2.1 20 7 w22, gridI d uL0.2.2.2.1 8 3 w26, gridI d uL0.2.2.2.2 7 5 w28] 63 1204 53 [(1, .int w20)] [] := by
    intro uL0 w20 w21 w22 w23 w24 w25 w26 w27 w28 w29 w30 w31 w32 w33 w34 he
    rw [← he] at hf
    have hf := un15 hf
    refine J_iload_n hK dX7_first_53 rfl 0 rfl rfl ?_
    obtain rfl := Option.some.inj hf
    refine J_close (l := sMd d uL0 none none none (fun _ => 0) (fun _ => 0) (fun _ => 0) (fun _ _ => 0) (fun _ => 0) (fun _ => 0) (fun _ => 0) (0) (fun _ => 0) w21 w22 w23 w24 w25 w26 w27 w28 w29 w30 w31 (0) (0) (0) (0) (0) (fun _ => 0) (0) w32 w33 w34 (fun _ => 0) (0) (0) (fun _ => 0) (fun _ => 0)) (gs2 := [gMd d h0 a0_kept (some (uL0.1 0)) a0_chosen r0_rows r0_line r0_good r0_work x0_shelf x0_rowSort x0_rowSize x0_moved x0_shown x0_tape x0_tapeSize x0_refused x0_lines x0_changes x0_coins x0_goods x0_works x0_years x0_gone x0_spent x0_at x0_token x0_from x0_figures x0_fault x0_numbers x0_statements x0_left x0_far x0_tons x0_way x0_steps x0_met x0_queue x0_totals, gridI d r0_line 20 7 x0_line, gridI d r0_good 8 3 x0_good, gridI d r0_work 7 5 x0_work, oMd d (some uL0) none none none (fun _ => 0) (fun _ => 0) (fun _ => 0) (fun _ _ => 0) (fun _ => 0) (fun _ => 0) (fun _ => 0) (0) (fun _ => 0) w21 w22 w23 w24 w25 w26 w27 w28 w29 w30 w31 (0) (0) (0) (0) (0) (fun _ => 0) (0) w32 w33 w34 (fun _ => 0) (0) (0) (fun _ => 0) (fun _ => 0)]) 4 rfl rfl ?_
    exact J_iret hK hR dX7_first_54 ⟨some uL0, fun h => by cases h⟩ rfl (by decide) (by decide)
  have lo1P : ∀ (k : Nat) (uL0 : AdM) (z2 : Int32) (z3 : Int32) (z4 : Int32) (z5 : Int32) (z6 : (Nat → Nat → Int32)) (z7 : (Nat → Int32)) (z8 : (Nat → Int32)) (z9 : Int32) (z10 : (Nat → Nat → Int32)) (z11 : Int32) (z12 : (Nat → Nat → Int32)) (z13 : Int32) (z14 : Int32) (z15 : Int32) (z16 : (Nat → Int32)) (z17 : (Nat → Int32)) (z18 : Int32), lp (u17 (fX7_first_s6 n x0_shelf x0_rowSort x0_rowSize x0_rows x0_moved x0_shown x0_tape x0_tapeSize x0_refused x0_lines x0_line x0_changes x0_coins x0_goods x0_good x0_works x0_work x0_years x0_gone x0_spent x0_at x0_token x0_from x0_figures x0_fault x0_numbers x0_statements x0_left x0_far x0_tons x0_way x0_steps x0_met x0_queue x0_totals (fun _ => 0) (fun _ => 0) (fun _ => 0) (fun _ _ => 0) (fun _ => 0) (fun _ => 0) (fun _ => 0) (0) (fun _ => 0) (0) (0) (0) (0) (0) (fun _ => 0) (0) (fun _ => 0) (0) (0) (fun _ => 0) (fun _ => 0))) k (z2, z3, z4, z5, z6, z7, z8, z9, z10, z11, z12, z13, z14, z15, z16, z17, z18) = some e19 → J d Φ 5 [gMd d h0 a0_kept (some (uL0.1 0)) a0_chosen r0_rows r0_line r0_good r0_work x0_shelf x0_rowSort x0_rowSize x0_moved x0_shown x0_tape x0_tapeSize x0_refused x0_lines x0_changes x0_coins x0_goods x0_works x0_years x0_gone x0_spent x0_at x0_token x0_from x0_figures x0_fault x0_numbers x0_statements x0_left x0_far x0_tons x0_way x0_steps x0_met x0_queue x0_totals, gridI d r0_line 20 7 x0_line, gridI d r0_good 8 3 x0_good, gridI d r0_work 7 5 x0_work, gMd d uL0.1 none none none uL0.2.1 uL0.2.2.1 uL0.2.2.2.1 uL0.2.2.2.2 (fun _ => 0) (fun _ => 0) (fun _ => 0) (fun _ => 0) (fun _ => 0) (fun _ => 0) (0) (fun _ => 0) z5 z7 z8 z9 z11 z13 z14 z15 (0) (0) (0) (0) (0) (fun _ => 0) (0) z16 z17 z18 (fun _ => 0) (0) (0) (fun _ => 0) (fun _ => 0), gridJ d uL0.2.1 8 40 (fun _ _ => 0), gridI d uL0.2.2.1 20 7 z6, gridI d uL0.2.2.2.1 8 3 z10, gridI d uL0.2.2.2.2 7 5 z12] 63 1204 6 [(0, .ref (h0 0)), (1, .int z2), (2, .int z3), (3, .int z4)] [] := by
    intro k
    induction k with
    | zero => intro uL0 z2 z3 z4 z5 z6 z7 z8 z9 z10 z11 z12 z13 z14 z15 z16 z17 z18 h; cases h
    | succ k ih1P =>
      intro uL0 z2 z3 z4 z5 z6 z7 z8 z9 z10 z11 z12 z13 z14 z15 z16 z17 z18 h
      obtain ⟨k2, rr1, hk2, hs1, hr1⟩ := lp_ok h
      cases hk2
      have hs1 : fX7_first_s6 n x0_shelf x0_rowSort x0_rowSize x0_rows x0_moved x0_shown x0_tape x0_tapeSize x0_refused x0_lines x0_line x0_changes x0_coins x0_goods x0_good x0_works x0_work x0_years x0_gone x0_spent x0_at x0_token x0_from x0_figures x0_fault x0_numbers x0_statements x0_left x0_far x0_tons x0_way x0_steps x0_met x0_queue x0_totals (fun _ => 0) (fun _ => 0) (fun _ => 0) (fun _ _ => 0) (fun _ => 0) (fun _ => 0) (fun _ => 0) (0) (fun _ => 0) (0) (0) (0) (0) (0) (fun _ => 0) (0) (fun _ => 0) (0) (0) (fun _ => 0) (fun _ => 0) z2 z3 z4 z5 z6 z7 z8 z9 z10 z11 z12 z13 z14 z15 z16 z17 z18 = some rr1 := hs1
      unfold fX7_first_s6 at hs1
      refine J_iload_n hK dX7_first_6 rfl 3 rfl rfl ?_
      refine J_aload_n hK dX7_first_7 rfl 0 rfl rfl ?_
      refine J_get hK fo_RX7_85 dX7_first_8 rfl 0 0 rfl rfl rfl ?_
      refine J_icmp_ge (tg := 53) hK dX7_first_11 rfl rfl (fun hc11 => ?_) (fun hc11 => ?_)
      · have hs1 := ip hc11 hs1
        exact J_loc [1] rfl (hx1_53P uL0 z2 z5 z6 z7 z8 z9 z10 z11 z12 z13 z14 z15 z16 z17 z18 (lpx hs1 hr1))
      · have hs1 := iq hc11 hs1
        refine J_aload_n hK dX7_first_14 rfl 0 rfl rfl ?_
        refine J_get hK fo_RX7_51 dX7_first_15 rfl 0 0 rfl rfl rfl ?_
        refine J_iload_n hK dX7_first_18 rfl 3 rfl rfl ?_
        obtain ⟨q35, eq35, hs1⟩ := bs hs1
        refine J_aald hK dX7_first_19 rfl 0 13 rfl rfl rfl eq35 ?_
        refine J_iconst (v := 4) hK dX7_first_20 rfl (by decide) ?_
        obtain ⟨v36, ev36, hs1⟩ := bs hs1
        refine J_iald hK dX7_first_21 rfl 3 q35 rfl (gridI_at (ck_ok eq35).2.2) ev36 ?_
        refine J_if_ne (tg := 33) hK dX7_first_22 rfl rfl (fun hc22 => ?_) (fun hc22 => ?_)
        · have hs1 := iq hc22 hs1
          refine J_iconst (v := 0) hK dX7_first_33 rfl (by decide) ?_
          unfold fX7_first_j34 at hs1
          refine J_istore (L' := [(4, .int (0)), (0, .ref (h0 0)), (1, .int z2), (2, .int z3), (3, .int z4)]) hK dX7_first_34 rfl (by decide) rfl ?_
          refine J_iload hK dX7_first_36 rfl 0 rfl ?_
          refine J_iload_n hK dX7_first_38 rfl 3 rfl rfl ?_
          refine J_icmp_le (tg := 47) hK dX7_first_39 rfl rfl (fun hc39 => ?_) (fun hc39 => ?_)
          · have hs1 := ip hc39 hs1
            refine J_iinc (L' := [(3, .int (z4 + 1)), (4, .int (0)), (0, .ref (h0 0)), (1, .int z2), (2, .int z3)]) (v := (z4 + 1)) hK dX7_first_47 rfl 4 rfl rfl (by decide) rfl ?_
            refine J_goto hK dX7_first_50 (n := 6) rfl ?_
            exact J_loc [2, 3, 4, 0] rfl (ih1P uL0 z2 z3 (z4 + 1) z5 z6 z7 z8 z9 z10 z11 z12 z13 z14 z15 z16 z17 z18 (lpc hs1 hr1))
          · have hs1 := iq hc39 hs1
            refine J_iload_n hK dX7_first_42 rfl 4 rfl rfl ?_
            refine J_istore_n (L' := [(1, .int z4), (4, .int (0)), (0, .ref (h0 0)), (2, .int z3), (3, .int z4)]) hK dX7_first_43 rfl rfl (by decide) rfl ?_
            refine J_iload hK dX7_first_44 rfl 1 rfl ?_
            refine J_istore_n (L' := [(2, .int (0)), (1, .int z4), (4, .int (0)), (0, .ref (h0 0)), (3, .int z4)]) hK dX7_first_46 rfl rfl (by decide) rfl ?_
            refine J_iinc (L' := [(3, .int (z4 + 1)), (2, .int (0)), (1, .int z4), (4, .int (0)), (0, .ref (h0 0))]) (v := (z4 + 1)) hK dX7_first_47 rfl 4 rfl rfl (by decide) rfl ?_
            refine J_goto hK dX7_first_50 (n := 6) rfl ?_
            exact J_loc [4, 2, 1, 0] rfl (ih1P uL0 z4 (0) (z4 + 1) z5 z6 z7 z8 z9 z10 z11 z12 z13 z14 z15 z16 z17 z18 (lpc hs1 hr1))
        · have hs1 := ip hc22 hs1
          refine J_aload_n hK dX7_first_25 rfl 0 rfl rfl ?_
          refine J_iload_n hK dX7_first_26 rfl 3 rfl rfl ?_
          obtain ⟨⟨v37, ⟨g39, g40, g41, g42, g43, g44, g45, g46, g47, g48, g49, g50, g51, g52⟩⟩, e53, hs1⟩ := bs hs1
          have hs1 := un2 hs1
          have hs1 := un14 hs1
          refine J_callV (m' := 9) (ce' := 63) (sl' := 1204) (gr := [gridJ d uL0.2.1 8 40 (fun _ _ => 0)]) (gs' := fun _ => [gMd d h0 a0_kept (some (uL0.1 0)) a0_chosen r0_rows r0_line r0_good r0_work x0_shelf x0_rowSort x0_rowSize x0_moved x0_shown x0_tape x0_tapeSize x0_refused x0_lines x0_changes x0_coins x0_goods x0_works x0_years x0_gone x0_spent x0_at x0_token x0_from x0_figures x0_fault x0_numbers x0_statements x0_left x0_far x0_tons x0_way x0_steps x0_met x0_queue x0_totals, gridI d r0_line 20 7 x0_line, gridI d r0_good 8 3 x0_good, gridI d r0_work 7 5 x0_work, gMd d uL0.1 none none none uL0.2.1 uL0.2.2.1 uL0.2.2.2.1 uL0.2.2.2.2 (fun _ => 0) (fun _ => 0) (fun _ => 0) (fun _ => 0) (fun _ => 0) (fun _ => 0) (0) (fun _ => 0) g39 g41 g42 g43 g45 g47 g48 g49 (0) (0) (0) (0) (0) (fun _ => 0) (0) g50 g51 g52 (fun _ => 0) (0) (0) (fun _ => 0) (fun _ => 0), gridJ d uL0.2.1 8 40 (fun _ _ => 0), gridI d uL0.2.2.1 20 7 g40, gridI d uL0.2.2.2.1 8 3 g44, gridI d uL0.2.2.2.2 7 5 g46]) (st' := fun _ => [.int v37]) (st := []) hK dX7_first_27 cv_RX7_307 iv_yX7_worthOf (As := [.int z4]) (kX7_worthOf _ d h0 r0_rows r0_line r0_good r0_work a0_kept a0_chosen uL0.1 uL0.2.1 uL0.2.2.1 uL0.2.2.2.1 uL0.2.2.2.2 none none none n x0_shelf x0_rowSort x0_rowSize x0_rows x0_moved x0_shown x0_tape x0_tapeSize x0_refused x0_lines x0_line x0_changes x0_coins x0_goods x0_good x0_works x0_work x0_years x0_gone x0_spent x0_at x0_token x0_from x0_figures x0_fault x0_numbers x0_statements x0_left x0_far x0_tons x0_way x0_steps x0_met x0_queue x0_totals (fun _ => 0) (fun _ => 0) (fun _ => 0) (fun _ _ => 0) (fun _ => 0) (fun _ => 0) (fun _ => 0) (0) (fun _ => 0) z5 z6 z7 z8 z9 z10 z11 z12 z13 z14 z15 (0) (0) (0) (0) (0) (fun _ => 0) (0) z16 z17 z18 (fun _ => 0) (0) (0) (fun _ => 0) (fun _ => 0) z4 e53) rfl rfl (Nat.le_of_ble_eq_true rfl) (by decide) 0 0 rfl rfl rfl [0, 1, 2, 3, 4, 6, 7, 8] [5] rfl rfl rfl rfl [1, 2, 3, 4, 5, 0, 6, 7, 8] rfl (fun _ => rfl) (fun _ => rfl) rfl rfl rfl (fun _ => rfl) (fun _ => ?_)
          refine J_goto hK dX7_first_30 (n := 34) rfl ?_
          unfold fX7_first_j34 at hs1
          refine J_istore (L' := [(4, .int v37), (0, .ref (h0 0)), (1, .int z2), (2, .int z3), (3, .int z4)]) hK dX7_first_34 rfl (by decide) rfl ?_
          refine J_iload hK dX7_first_36 rfl 0 rfl ?_
          refine J_iload_n hK dX7_first_38 rfl 3 rfl rfl ?_
          refine J_icmp_le (tg := 47) hK dX7_first_39 rfl rfl (fun hc39 => ?_) (fun hc39 => ?_)
          · have hs1 := ip hc39 hs1
            refine J_iinc (L' := [(3, .int (z4 + 1)), (4, .int v37), (0, .ref (h0 0)), (1, .int z2), (2, .int z3)]) (v := (z4 + 1)) hK dX7_first_47 rfl 4 rfl rfl (by decide) rfl ?_
            refine J_goto hK dX7_first_50 (n := 6) rfl ?_
            exact J_loc [2, 3, 4, 0] rfl (ih1P uL0 z2 z3 (z4 + 1) g39 g40 g41 g42 g43 g44 g45 g46 g47 g48 g49 g50 g51 g52 (lpc hs1 hr1))
          · have hs1 := iq hc39 hs1
            refine J_iload_n hK dX7_first_42 rfl 4 rfl rfl ?_
            refine J_istore_n (L' := [(1, .int z4), (4, .int v37), (0, .ref (h0 0)), (2, .int z3), (3, .int z4)]) hK dX7_first_43 rfl rfl (by decide) rfl ?_
            refine J_iload hK dX7_first_44 rfl 1 rfl ?_
            refine J_istore_n (L' := [(2, .int v37), (1, .int z4), (4, .int v37), (0, .ref (h0 0)), (3, .int z4)]) hK dX7_first_46 rfl rfl (by decide) rfl ?_
            refine J_iinc (L' := [(3, .int (z4 + 1)), (2, .int v37), (1, .int z4), (4, .int v37), (0, .ref (h0 0))]) (v := (z4 + 1)) hK dX7_first_47 rfl 4 rfl rfl (by decide) rfl ?_
            refine J_goto hK dX7_first_50 (n := 6) rfl ?_
            exact J_loc [4, 2, 1, 0] rfl (ih1P uL0 z4 v37 (z4 + 1) g39 g40 g41 g42 g43 g44 g45 g46 g47 g48 g49 g50 g51 g52 (lpc hs1 hr1))
  have hx1_53N : ∀ (w20 : Int32), (w20, 0, (fun _ _ => 0), (fillV 12 9 (fun _ => 0)), (va_up (va_up (va_up (fun _ => 0) 0 1) 1 1) 2 1), 0, (fun _ _ => 0), 0, (fun _ _ => 0), 10, 0, 0, (fun _ => 0), (fun _ => 0), 0) = e19 → J d Φ 5 [gMd d h0 a0_kept none a0_chosen r0_rows r0_line r0_good r0_work x0_shelf x0_rowSort x0_rowSize x0_moved x0_shown x0_tape x0_tapeSize x0_refused x0_lines x0_changes x0_coins x0_goods x0_works x0_years x0_gone x0_spent x0_at x0_token x0_from x0_figures x0_fault x0_numbers x0_statements x0_left x0_far x0_tons x0_way x0_steps x0_met x0_queue x0_totals, gridI d r0_line 20 7 x0_line, gridI d r0_good 8 3 x0_good, gridI d r0_work 7 5 x0_work] 0 0 53 [(1, .int w20)] [] := by
    intro w20 he
    rw [← he] at hf
    have hf := un15 hf
    refine J_iload_n hK dX7_first_53 rfl 0 rfl rfl ?_
    obtain rfl := Option.some.inj hf
    refine J_fl (gs2 := [gMd d h0 a0_kept none a0_chosen r0_rows r0_line r0_good r0_work x0_shelf x0_rowSort x0_rowSize x0_moved x0_shown x0_tape x0_tapeSize x0_refused x0_lines x0_changes x0_coins x0_goods x0_works x0_years x0_gone x0_spent x0_at x0_token x0_from x0_figures x0_fault x0_numbers x0_statements x0_left x0_far x0_tons x0_way x0_steps x0_met x0_queue x0_totals, gridI d r0_line 20 7 x0_line, gridI d r0_good 8 3 x0_good, gridI d r0_work 7 5 x0_work, oMd d none none none none (fun _ => 0) (fun _ => 0) (fun _ => 0) (fun _ _ => 0) (fun _ => 0) (fun _ => 0) (fun _ => 0) (0) (fun _ => 0) (0) (fun _ _ => 0) (fillV 12 9 (fun _ => 0)) (va_up (va_up (va_up (fun _ => 0) 0 1) 1 1) 2 1) (0) (fun _ _ => 0) (0) (fun _ _ => 0) (10) (0) (0) (0) (0) (0) (0) (0) (fun _ => 0) (0) (fun _ => 0) (fun _ => 0) (0) (fun _ => 0) (0) (0) (fun _ => 0) (fun _ => 0)]) rfl ?_
    exact J_iret hK hR dX7_first_54 ⟨none, fun _ => rfl⟩ rfl (by decide) (by decide)
  have lo1N : ∀ (k : Nat) (z2 : Int32) (z3 : Int32) (z4 : Int32), lp (u17 (fX7_first_s6 n x0_shelf x0_rowSort x0_rowSize x0_rows x0_moved x0_shown x0_tape x0_tapeSize x0_refused x0_lines x0_line x0_changes x0_coins x0_goods x0_good x0_works x0_work x0_years x0_gone x0_spent x0_at x0_token x0_from x0_figures x0_fault x0_numbers x0_statements x0_left x0_far x0_tons x0_way x0_steps x0_met x0_queue x0_totals (fun _ => 0) (fun _ => 0) (fun _ => 0) (fun _ _ => 0) (fun _ => 0) (fun _ => 0) (fun _ => 0) (0) (fun _ => 0) (0) (0) (0) (0) (0) (fun _ => 0) (0) (fun _ => 0) (0) (0) (fun _ => 0) (fun _ => 0))) k (z2, z3, z4, 0, (fun _ _ => 0), (fillV 12 9 (fun _ => 0)), (va_up (va_up (va_up (fun _ => 0) 0 1) 1 1) 2 1), 0, (fun _ _ => 0), 0, (fun _ _ => 0), 10, 0, 0, (fun _ => 0), (fun _ => 0), 0) = some e19 → J d Φ 5 [gMd d h0 a0_kept none a0_chosen r0_rows r0_line r0_good r0_work x0_shelf x0_rowSort x0_rowSize x0_moved x0_shown x0_tape x0_tapeSize x0_refused x0_lines x0_changes x0_coins x0_goods x0_works x0_years x0_gone x0_spent x0_at x0_token x0_from x0_figures x0_fault x0_numbers x0_statements x0_left x0_far x0_tons x0_way x0_steps x0_met x0_queue x0_totals, gridI d r0_line 20 7 x0_line, gridI d r0_good 8 3 x0_good, gridI d r0_work 7 5 x0_work] 0 0 6 [(0, .ref (h0 0)), (1, .int z2), (2, .int z3), (3, .int z4)] [] := by
    intro k
    induction k with
    | zero => intro z2 z3 z4 h; cases h
    | succ k ih1N =>
      intro z2 z3 z4 h
      obtain ⟨k2, rr1, hk2, hs1, hr1⟩ := lp_ok h
      cases hk2
      have hs1 : fX7_first_s6 n x0_shelf x0_rowSort x0_rowSize x0_rows x0_moved x0_shown x0_tape x0_tapeSize x0_refused x0_lines x0_line x0_changes x0_coins x0_goods x0_good x0_works x0_work x0_years x0_gone x0_spent x0_at x0_token x0_from x0_figures x0_fault x0_numbers x0_statements x0_left x0_far x0_tons x0_way x0_steps x0_met x0_queue x0_totals (fun _ => 0) (fun _ => 0) (fun _ => 0) (fun _ _ => 0) (fun _ => 0) (fun _ => 0) (fun _ => 0) (0) (fun _ => 0) (0) (0) (0) (0) (0) (fun _ => 0) (0) (fun _ => 0) (0) (0) (fun _ => 0) (fun _ => 0) z2 z3 z4 (0) (fun _ _ => 0) (fillV 12 9 (fun _ => 0)) (va_up (va_up (va_up (fun _ => 0) 0 1) 1 1) 2 1) (0) (fun _ _ => 0) (0) (fun _ _ => 0) (10) (0) (0) (fun _ => 0) (fun _ => 0) (0) = some rr1 := hs1
      unfold fX7_first_s6 at hs1
      refine J_iload_n hK dX7_first_6 rfl 3 rfl rfl ?_
      refine J_aload_n hK dX7_first_7 rfl 0 rfl rfl ?_
      refine J_get hK fo_RX7_85 dX7_first_8 rfl 0 0 rfl rfl rfl ?_
      refine J_icmp_ge (tg := 53) hK dX7_first_11 rfl rfl (fun hc11 => ?_) (fun hc11 => ?_)
      · have hs1 := ip hc11 hs1
        exact J_loc [1] rfl (hx1_53N z2 (lpx hs1 hr1))
      · have hs1 := iq hc11 hs1
        refine J_aload_n hK dX7_first_14 rfl 0 rfl rfl ?_
        refine J_get hK fo_RX7_51 dX7_first_15 rfl 0 0 rfl rfl rfl ?_
        refine J_iload_n hK dX7_first_18 rfl 3 rfl rfl ?_
        obtain ⟨q35, eq35, hs1⟩ := bs hs1
        refine J_aald hK dX7_first_19 rfl 0 13 rfl rfl rfl eq35 ?_
        refine J_iconst (v := 4) hK dX7_first_20 rfl (by decide) ?_
        obtain ⟨v36, ev36, hs1⟩ := bs hs1
        refine J_iald hK dX7_first_21 rfl 3 q35 rfl (gridI_at (ck_ok eq35).2.2) ev36 ?_
        refine J_if_ne (tg := 33) hK dX7_first_22 rfl rfl (fun hc22 => ?_) (fun hc22 => ?_)
        · have hs1 := iq hc22 hs1
          refine J_iconst (v := 0) hK dX7_first_33 rfl (by decide) ?_
          unfold fX7_first_j34 at hs1
          refine J_istore (L' := [(4, .int (0)), (0, .ref (h0 0)), (1, .int z2), (2, .int z3), (3, .int z4)]) hK dX7_first_34 rfl (by decide) rfl ?_
          refine J_iload hK dX7_first_36 rfl 0 rfl ?_
          refine J_iload_n hK dX7_first_38 rfl 3 rfl rfl ?_
          refine J_icmp_le (tg := 47) hK dX7_first_39 rfl rfl (fun hc39 => ?_) (fun hc39 => ?_)
          · have hs1 := ip hc39 hs1
            refine J_iinc (L' := [(3, .int (z4 + 1)), (4, .int (0)), (0, .ref (h0 0)), (1, .int z2), (2, .int z3)]) (v := (z4 + 1)) hK dX7_first_47 rfl 4 rfl rfl (by decide) rfl ?_
            refine J_goto hK dX7_first_50 (n := 6) rfl ?_
            exact J_loc [2, 3, 4, 0] rfl (ih1N z2 z3 (z4 + 1) (lpc hs1 hr1))
          · have hs1 := iq hc39 hs1
            refine J_iload_n hK dX7_first_42 rfl 4 rfl rfl ?_
            refine J_istore_n (L' := [(1, .int z4), (4, .int (0)), (0, .ref (h0 0)), (2, .int z3), (3, .int z4)]) hK dX7_first_43 rfl rfl (by decide) rfl ?_
            refine J_iload hK dX7_first_44 rfl 1 rfl ?_
            refine J_istore_n (L' := [(2, .int (0)), (1, .int z4), (4, .int (0)), (0, .ref (h0 0)), (3, .int z4)]) hK dX7_first_46 rfl rfl (by decide) rfl ?_
            refine J_iinc (L' := [(3, .int (z4 + 1)), (2, .int (0)), (1, .int z4), (4, .int (0)), (0, .ref (h0 0))]) (v := (z4 + 1)) hK dX7_first_47 rfl 4 rfl rfl (by decide) rfl ?_
            refine J_goto hK dX7_first_50 (n := 6) rfl ?_
            exact J_loc [4, 2, 1, 0] rfl (ih1N z4 (0) (z4 + 1) (lpc hs1 hr1))
        · have hs1 := ip hc22 hs1
          refine J_aload_n hK dX7_first_25 rfl 0 rfl rfl ?_
          refine J_iload_n hK dX7_first_26 rfl 3 rfl rfl ?_
          obtain ⟨⟨v37, ⟨g39, g40, g41, g42, g43, g44, g45, g46, g47, g48, g49, g50, g51, g52⟩⟩, e53, hs1⟩ := bs hs1
          have hs1 := un2 hs1
          have hs1 := un14 hs1
          refine J_callV (m' := 9) (ce' := 63) (sl' := 1204) (gr := []) (gs' := fun u1 => [gMd d h0 a0_kept (some (u1.1 0)) a0_chosen r0_rows r0_line r0_good r0_work x0_shelf x0_rowSort x0_rowSize x0_moved x0_shown x0_tape x0_tapeSize x0_refused x0_lines x0_changes x0_coins x0_goods x0_works x0_years x0_gone x0_spent x0_at x0_token x0_from x0_figures x0_fault x0_numbers x0_statements x0_left x0_far x0_tons x0_way x0_steps x0_met x0_queue x0_totals, gridI d r0_line 20 7 x0_line, gridI d r0_good 8 3 x0_good, gridI d r0_work 7 5 x0_work, gMd d u1.1 none none none u1.2.1 u1.2.2.1 u1.2.2.2.1 u1.2.2.2.2 (fun _ => 0) (fun _ => 0) (fun _ => 0) (fun _ => 0) (fun _ => 0) (fun _ => 0) (0) (fun _ => 0) g39 g41 g42 g43 g45 g47 g48 g49 (0) (0) (0) (0) (0) (fun _ => 0) (0) g50 g51 g52 (fun _ => 0) (0) (0) (fun _ => 0) (fun _ => 0), gridJ d u1.2.1 8 40 (fun _ _ => 0), gridI d u1.2.2.1 20 7 g40, gridI d u1.2.2.2.1 8 3 g44, gridI d u1.2.2.2.2 7 5 g46]) (st' := fun u1 => [.int v37]) (st := []) hK dX7_first_27 cv_RX7_307 iv_yX7_worthOf (As := [.int z4]) (kX7_worthOfNt _ d h0 r0_rows r0_line r0_good r0_work a0_kept a0_chosen n x0_shelf x0_rowSort x0_rowSize x0_rows x0_moved x0_shown x0_tape x0_tapeSize x0_refused x0_lines x0_line x0_changes x0_coins x0_goods x0_good x0_works x0_work x0_years x0_gone x0_spent x0_at x0_token x0_from x0_figures x0_fault x0_numbers x0_statements x0_left x0_far x0_tons x0_way x0_steps x0_met x0_queue x0_totals z4 e53) rfl rfl (Nat.le_of_ble_eq_true rfl) (by decide) 0 0 rfl rfl rfl [0, 1, 2, 3] [] rfl rfl rfl rfl [0, 1, 2, 3, 4, 5, 6, 7, 8] rfl (fun _ => rfl) (fun _ => rfl) rfl rfl rfl (fun _ => rfl) (fun u1 => ?_)
          refine J_goto hK dX7_first_30 (n := 34) rfl ?_
          unfold fX7_first_j34 at hs1
          refine J_istore (L' := [(4, .int v37), (0, .ref (h0 0)), (1, .int z2), (2, .int z3), (3, .int z4)]) hK dX7_first_34 rfl (by decide) rfl ?_
          refine J_iload hK dX7_first_36 rfl 0 rfl ?_
          refine J_iload_n hK dX7_first_38 rfl 3 rfl rfl ?_
          refine J_icmp_le (tg := 47) hK dX7_first_39 rfl rfl (fun hc39 => ?_) (fun hc39 => ?_)
          · have hs1 := ip hc39 hs1
            refine J_iinc (L' := [(3, .int (z4 + 1)), (4, .int v37), (0, .ref (h0 0)), (1, .int z2), (2, .int z3)]) (v := (z4 + 1)) hK dX7_first_47 rfl 4 rfl rfl (by decide) rfl ?_
            refine J_goto hK dX7_first_50 (n := 6) rfl ?_
            exact J_loc [2, 3, 4, 0] rfl (lo1P k u1 z2 z3 (z4 + 1) g39 g40 g41 g42 g43 g44 g45 g46 g47 g48 g49 g50 g51 g52 (lpc hs1 hr1))
          · have hs1 := iq hc39 hs1
            refine J_iload_n hK dX7_first_42 rfl 4 rfl rfl ?_
            refine J_istore_n (L' := [(1, .int z4), (4, .int v37), (0, .ref (h0 0)), (2, .int z3), (3, .int z4)]) hK dX7_first_43 rfl rfl (by decide) rfl ?_
            refine J_iload hK dX7_first_44 rfl 1 rfl ?_
            refine J_istore_n (L' := [(2, .int v37), (1, .int z4), (4, .int v37), (0, .ref (h0 0)), (3, .int z4)]) hK dX7_first_46 rfl rfl (by decide) rfl ?_
            refine J_iinc (L' := [(3, .int (z4 + 1)), (2, .int v37), (1, .int z4), (4, .int v37), (0, .ref (h0 0))]) (v := (z4 + 1)) hK dX7_first_47 rfl 4 rfl rfl (by decide) rfl ?_
            refine J_goto hK dX7_first_50 (n := 6) rfl ?_
            exact J_loc [4, 2, 1, 0] rfl (lo1P k u1 z4 v37 (z4 + 1) g39 g40 g41 g42 g43 g44 g45 g46 g47 g48 g49 g50 g51 g52 (lpc hs1 hr1))
  exact J_loc [3, 2, 1, 0] rfl (lo1N n (-1) (0) (0) hl1)


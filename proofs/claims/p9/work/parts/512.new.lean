
set_option maxHeartbeats 4000000 in
set_option maxRecDepth 100000 in
theorem kX7_oneWidthNt (l : Launch) (d : DT) (h0 : Nat → Nat) (r0_rows : Nat → Nat) (r0_line : Nat → Nat) (r0_good : Nat → Nat) (r0_work : Nat → Nat) (a0_kept : Option Nat) (a0_chosen : Option Nat) (n : Nat) (x0_shelf : (Nat → Int32)) (x0_rowSort : (Nat → Int32)) (x0_rowSize : (Nat → Int32)) (x0_rows : (Nat → Nat → Int64)) (x0_moved : (Nat → Int64)) (x0_shown : (Nat → Int32)) (x0_tape : (Nat → Int32)) (x0_tapeSize : Int32) (x0_refused : (Nat → Int32)) (x0_lines : Int32) (x0_line : (Nat → Nat → Int32)) (x0_changes : (Nat → Int32)) (x0_coins : (Nat → Int32)) (x0_goods : Int32) (x0_good : (Nat → Nat → Int32)) (x0_works : Int32) (x0_work : (Nat → Nat → Int32)) (x0_years : Int32) (x0_gone : Int32) (x0_spent : Int32) (x0_at : Int32) (x0_token : Int32) (x0_from : Int32) (x0_figures : Int64) (x0_fault : Int32) (x0_numbers : (Nat → Int32)) (x0_statements : Int32) (x0_left : (Nat → Int32)) (x0_far : (Nat → Int32)) (x0_tons : Int32) (x0_way : (Nat → Int32)) (x0_steps : Int32) (x0_met : Int64) (x0_queue : (Nat → Int32)) (x0_totals : (Nat → Int32)) (p1 : Int32) (p2 : Int32)  {out : Int32 × (Int32 × (Nat → Nat → Int32) × (Nat → Int32) × (Nat → Int32) × Int32 × (Nat → Nat → Int32) × Int32 × (Nat → Nat → Int32) × Int32 × Int32 × Int32 × (Nat → Int32) × (Nat → Int32) × Int32)} (hf : fX7_oneWidth n (x0_shelf, x0_rowSort, x0_rowSize, x0_rows, x0_moved, x0_shown, x0_tape, x0_tapeSize, x0_refused, x0_lines, x0_line, x0_changes, x0_coins, x0_goods, x0_good, x0_works, x0_work, x0_years, x0_gone, x0_spent, x0_at, x0_token, x0_from, x0_figures, x0_fault, x0_numbers, x0_statements, x0_left, x0_far, x0_tons, x0_way, x0_steps, x0_met, x0_queue, x0_totals) ((fun _ => 0), (fun _ => 0), (fun _ => 0), (fun _ _ => 0), (fun _ => 0), (fun _ => 0), (fun _ => 0), 0, (fun _ => 0), 0, (fun _ _ => 0), (fillV 12 9 (fun _ => 0)), (va_up (va_up (va_up (fun _ => 0) 0 1) 1 1) 2 1), 0, (fun _ _ => 0), 0, (fun _ _ => 0), 10, 0, 0, 0, 0, 0, 0, 0, (fun _ => 0), 0, (fun _ => 0), (fun _ => 0), 0, (fun _ => 0), 0, 0, (fun _ => 0), (fun _ => 0)) p1 p2 = some out) : Ct l d yX7_oneWidth cX7_oneWidth 6 (some .int) { frames := 4, cells := 63, slots := 1204, locals := 85 } [.ref (h0 0), .int p1, .int p2] [gMd d h0 a0_kept none a0_chosen r0_rows r0_line r0_good r0_work x0_shelf x0_rowSort x0_rowSize x0_moved x0_shown x0_tape x0_tapeSize x0_refused x0_lines x0_changes x0_coins x0_goods x0_works x0_years x0_gone x0_spent x0_at x0_token x0_from x0_figures x0_fault x0_numbers x0_statements x0_left x0_far x0_tons x0_way x0_steps x0_met x0_queue x0_totals, gridI d r0_line 20 7 x0_line, gridI d r0_good 8 3 x0_good, gridI d r0_work 7 5 x0_work] (fun u : AdM => (some (.int out.1), [gMd d h0 a0_kept (some (u.1 0)) a0_chosen r0_rows r0_line r0_good r0_work x0_shelf x0_rowSort x0_rowSize x0_moved x0_shown x0_tape x0_tapeSize x0_refused x0_lines x0_changes x0_coins x0_goods x0_works x0_years x0_gone x0_spent x0_at x0_token x0_from x0_figures x0_fault x0_numbers x0_statements x0_left x0_far x0_tons x0_way x0_steps x0_met x0_queue x0_totals, gridI d r0_line 20 7 x0_line, gridI d r0_good 8 3 x0_good, gridI d r0_work 7 5 x0_work, gMd d u.1 none none none u.2.1 u.2.2.1 u.2.2.2.1 u.2.2.2.2 (fun _ => 0) (fun _ => 0) (fun _ => 0) (fun _ => 0) (fun _ => 0) (fun _ => 0) (0) (fun _ => 0) (out.2.1) (out.2.2.2.1) (out.2.2.2.2.1) (out.2.2.2.2.2.1) (out.2.2.2.2.2.2.2.1) (out.2.2.2.2.2.2.2.2.2.1) (out.2.2.2.2.2.2.2.2.2.2.1) (out.2.2.2.2.2.2.2.2.2.2.2.1) (0) (0) (0) (0) (0) (fun _ => 0) (0) (out.2.2.2.2.2.2.2.2.2.2.2.2.1) (out.2.2.2.2.2.2.2.2.2.2.2.2.2.1) (out.2.2.2.2.2.2.2.2.2.2.2.2.2.2) (fun _ => 0) (0) (0) (fun _ => 0) (fun _ => 0), gridJ d u.2.1 8 40 (fun _ _ => 0), gridI d u.2.2.1 20 7 (out.2.2.1), gridI d u.2.2.2.1 8 3 (out.2.2.2.2.2.2.1), gridI d u.2.2.2.2 7 5 (out.2.2.2.2.2.2.2.2.1)])) := by
  refine Ct.of (by decide) (Nat.le_of_ble_eq_true rfl) ?_
  intro Φ hl hK hR
  subst hl
  have hK : Ok d Φ RX7 "oneWidth" cX7_oneWidth 6 (some .int) { frames := 4, cells := 63, slots := 1204, locals := 85 } := hK
  unfold fX7_oneWidth at hf
  have hf := un35 hf
  have hf := un35 hf
  show J d Φ 6 [gMd d h0 a0_kept none a0_chosen r0_rows r0_line r0_good r0_work x0_shelf x0_rowSort x0_rowSize x0_moved x0_shown x0_tape x0_tapeSize x0_refused x0_lines x0_changes x0_coins x0_goods x0_works x0_years x0_gone x0_spent x0_at x0_token x0_from x0_figures x0_fault x0_numbers x0_statements x0_left x0_far x0_tons x0_way x0_steps x0_met x0_queue x0_totals, gridI d r0_line 20 7 x0_line, gridI d r0_good 8 3 x0_good, gridI d r0_work 7 5 x0_work] 0 0 0 [(0, .ref (h0 0)), (1, .int p1), (2, .int p2)] []
  refine J_aload_n hK dX7_oneWidth_0 rfl 0 rfl rfl ?_
  obtain ⟨⟨g2, g3, g4, g5, g6, g7, g8, g9, g10, g11, g12⟩, e13, hf⟩ := bs hf
  have hf := un11 hf
  refine J_callV (m' := 9) (ce' := 63) (sl' := 1204) (gr := []) (gs' := fun u1 => [gMd d h0 a0_kept (some (u1.1 0)) a0_chosen r0_rows r0_line r0_good r0_work x0_shelf x0_rowSort x0_rowSize x0_moved x0_shown x0_tape x0_tapeSize x0_refused x0_lines x0_changes x0_coins x0_goods x0_works x0_years x0_gone x0_spent x0_at x0_token x0_from x0_figures x0_fault x0_numbers x0_statements x0_left x0_far x0_tons x0_way x0_steps x0_met x0_queue x0_totals, gridI d r0_line 20 7 x0_line, gridI d r0_good 8 3 x0_good, gridI d r0_work 7 5 x0_work, gMd d u1.1 none none none u1.2.1 u1.2.2.1 u1.2.2.2.1 u1.2.2.2.2 (fun _ => 0) (fun _ => 0) (fun _ => 0) (fun _ => 0) (fun _ => 0) (fun _ => 0) (0) (fun _ => 0) g2 g4 g5 g6 g8 g10 g11 g12 (0) (0) (0) (0) (0) (fun _ => 0) (0) (fun _ => 0) (fun _ => 0) (0) (fun _ => 0) (0) (0) (fun _ => 0) (fun _ => 0), gridJ d u1.2.1 8 40 (fun _ _ => 0), gridI d u1.2.2.1 20 7 g3, gridI d u1.2.2.2.1 8 3 g7, gridI d u1.2.2.2.2 7 5 g9]) (st' := fun u1 => [.ref (u1.1 0)]) (st := []) hK dX7_oneWidth_1 cv_RX7_238 iv_yX7_fresh (As := []) (kX7_freshNt _ d h0 r0_rows r0_line r0_good r0_work a0_kept a0_chosen n x0_shelf x0_rowSort x0_rowSize x0_rows x0_moved x0_shown x0_tape x0_tapeSize x0_refused x0_lines x0_line x0_changes x0_coins x0_goods x0_good x0_works x0_work x0_years x0_gone x0_spent x0_at x0_token x0_from x0_figures x0_fault x0_numbers x0_statements x0_left x0_far x0_tons x0_way x0_steps x0_met x0_queue x0_totals e13) rfl rfl (Nat.le_of_ble_eq_true rfl) (by decide) 0 0 rfl rfl rfl [0, 1, 2, 3] [] rfl rfl rfl rfl [0, 1, 2, 3, 4, 5, 6, 7, 8] rfl (fun _ => rfl) (fun _ => rfl) rfl rfl rfl (fun _ => rfl) (fun u1 => ?_)
  refine J_astore_n (L' := [(3, .ref (u1.1 0)), (0, .ref (h0 0)), (1, .int p1), (2, .int p2)]) hK dX7_oneWidth_4 rfl rfl (by decide) rfl ?_
  refine J_iconst (v := 0) hK dX7_oneWidth_5 rfl (by decide) ?_
  refine J_istore (L' := [(4, .int (0)), (3, .ref (u1.1 0)), (0, .ref (h0 0)), (1, .int p1), (2, .int p2)]) hK dX7_oneWidth_6 rfl (by decide) rfl ?_
  refine J_iconst (v := 0) hK dX7_oneWidth_8 rfl (by decide) ?_
  refine J_istore (L' := [(5, .int (0)), (4, .int (0)), (3, .ref (u1.1 0)), (0, .ref (h0 0)), (1, .int p1), (2, .int p2)]) hK dX7_oneWidth_9 rfl (by decide) rfl ?_
  obtain ⟨e18, hl14, hf⟩ := bs hf
  have hx14_87 : ∀ (w19 : Int32) (w20 : (Nat → Nat → Int32)), (w19, w20) = e18 → J d Φ 6 [gMd d h0 a0_kept (some (u1.1 0)) a0_chosen r0_rows r0_line r0_good r0_work x0_shelf x0_rowSort x0_rowSize x0_moved x0_shown x0_tape x0_tapeSize x0_refused x0_lines x0_changes x0_coins x0_goods x0_works x0_years x0_gone x0_spent x0_at x0_token x0_from x0_figures x0_fault x0_numbers x0_statements x0_left x0_far x0_tons x0_way x0_steps x0_met x0_queue x0_totals, gridI d r0_line 20 7 x0_line, gridI d r0_good 8 3 x0_good, gridI d r0_work 7 5 x0_work, gMd d u1.1 none none none u1.2.1 u1.2.2.1 u1.2.2.2.1 u1.2.2.2.2 (fun _ => 0) (fun _ => 0) (fun _ => 0) (fun _ => 0) (fun _ => 0) (fun _ => 0) (0) (fun _ => 0) g2 g4 g5 g6 g8 g10 g11 g12 (0) (0) (0) (0) (0) (fun _ => 0) (0) (fun _ => 0) (fun _ => 0) (0) (fun _ => 0) (0) (0) (fun _ => 0) (fun _ => 0), gridJ d u1.2.1 8 40 (fun _ _ => 0), gridI d u1.2.2.1 20 7 w20, gridI d u1.2.2.2.1 8 3 g7, gridI d u1.2.2.2.2 7 5 g9] 63 1204 87 [(0, .ref (h0 0)), (3, .ref (u1.1 0)), (4, .int w19)] [] := by
    intro w19 w20 he
    rw [← he] at hf
    have hf := un2 hf
    refine J_iload hK dX7_oneWidth_87 rfl 2 rfl ?_
    refine J_aload_n hK dX7_oneWidth_89 rfl 0 rfl rfl ?_
    refine J_get hK fo_RX7_54 dX7_oneWidth_90 rfl 0 0 rfl rfl rfl ?_
    refine J_aload_n hK dX7_oneWidth_93 rfl 1 rfl rfl ?_
    obtain ⟨⟨v21, g22, g23, g24⟩, e25, hf⟩ := bs hf
    have hf := un4 hf
    refine J_callV (m' := 9) (ce' := 63) (sl' := 1204) (gr := [gMd d h0 a0_kept (some (u1.1 0)) a0_chosen r0_rows r0_line r0_good r0_work x0_shelf x0_rowSort x0_rowSize x0_moved x0_shown x0_tape x0_tapeSize x0_refused x0_lines x0_changes x0_coins x0_goods x0_works x0_years x0_gone x0_spent x0_at x0_token x0_from x0_figures x0_fault x0_numbers x0_statements x0_left x0_far x0_tons x0_way x0_steps x0_met x0_queue x0_totals, gridI d r0_line 20 7 x0_line, gridI d r0_good 8 3 x0_good, gridI d r0_work 7 5 x0_work, gridJ d u1.2.1 8 40 (fun _ _ => 0), gridI d u1.2.2.2.2 7 5 g9]) (gs' := fun _ => [gMd d h0 a0_kept (some (u1.1 0)) a0_chosen r0_rows r0_line r0_good r0_work x0_shelf x0_rowSort x0_rowSize x0_moved x0_shown x0_tape x0_tapeSize x0_refused x0_lines x0_changes x0_coins x0_goods x0_works x0_years x0_gone x0_spent x0_at x0_token x0_from x0_figures x0_fault x0_numbers x0_statements x0_left x0_far x0_tons x0_way x0_steps x0_met x0_queue x0_totals, gridI d r0_line 20 7 x0_line, gridI d r0_good 8 3 x0_good, gridI d r0_work 7 5 x0_work, gMd d u1.1 none none none u1.2.1 u1.2.2.1 u1.2.2.2.1 u1.2.2.2.2 (fun _ => 0) (fun _ => 0) (fun _ => 0) (fun _ => 0) (fun _ => 0) (fun _ => 0) (0) (fun _ => 0) g2 g4 g5 g6 g8 g10 g11 g12 (0) (0) (0) (0) (0) (fun _ => 0) (0) g22 g23 g24 (fun _ => 0) (0) (0) (fun _ => 0) (fun _ => 0), gridJ d u1.2.1 8 40 (fun _ _ => 0), gridI d u1.2.2.1 20 7 w20, gridI d u1.2.2.2.1 8 3 g7, gridI d u1.2.2.2.2 7 5 g9]) (st' := fun _ => [.int v21, .int x0_years, .int w19]) (st := [.int x0_years, .int w19]) hK dX7_oneWidth_94 cv_RX7_288 iv_yX7_free (As := []) (kX7_free _ d u1.1 u1.2.1 u1.2.2.1 u1.2.2.2.1 u1.2.2.2.2 none none none n (fun _ => 0) (fun _ => 0) (fun _ => 0) (fun _ _ => 0) (fun _ => 0) (fun _ => 0) (fun _ => 0) (0) (fun _ => 0) g2 w20 g4 g5 g6 g7 g8 g9 g10 g11 g12 (0) (0) (0) (0) (0) (fun _ => 0) (0) (fun _ => 0) (fun _ => 0) (0) (fun _ => 0) (0) (0) (fun _ => 0) (fun _ => 0) e25) rfl rfl (Nat.le_of_ble_eq_true rfl) (by decide) 4 0 rfl rfl rfl [4, 6, 7] [0, 1, 2, 3, 5, 8] rfl rfl rfl rfl [0, 1, 2, 3, 6, 4, 7, 8, 5] rfl (fun _ => rfl) (fun _ => rfl) rfl rfl rfl (fun _ => rfl) (fun _ => ?_)
    refine J_imul hK dX7_oneWidth_97 rfl ?_
    refine J_iadd hK dX7_oneWidth_98 rfl ?_
    obtain rfl := Option.some.inj hf
    exact J_iret hK hR dX7_oneWidth_99 u1 rfl (by decide) (by decide)
  have lo14 : ∀ (k : Nat) (z15 : Int32) (z16 : Int32) (z17 : (Nat → Nat → Int32)), lp (u3 (fX7_oneWidth_s11 p1 p2 x0_lines)) k (z15, z16, z17) = some e18 → J d Φ 6 [gMd d h0 a0_kept (some (u1.1 0)) a0_chosen r0_rows r0_line r0_good r0_work x0_shelf x0_rowSort x0_rowSize x0_moved x0_shown x0_tape x0_tapeSize x0_refused x0_lines x0_changes x0_coins x0_goods x0_works x0_years x0_gone x0_spent x0_at x0_token x0_from x0_figures x0_fault x0_numbers x0_statements x0_left x0_far x0_tons x0_way x0_steps x0_met x0_queue x0_totals, gridI d r0_line 20 7 x0_line, gridI d r0_good 8 3 x0_good, gridI d r0_work 7 5 x0_work, gMd d u1.1 none none none u1.2.1 u1.2.2.1 u1.2.2.2.1 u1.2.2.2.2 (fun _ => 0) (fun _ => 0) (fun _ => 0) (fun _ => 0) (fun _ => 0) (fun _ => 0) (0) (fun _ => 0) g2 g4 g5 g6 g8 g10 g11 g12 (0) (0) (0) (0) (0) (fun _ => 0) (0) (fun _ => 0) (fun _ => 0) (0) (fun _ => 0) (0) (0) (fun _ => 0) (fun _ => 0), gridJ d u1.2.1 8 40 (fun _ _ => 0), gridI d u1.2.2.1 20 7 z17, gridI d u1.2.2.2.1 8 3 g7, gridI d u1.2.2.2.2 7 5 g9] 63 1204 11 [(0, .ref (h0 0)), (1, .int p1), (2, .int p2), (3, .ref (u1.1 0)), (4, .int z15), (5, .int z16)] [] := by
    intro k
    induction k with
    | zero => intro z15 z16 z17 h; cases h
    | succ k ih14 =>
      intro z15 z16 z17 h
      obtain ⟨k2, rr14, hk2, hs14, hr14⟩ := lp_ok h
      cases hk2
      have hs14 : fX7_oneWidth_s11 p1 p2 x0_lines z15 z16 z17 = some rr14 := hs14
      unfold fX7_oneWidth_s11 at hs14
      refine J_iload hK dX7_oneWidth_11 rfl 5 rfl ?_
      refine J_aload_n hK dX7_oneWidth_13 rfl 0 rfl rfl ?_
      refine J_get hK fo_RX7_82 dX7_oneWidth_14 rfl 0 0 rfl rfl rfl ?_
      refine J_icmp_ge (tg := 87) hK dX7_oneWidth_17 rfl rfl (fun hc17 => ?_) (fun hc17 => ?_)
      · have hs14 := ip hc17 hs14
        exact J_loc [0, 3, 4] rfl (hx14_87 z15 z17 (lpx hs14 hr14))
      · have hs14 := iq hc17 hs14
        refine J_aload_n hK dX7_oneWidth_20 rfl 3 rfl rfl ?_
        refine J_get hK fo_RX7_39 dX7_oneWidth_21 rfl 4 0 rfl rfl rfl ?_
        refine J_iload hK dX7_oneWidth_24 rfl 5 rfl ?_
        obtain ⟨q26, eq26, hs14⟩ := bs hs14
        refine J_aald hK dX7_oneWidth_26 rfl 4 9 rfl rfl rfl eq26 ?_
        refine J_bipush (v := 6) hK dX7_oneWidth_27 rfl (by decide) ?_
        obtain ⟨v27, ev27, hs14⟩ := bs hs14
        refine J_iald hK dX7_oneWidth_29 rfl 6 q26 rfl (gridI_at (ck_ok eq26).2.2) ev27 ?_
        refine J_if_ne (tg := 81) hK dX7_oneWidth_30 rfl rfl (fun hc30 => ?_) (fun hc30 => ?_)
        · have hs14 := iq hc30 hs14
          refine J_iinc (L' := [(5, .int (z16 + 1)), (0, .ref (h0 0)), (1, .int p1), (2, .int p2), (3, .ref (u1.1 0)), (4, .int z15)]) (v := (z16 + 1)) hK dX7_oneWidth_81 rfl 5 rfl rfl (by decide) rfl ?_
          refine J_goto hK dX7_oneWidth_84 (n := 11) rfl ?_
          exact J_loc [1, 2, 3, 4, 5, 0] rfl (ih14 z15 (z16 + 1) z17 (lpc hs14 hr14))
        · have hs14 := ip hc30 hs14
          refine J_iload hK dX7_oneWidth_33 rfl 4 rfl ?_
          refine J_aload_n hK dX7_oneWidth_35 rfl 3 rfl rfl ?_
          refine J_get hK fo_RX7_39 dX7_oneWidth_36 rfl 4 0 rfl rfl rfl ?_
          refine J_iload hK dX7_oneWidth_39 rfl 5 rfl ?_
          obtain ⟨q28, eq28, hs14⟩ := bs hs14
          refine J_aald hK dX7_oneWidth_41 rfl 4 9 rfl rfl rfl eq28 ?_
          refine J_iconst (v := 2) hK dX7_oneWidth_42 rfl (by decide) ?_
          obtain ⟨v29, ev29, hs14⟩ := bs hs14
          refine J_iald hK dX7_oneWidth_43 rfl 6 q28 rfl (gridI_at (ck_ok eq28).2.2) ev29 ?_
          refine J_iload_n hK dX7_oneWidth_44 rfl 1 rfl rfl ?_
          refine J_ishr hK dX7_oneWidth_45 rfl ?_
          refine J_iconst (v := 1) hK dX7_oneWidth_46 rfl (by decide) ?_
          refine J_iand hK dX7_oneWidth_47 rfl ?_
          have j66 : ∀ (y30 : Int32), fX7_oneWidth_j66 p1 z15 z16 z17 y30 = some rr14 → J d Φ 6 [gMd d h0 a0_kept (some (u1.1 0)) a0_chosen r0_rows r0_line r0_good r0_work x0_shelf x0_rowSort x0_rowSize x0_moved x0_shown x0_tape x0_tapeSize x0_refused x0_lines x0_changes x0_coins x0_goods x0_works x0_years x0_gone x0_spent x0_at x0_token x0_from x0_figures x0_fault x0_numbers x0_statements x0_left x0_far x0_tons x0_way x0_steps x0_met x0_queue x0_totals, gridI d r0_line 20 7 x0_line, gridI d r0_good 8 3 x0_good, gridI d r0_work 7 5 x0_work, gMd d u1.1 none none none u1.2.1 u1.2.2.1 u1.2.2.2.1 u1.2.2.2.2 (fun _ => 0) (fun _ => 0) (fun _ => 0) (fun _ => 0) (fun _ => 0) (fun _ => 0) (0) (fun _ => 0) g2 g4 g5 g6 g8 g10 g11 g12 (0) (0) (0) (0) (0) (fun _ => 0) (0) (fun _ => 0) (fun _ => 0) (0) (fun _ => 0) (0) (0) (fun _ => 0) (fun _ => 0), gridJ d u1.2.1 8 40 (fun _ _ => 0), gridI d u1.2.2.1 20 7 z17, gridI d u1.2.2.2.1 8 3 g7, gridI d u1.2.2.2.2 7 5 g9] 63 1204 66 [(0, .ref (h0 0)), (1, .int p1), (2, .int p2), (3, .ref (u1.1 0)), (5, .int z16)] [.int y30, .int z15] := by
            intro y30 hs14
            unfold fX7_oneWidth_j66 at hs14
            refine J_iadd hK dX7_oneWidth_66 rfl ?_
            refine J_istore (L' := [(4, .int (z15 + y30)), (0, .ref (h0 0)), (1, .int p1), (2, .int p2), (3, .ref (u1.1 0)), (5, .int z16)]) hK dX7_oneWidth_67 rfl (by decide) rfl ?_
            refine J_aload_n hK dX7_oneWidth_69 rfl 4 rfl rfl ?_
            refine J_get hK fo_RX7_39 dX7_oneWidth_70 rfl 4 0 rfl rfl rfl ?_
            refine J_iload hK dX7_oneWidth_73 rfl 5 rfl ?_
            obtain ⟨q31, eq31, hs14⟩ := bs hs14
            refine J_aald hK dX7_oneWidth_75 rfl 4 9 rfl rfl rfl eq31 ?_
            refine J_iconst (v := 2) hK dX7_oneWidth_76 rfl (by decide) ?_
            refine J_iconst (v := 1) hK dX7_oneWidth_77 rfl (by decide) ?_
            refine J_iload_n hK dX7_oneWidth_78 rfl 2 rfl rfl ?_
            refine J_ishl hK dX7_oneWidth_79 rfl ?_
            obtain ⟨t32, et32, hs14⟩ := bs hs14
            refine J_nmi et32 ?_
            obtain ⟨f33, ef33, hs14⟩ := bs hs14
            refine J_iast (g' := gridI d u1.2.2.1 20 7 (va_up z17 q31 f33)) (gs' := [gMd d h0 a0_kept (some (u1.1 0)) a0_chosen r0_rows r0_line r0_good r0_work x0_shelf x0_rowSort x0_rowSize x0_moved x0_shown x0_tape x0_tapeSize x0_refused x0_lines x0_changes x0_coins x0_goods x0_works x0_years x0_gone x0_spent x0_at x0_token x0_from x0_figures x0_fault x0_numbers x0_statements x0_left x0_far x0_tons x0_way x0_steps x0_met x0_queue x0_totals, gridI d r0_line 20 7 x0_line, gridI d r0_good 8 3 x0_good, gridI d r0_work 7 5 x0_work, gMd d u1.1 none none none u1.2.1 u1.2.2.1 u1.2.2.2.1 u1.2.2.2.2 (fun _ => 0) (fun _ => 0) (fun _ => 0) (fun _ => 0) (fun _ => 0) (fun _ => 0) (0) (fun _ => 0) g2 g4 g5 g6 g8 g10 g11 g12 (0) (0) (0) (0) (0) (fun _ => 0) (0) (fun _ => 0) (fun _ => 0) (0) (fun _ => 0) (0) (0) (fun _ => 0) (fun _ => 0), gridJ d u1.2.1 8 40 (fun _ _ => 0), gridI d u1.2.2.1 20 7 (va_up z17 q31 f33), gridI d u1.2.2.2.1 8 3 g7, gridI d u1.2.2.2.2 7 5 g9]) hK dX7_oneWidth_80 rfl 6 q31 rfl (gridI_at (ck_ok eq31).2.2) ef33 gridI_set rfl ?_
            refine J_iinc (L' := [(5, .int (z16 + 1)), (4, .int (z15 + y30)), (0, .ref (h0 0)), (1, .int p1), (2, .int p2), (3, .ref (u1.1 0))]) (v := (z16 + 1)) hK dX7_oneWidth_81 rfl 5 rfl rfl (by decide) rfl ?_
            refine J_goto hK dX7_oneWidth_84 (n := 11) rfl ?_
            exact J_loc [2, 3, 4, 5, 1, 0] rfl (ih14 (z15 + y30) (z16 + 1) (va_up z17 q31 f33) (lpc hs14 hr14))
          refine J_if_ne (tg := 65) hK dX7_oneWidth_48 rfl rfl (fun hc48 => ?_) (fun hc48 => ?_)
          · have hs14 := iq hc48 hs14
            refine J_iconst (v := 0) hK dX7_oneWidth_65 rfl (by decide) ?_
            exact J_loc [0, 1, 2, 3, 5] rfl (j66 (0) hs14)
          · have hs14 := ip hc48 hs14
            refine J_iload_n hK dX7_oneWidth_51 rfl 2 rfl rfl ?_
            refine J_aload_n hK dX7_oneWidth_52 rfl 3 rfl rfl ?_
            refine J_get hK fo_RX7_39 dX7_oneWidth_53 rfl 4 0 rfl rfl rfl ?_
            refine J_iload hK dX7_oneWidth_56 rfl 5 rfl ?_
            obtain ⟨q34, eq34, hs14⟩ := bs hs14
            refine J_aald hK dX7_oneWidth_58 rfl 4 9 rfl rfl rfl eq34 ?_
            refine J_iconst (v := 3) hK dX7_oneWidth_59 rfl (by decide) ?_
            obtain ⟨v35, ev35, hs14⟩ := bs hs14
            refine J_iald hK dX7_oneWidth_60 rfl 6 q34 rfl (gridI_at (ck_ok eq34).2.2) ev35 ?_
            refine J_imul hK dX7_oneWidth_61 rfl ?_
            refine J_goto hK dX7_oneWidth_62 (n := 66) rfl ?_
            exact J_loc [0, 1, 2, 3, 5] rfl (j66 (p2 * v35) hs14)
  exact J_loc [3, 4, 5, 2, 1, 0] rfl (lo14 n (0) (0) g3 hl14)


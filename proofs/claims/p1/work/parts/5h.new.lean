def fX7_firstNt_j34 (z2 : Int32) (z3 : Int32) (z4 : Int32) (y9 : Int32) : Option ((Int32 × Int32 × Int32) ⊕ (Int32)) :=
  if y9 ≤ z3 then (some (.inl (z2, z3, (z4 + 1)))) else (some (.inl (z4, y9, (z4 + 1))))
def fX7_firstNt_s6 (x0_works : Int32) (x0_work : (Nat → Nat → Int32)) (z2 : Int32) (z3 : Int32) (z4 : Int32) : Option ((Int32 × Int32 × Int32) ⊕ (Int32)) :=
  if x0_works ≤ z4 then (some (.inr z2)) else ((ck z4 7).bind fun q7 => (rd 5 (x0_work q7) (4)).bind fun v8 => if v8 = 0 then (none) else (fX7_firstNt_j34 z2 z3 z4 (0)))
def fX7_firstNt (n : Nat) (X0 : MdT) (X1 : MdT) : Option (Int32) :=
  u35 (fun (x0_shelf : (Nat → Int32)) (x0_rowSort : (Nat → Int32)) (x0_rowSize : (Nat → Int32)) (x0_rows : (Nat → Nat → Int64)) (x0_moved : (Nat → Int64)) (x0_shown : (Nat → Int32)) (x0_tape : (Nat → Int32)) (x0_tapeSize : Int32) (x0_refused : (Nat → Int32)) (x0_lines : Int32) (x0_line : (Nat → Nat → Int32)) (x0_changes : (Nat → Int32)) (x0_coins : (Nat → Int32)) (x0_goods : Int32) (x0_good : (Nat → Nat → Int32)) (x0_works : Int32) (x0_work : (Nat → Nat → Int32)) (x0_years : Int32) (x0_gone : Int32) (x0_spent : Int32) (x0_at : Int32) (x0_token : Int32) (x0_from : Int32) (x0_figures : Int64) (x0_fault : Int32) (x0_numbers : (Nat → Int32)) (x0_statements : Int32) (x0_left : (Nat → Int32)) (x0_far : (Nat → Int32)) (x0_tons : Int32) (x0_way : (Nat → Int32)) (x0_steps : Int32) (x0_met : Int64) (x0_queue : (Nat → Int32)) (x0_totals : (Nat → Int32)) => u35 (fun (x1_shelf : (Nat → Int32)) (x1_rowSort : (Nat → Int32)) (x1_rowSize : (Nat → Int32)) (x1_rows : (Nat → Nat → Int64)) (x1_moved : (Nat → Int64)) (x1_shown : (Nat → Int32)) (x1_tape : (Nat → Int32)) (x1_tapeSize : Int32) (x1_refused : (Nat → Int32)) (x1_lines : Int32) (x1_line : (Nat → Nat → Int32)) (x1_changes : (Nat → Int32)) (x1_coins : (Nat → Int32)) (x1_goods : Int32) (x1_good : (Nat → Nat → Int32)) (x1_works : Int32) (x1_work : (Nat → Nat → Int32)) (x1_years : Int32) (x1_gone : Int32) (x1_spent : Int32) (x1_at : Int32) (x1_token : Int32) (x1_from : Int32) (x1_figures : Int64) (x1_fault : Int32) (x1_numbers : (Nat → Int32)) (x1_statements : Int32) (x1_left : (Nat → Int32)) (x1_far : (Nat → Int32)) (x1_tons : Int32) (x1_way : (Nat → Int32)) (x1_steps : Int32) (x1_met : Int64) (x1_queue : (Nat → Int32)) (x1_totals : (Nat → Int32)) => (lp (u3 (fX7_firstNt_s6 x0_works x0_work)) n ((-1), 0, 0)).bind (fun w6 => some w6)) X1) X0
set_option maxHeartbeats 4000000 in
set_option maxRecDepth 100000 in
theorem kX7_firstNt (l : Launch) (d : DT) (h0 : Nat → Nat) (r0_rows : Nat → Nat) (r0_line : Nat → Nat) (r0_good : Nat → Nat) (r0_work : Nat → Nat) (a0_kept : Option Nat) (a0_chosen : Option Nat) (n : Nat) (x0_shelf : (Nat → Int32)) (x0_rowSort : (Nat → Int32)) (x0_rowSize : (Nat → Int32)) (x0_rows : (Nat → Nat → Int64)) (x0_moved : (Nat → Int64)) (x0_shown : (Nat → Int32)) (x0_tape : (Nat → Int32)) (x0_tapeSize : Int32) (x0_refused : (Nat → Int32)) (x0_lines : Int32) (x0_line : (Nat → Nat → Int32)) (x0_changes : (Nat → Int32)) (x0_coins : (Nat → Int32)) (x0_goods : Int32) (x0_good : (Nat → Nat → Int32)) (x0_works : Int32) (x0_work : (Nat → Nat → Int32)) (x0_years : Int32) (x0_gone : Int32) (x0_spent : Int32) (x0_at : Int32) (x0_token : Int32) (x0_from : Int32) (x0_figures : Int64) (x0_fault : Int32) (x0_numbers : (Nat → Int32)) (x0_statements : Int32) (x0_left : (Nat → Int32)) (x0_far : (Nat → Int32)) (x0_tons : Int32) (x0_way : (Nat → Int32)) (x0_steps : Int32) (x0_met : Int64) (x0_queue : (Nat → Int32)) (x0_totals : (Nat → Int32))  {out : Int32} (hf : fX7_firstNt n (x0_shelf, x0_rowSort, x0_rowSize, x0_rows, x0_moved, x0_shown, x0_tape, x0_tapeSize, x0_refused, x0_lines, x0_line, x0_changes, x0_coins, x0_goods, x0_good, x0_works, x0_work, x0_years, x0_gone, x0_spent, x0_at, x0_token, x0_from, x0_figures, x0_fault, x0_numbers, x0_statements, x0_left, x0_far, x0_tons, x0_way, x0_steps, x0_met, x0_queue, x0_totals) ((fun _ => 0), (fun _ => 0), (fun _ => 0), (fun _ _ => 0), (fun _ => 0), (fun _ => 0), (fun _ => 0), 0, (fun _ => 0), 0, (fun _ _ => 0), (fillV 12 9 (fun _ => 0)), (va_up (va_up (va_up (fun _ => 0) 0 1) 1 1) 2 1), 0, (fun _ _ => 0), 0, (fun _ _ => 0), 10, 0, 0, 0, 0, 0, 0, 0, (fun _ => 0), 0, (fun _ => 0), (fun _ => 0), 0, (fun _ => 0), 0, 0, (fun _ => 0), (fun _ => 0)) = some out) : Ct l d yX7_first cX7_first 5 (some .int) { frames := 6, cells := 0, slots := 0, locals := 129 } [.ref (h0 0)] [gMd d h0 a0_kept none a0_chosen r0_rows r0_line r0_good r0_work x0_shelf x0_rowSort x0_rowSize x0_moved x0_shown x0_tape x0_tapeSize x0_refused x0_lines x0_changes x0_coins x0_goods x0_works x0_years x0_gone x0_spent x0_at x0_token x0_from x0_figures x0_fault x0_numbers x0_statements x0_left x0_far x0_tons x0_way x0_steps x0_met x0_queue x0_totals, gridI d r0_line 20 7 x0_line, gridI d r0_good 8 3 x0_good, gridI d r0_work 7 5 x0_work] (fun _ : Unit => (some (.int out), [gMd d h0 a0_kept none a0_chosen r0_rows r0_line r0_good r0_work x0_shelf x0_rowSort x0_rowSize x0_moved x0_shown x0_tape x0_tapeSize x0_refused x0_lines x0_changes x0_coins x0_goods x0_works x0_years x0_gone x0_spent x0_at x0_token x0_from x0_figures x0_fault x0_numbers x0_statements x0_left x0_far x0_tons x0_way x0_steps x0_met x0_queue x0_totals, gridI d r0_line 20 7 x0_line, gridI d r0_good 8 3 x0_good, gridI d r0_work 7 5 x0_work])) := by
  refine Ct.of (by decide) (Nat.le_of_ble_eq_true rfl) ?_
  intro Φ hl hK hR
  subst hl
  have hK : Ok d Φ RX7 "first" cX7_first 5 (some .int) { frames := 6, cells := 0, slots := 0, locals := 129 } := hK
  unfold fX7_firstNt at hf
  have hf := un35 hf
  have hf := un35 hf
  show J d Φ 5 [gMd d h0 a0_kept none a0_chosen r0_rows r0_line r0_good r0_work x0_shelf x0_rowSort x0_rowSize x0_moved x0_shown x0_tape x0_tapeSize x0_refused x0_lines x0_changes x0_coins x0_goods x0_works x0_years x0_gone x0_spent x0_at x0_token x0_from x0_figures x0_fault x0_numbers x0_statements x0_left x0_far x0_tons x0_way x0_steps x0_met x0_queue x0_totals, gridI d r0_line 20 7 x0_line, gridI d r0_good 8 3 x0_good, gridI d r0_work 7 5 x0_work] 0 0 0 [(0, .ref (h0 0))] []
  refine J_iconst (v := (-1)) hK dX7_first_0 rfl (by decide) ?_
  refine J_istore_n (L' := [(1, .int (-1)), (0, .ref (h0 0))]) hK dX7_first_1 rfl rfl (by decide) rfl ?_
  refine J_iconst (v := 0) hK dX7_first_2 rfl (by decide) ?_
  refine J_istore_n (L' := [(2, .int (0)), (1, .int (-1)), (0, .ref (h0 0))]) hK dX7_first_3 rfl rfl (by decide) rfl ?_
  refine J_iconst (v := 0) hK dX7_first_4 rfl (by decide) ?_
  refine J_istore_n (L' := [(3, .int (0)), (2, .int (0)), (1, .int (-1)), (0, .ref (h0 0))]) hK dX7_first_5 rfl rfl (by decide) rfl ?_
  obtain ⟨e5, hl1, hf⟩ := bs hf
  have hx1_53 : ∀ (w6 : Int32), w6 = e5 → J d Φ 5 [gMd d h0 a0_kept none a0_chosen r0_rows r0_line r0_good r0_work x0_shelf x0_rowSort x0_rowSize x0_moved x0_shown x0_tape x0_tapeSize x0_refused x0_lines x0_changes x0_coins x0_goods x0_works x0_years x0_gone x0_spent x0_at x0_token x0_from x0_figures x0_fault x0_numbers x0_statements x0_left x0_far x0_tons x0_way x0_steps x0_met x0_queue x0_totals, gridI d r0_line 20 7 x0_line, gridI d r0_good 8 3 x0_good, gridI d r0_work 7 5 x0_work] 0 0 53 [(1, .int w6)] [] := by
    intro w6 he
    rw [← he] at hf
    refine J_iload_n hK dX7_first_53 rfl 0 rfl rfl ?_
    obtain rfl := Option.some.inj hf
    exact J_iret hK hR dX7_first_54 () rfl (by decide) (by decide)
  have lo1 : ∀ (k : Nat) (z2 : Int32) (z3 : Int32) (z4 : Int32), lp (u3 (fX7_firstNt_s6 x0_works x0_work)) k (z2, z3, z4) = some e5 → J d Φ 5 [gMd d h0 a0_kept none a0_chosen r0_rows r0_line r0_good r0_work x0_shelf x0_rowSort x0_rowSize x0_moved x0_shown x0_tape x0_tapeSize x0_refused x0_lines x0_changes x0_coins x0_goods x0_works x0_years x0_gone x0_spent x0_at x0_token x0_from x0_figures x0_fault x0_numbers x0_statements x0_left x0_far x0_tons x0_way x0_steps x0_met x0_queue x0_totals, gridI d r0_line 20 7 x0_line, gridI d r0_good 8 3 x0_good, gridI d r0_work 7 5 x0_work] 0 0 6 [(0, .ref (h0 0)), (1, .int z2), (2, .int z3), (3, .int z4)] [] := by
    intro k
    induction k with
    | zero => intro z2 z3 z4 h; cases h
    | succ k ih1 =>
      intro z2 z3 z4 h
      obtain ⟨k2, rr1, hk2, hs1, hr1⟩ := lp_ok h
      cases hk2
      have hs1 : fX7_firstNt_s6 x0_works x0_work z2 z3 z4 = some rr1 := hs1
      unfold fX7_firstNt_s6 at hs1
      refine J_iload_n hK dX7_first_6 rfl 3 rfl rfl ?_
      refine J_aload_n hK dX7_first_7 rfl 0 rfl rfl ?_
      refine J_get hK fo_RX7_85 dX7_first_8 rfl 0 0 rfl rfl rfl ?_
      refine J_icmp_ge (tg := 53) hK dX7_first_11 rfl rfl (fun hc11 => ?_) (fun hc11 => ?_)
      · have hs1 := ip hc11 hs1
        exact J_loc [1] rfl (hx1_53 z2 (lpx hs1 hr1))
      · have hs1 := iq hc11 hs1
        refine J_aload_n hK dX7_first_14 rfl 0 rfl rfl ?_
        refine J_get hK fo_RX7_51 dX7_first_15 rfl 0 0 rfl rfl rfl ?_
        refine J_iload_n hK dX7_first_18 rfl 3 rfl rfl ?_
        obtain ⟨q7, eq7, hs1⟩ := bs hs1
        refine J_aald hK dX7_first_19 rfl 0 13 rfl rfl rfl eq7 ?_
        refine J_iconst (v := 4) hK dX7_first_20 rfl (by decide) ?_
        obtain ⟨v8, ev8, hs1⟩ := bs hs1
        refine J_iald hK dX7_first_21 rfl 3 q7 rfl (gridI_at (ck_ok eq7).2.2) ev8 ?_
        have j34 : ∀ (y9 : Int32), fX7_firstNt_j34 z2 z3 z4 y9 = some rr1 → J d Φ 5 [gMd d h0 a0_kept none a0_chosen r0_rows r0_line r0_good r0_work x0_shelf x0_rowSort x0_rowSize x0_moved x0_shown x0_tape x0_tapeSize x0_refused x0_lines x0_changes x0_coins x0_goods x0_works x0_years x0_gone x0_spent x0_at x0_token x0_from x0_figures x0_fault x0_numbers x0_statements x0_left x0_far x0_tons x0_way x0_steps x0_met x0_queue x0_totals, gridI d r0_line 20 7 x0_line, gridI d r0_good 8 3 x0_good, gridI d r0_work 7 5 x0_work] 0 0 34 [(0, .ref (h0 0)), (1, .int z2), (2, .int z3), (3, .int z4)] [.int y9] := by
          intro y9 hs1
          unfold fX7_firstNt_j34 at hs1
          refine J_istore (L' := [(4, .int y9), (0, .ref (h0 0)), (1, .int z2), (2, .int z3), (3, .int z4)]) hK dX7_first_34 rfl (by decide) rfl ?_
          refine J_iload hK dX7_first_36 rfl 0 rfl ?_
          refine J_iload_n hK dX7_first_38 rfl 3 rfl rfl ?_
          refine J_icmp_le (tg := 47) hK dX7_first_39 rfl rfl (fun hc39 => ?_) (fun hc39 => ?_)
          · have hs1 := ip hc39 hs1
            refine J_iinc (L' := [(3, .int (z4 + 1)), (4, .int y9), (0, .ref (h0 0)), (1, .int z2), (2, .int z3)]) (v := (z4 + 1)) hK dX7_first_47 rfl 4 rfl rfl (by decide) rfl ?_
            refine J_goto hK dX7_first_50 (n := 6) rfl ?_
            exact J_loc [2, 3, 4, 0] rfl (ih1 z2 z3 (z4 + 1) (lpc hs1 hr1))
          · have hs1 := iq hc39 hs1
            refine J_iload_n hK dX7_first_42 rfl 4 rfl rfl ?_
            refine J_istore_n (L' := [(1, .int z4), (4, .int y9), (0, .ref (h0 0)), (2, .int z3), (3, .int z4)]) hK dX7_first_43 rfl rfl (by decide) rfl ?_
            refine J_iload hK dX7_first_44 rfl 1 rfl ?_
            refine J_istore_n (L' := [(2, .int y9), (1, .int z4), (4, .int y9), (0, .ref (h0 0)), (3, .int z4)]) hK dX7_first_46 rfl rfl (by decide) rfl ?_
            refine J_iinc (L' := [(3, .int (z4 + 1)), (2, .int y9), (1, .int z4), (4, .int y9), (0, .ref (h0 0))]) (v := (z4 + 1)) hK dX7_first_47 rfl 4 rfl rfl (by decide) rfl ?_
            refine J_goto hK dX7_first_50 (n := 6) rfl ?_
            exact J_loc [4, 2, 1, 0] rfl (ih1 z4 y9 (z4 + 1) (lpc hs1 hr1))
        refine J_if_ne (tg := 33) hK dX7_first_22 rfl rfl (fun hc22 => ?_) (fun hc22 => ?_)
        · have hs1 := iq hc22 hs1
          refine J_iconst (v := 0) hK dX7_first_33 rfl (by decide) ?_
          exact (j34 (0) hs1)
        · have hs1 := ip hc22 hs1
          refine J_aload_n hK dX7_first_25 rfl 0 rfl rfl ?_
          refine J_iload_n hK dX7_first_26 rfl 3 rfl rfl ?_
          cases hs1
  exact J_loc [3, 2, 1, 0] rfl (lo1 n (-1) (0) (0) hl1)


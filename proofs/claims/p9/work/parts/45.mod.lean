def fX7_canEnd_s62 (x0_shelf : (Nat → Int32)) (x0_rowSort : (Nat → Int32)) (x0_rowSize : (Nat → Int32)) (x0_rows : (Nat → Nat → Int64)) (x0_moved : (Nat → Int64)) (x0_shown : (Nat → Int32)) (x0_tape : (Nat → Int32)) (x0_tapeSize : Int32) (x0_refused : (Nat → Int32)) (x0_lines : Int32) (x0_line : (Nat → Nat → Int32)) (x0_changes : (Nat → Int32)) (x0_coins : (Nat → Int32)) (x0_goods : Int32) (x0_good : (Nat → Nat → Int32)) (x0_works : Int32) (x0_work : (Nat → Nat → Int32)) (x0_years : Int32) (x0_gone : Int32) (x0_spent : Int32) (x0_at : Int32) (x0_token : Int32) (x0_from : Int32) (x0_figures : Int64) (x0_fault : Int32) (x0_numbers : (Nat → Int32)) (x0_statements : Int32) (x0_left : (Nat → Int32)) (x0_far : (Nat → Int32)) (x0_tons : Int32) (x0_way : (Nat → Int32)) (x0_steps : Int32) (x0_met : Int64) (x0_totals : (Nat → Int32)) (z6 : Int32) (z13 : Int64) (z14 : Int32) (z15 : Int32) (z16 : (Nat → Int32)) : Option ((Int64 × Int32 × Int32 × (Nat → Int32)) ⊕ (Int64 × Int32 × (Nat → Int32))) :=
  if (3 + x0_lines) ≤ z15 then (some (.inr (z13, z14, z16))) else ((rd 36 z16 z6).bind fun v21 => (fX7_stepTo (x0_shelf, x0_rowSort, x0_rowSize, x0_rows, x0_moved, x0_shown, x0_tape, x0_tapeSize, x0_refused, x0_lines, x0_line, x0_changes, x0_coins, x0_goods, x0_good, x0_works, x0_work, x0_years, x0_gone, x0_spent, x0_at, x0_token, x0_from, x0_figures, x0_fault, x0_numbers, x0_statements, x0_left, x0_far, x0_tons, x0_way, x0_steps, x0_met, z16, x0_totals) v21 z15).bind (fun v22 => if v22 = (-1) then (some (.inl (z13, z14, (z15 + 1), z16))) else (if (lg_cmp ((z13 >>> ((v22).toInt64 &&& 63)) &&& (1 : Int64)) (0 : Int64)) = 0 then ((some (z13 ||| ((1 : Int64) <<< ((v22).toInt64 &&& 63)))).bind fun t24 => (wr 36 z16 z14 v22).bind fun f25 => some (.inl (t24, (z14 + 1), (z15 + 1), f25))) else (some (.inl (z13, z14, (z15 + 1), z16))))))
def fX7_canEnd_s37 (n : Nat) (p2 : Int32) (x0_shelf : (Nat → Int32)) (x0_rowSort : (Nat → Int32)) (x0_rowSize : (Nat → Int32)) (x0_rows : (Nat → Nat → Int64)) (x0_moved : (Nat → Int64)) (x0_shown : (Nat → Int32)) (x0_tape : (Nat → Int32)) (x0_tapeSize : Int32) (x0_refused : (Nat → Int32)) (x0_lines : Int32) (x0_line : (Nat → Nat → Int32)) (x0_changes : (Nat → Int32)) (x0_coins : (Nat → Int32)) (x0_goods : Int32) (x0_good : (Nat → Nat → Int32)) (x0_works : Int32) (x0_work : (Nat → Nat → Int32)) (x0_years : Int32) (x0_gone : Int32) (x0_spent : Int32) (x0_at : Int32) (x0_token : Int32) (x0_from : Int32) (x0_figures : Int64) (x0_fault : Int32) (x0_numbers : (Nat → Int32)) (x0_statements : Int32) (x0_left : (Nat → Int32)) (x0_far : (Nat → Int32)) (x0_tons : Int32) (x0_way : (Nat → Int32)) (x0_steps : Int32) (x0_met : Int64) (x0_totals : (Nat → Int32)) (z4 : Int64) (z5 : Int32) (z6 : Int32) (z7 : (Nat → Int32)) : Option ((Int64 × Int32 × Int32 × (Nat → Int32)) ⊕ ((((Nat → Int32)) ⊕ ((Nat → Int32))))) :=
  if z5 ≤ z6 then (some (.inr (.inr z7))) else ((rd 36 z7 z6).bind fun v11 => if (v11 / 3) = p2 then (some (.inr (.inl z7))) else ((lp (u4 (fX7_canEnd_s62 x0_shelf x0_rowSort x0_rowSize x0_rows x0_moved x0_shown x0_tape x0_tapeSize x0_refused x0_lines x0_line x0_changes x0_coins x0_goods x0_good x0_works x0_work x0_years x0_gone x0_spent x0_at x0_token x0_from x0_figures x0_fault x0_numbers x0_statements x0_left x0_far x0_tons x0_way x0_steps x0_met x0_totals z6)) n (z4, z5, 0, z7)).bind (u3 fun w18 w19 w20 => some (.inl (w18, w19, (z6 + 1), w20)))))
def fX7_canEnd (n : Nat) (X0 : MdT) (p1 : Int32) (p2 : Int32) : Option (Int32 × (Nat → Int32)) :=
  u35 (fun (x0_shelf : (Nat → Int32)) (x0_rowSort : (Nat → Int32)) (x0_rowSize : (Nat → Int32)) (x0_rows : (Nat → Nat → Int64)) (x0_moved : (Nat → Int64)) (x0_shown : (Nat → Int32)) (x0_tape : (Nat → Int32)) (x0_tapeSize : Int32) (x0_refused : (Nat → Int32)) (x0_lines : Int32) (x0_line : (Nat → Nat → Int32)) (x0_changes : (Nat → Int32)) (x0_coins : (Nat → Int32)) (x0_goods : Int32) (x0_good : (Nat → Nat → Int32)) (x0_works : Int32) (x0_work : (Nat → Nat → Int32)) (x0_years : Int32) (x0_gone : Int32) (x0_spent : Int32) (x0_at : Int32) (x0_token : Int32) (x0_from : Int32) (x0_figures : Int64) (x0_fault : Int32) (x0_numbers : (Nat → Int32)) (x0_statements : Int32) (x0_left : (Nat → Int32)) (x0_far : (Nat → Int32)) (x0_tons : Int32) (x0_way : (Nat → Int32)) (x0_steps : Int32) (x0_met : Int64) (x0_queue : (Nat → Int32)) (x0_totals : (Nat → Int32)) => if (lg_cmp ((x0_met >>> ((p1).toInt64 &&& 63)) &&& (1 : Int64)) (0 : Int64)) = 0 then ((some (x0_met ||| ((1 : Int64) <<< ((p1).toInt64 &&& 63)))).bind fun t1 => (wr 36 x0_queue (0) p1).bind fun f2 => (lp (u4 (fX7_canEnd_s37 n p2 x0_shelf x0_rowSort x0_rowSize x0_rows x0_moved x0_shown x0_tape x0_tapeSize x0_refused x0_lines x0_line x0_changes x0_coins x0_goods x0_good x0_works x0_work x0_years x0_gone x0_spent x0_at x0_token x0_from x0_figures x0_fault x0_numbers x0_statements x0_left x0_far x0_tons x0_way x0_steps x0_met x0_totals)) n (t1, 1, 0, f2)).bind (Sum.elim (fun w9 => some (1, w9)) (fun w10 => some (0, w10)))) else (some (0, x0_queue))) X0
set_option maxHeartbeats 4000000 in
set_option maxRecDepth 100000 in
theorem kX7_canEnd (l : Launch) (d : DT) (h0 : Nat → Nat) (r0_rows : Nat → Nat) (r0_line : Nat → Nat) (r0_good : Nat → Nat) (r0_work : Nat → Nat) (a0_kept : Option Nat) (a0_tried : Option Nat) (a0_chosen : Option Nat) (n : Nat) (x0_shelf : (Nat → Int32)) (x0_rowSort : (Nat → Int32)) (x0_rowSize : (Nat → Int32)) (x0_rows : (Nat → Nat → Int64)) (x0_moved : (Nat → Int64)) (x0_shown : (Nat → Int32)) (x0_tape : (Nat → Int32)) (x0_tapeSize : Int32) (x0_refused : (Nat → Int32)) (x0_lines : Int32) (x0_line : (Nat → Nat → Int32)) (x0_changes : (Nat → Int32)) (x0_coins : (Nat → Int32)) (x0_goods : Int32) (x0_good : (Nat → Nat → Int32)) (x0_works : Int32) (x0_work : (Nat → Nat → Int32)) (x0_years : Int32) (x0_gone : Int32) (x0_spent : Int32) (x0_at : Int32) (x0_token : Int32) (x0_from : Int32) (x0_figures : Int64) (x0_fault : Int32) (x0_numbers : (Nat → Int32)) (x0_statements : Int32) (x0_left : (Nat → Int32)) (x0_far : (Nat → Int32)) (x0_tons : Int32) (x0_way : (Nat → Int32)) (x0_steps : Int32) (x0_met : Int64) (x0_queue : (Nat → Int32)) (x0_totals : (Nat → Int32)) (p1 : Int32) (p2 : Int32)  {out : Int32 × (Nat → Int32)} (hf : fX7_canEnd n (x0_shelf, x0_rowSort, x0_rowSize, x0_rows, x0_moved, x0_shown, x0_tape, x0_tapeSize, x0_refused, x0_lines, x0_line, x0_changes, x0_coins, x0_goods, x0_good, x0_works, x0_work, x0_years, x0_gone, x0_spent, x0_at, x0_token, x0_from, x0_figures, x0_fault, x0_numbers, x0_statements, x0_left, x0_far, x0_tons, x0_way, x0_steps, x0_met, x0_queue, x0_totals) p1 p2 = some out) : Ct l d yX7_canEnd cX7_canEnd 9 (some .boolean) { frames := 2, cells := 0, slots := 0, locals := 47 } [.ref (h0 0), .int p1, .int p2] [gMd d h0 a0_kept a0_tried a0_chosen r0_rows r0_line r0_good r0_work x0_shelf x0_rowSort x0_rowSize x0_moved x0_shown x0_tape x0_tapeSize x0_refused x0_lines x0_changes x0_coins x0_goods x0_works x0_years x0_gone x0_spent x0_at x0_token x0_from x0_figures x0_fault x0_numbers x0_statements x0_left x0_far x0_tons x0_way x0_steps x0_met x0_queue x0_totals, gridI d r0_line 20 7 x0_line] (fun _ : Unit => (some (.int out.1), [gMd d h0 a0_kept a0_tried a0_chosen r0_rows r0_line r0_good r0_work x0_shelf x0_rowSort x0_rowSize x0_moved x0_shown x0_tape x0_tapeSize x0_refused x0_lines x0_changes x0_coins x0_goods x0_works x0_years x0_gone x0_spent x0_at x0_token x0_from x0_figures x0_fault x0_numbers x0_statements x0_left x0_far x0_tons x0_way x0_steps x0_met (out.2) x0_totals, gridI d r0_line 20 7 x0_line])) := by
  refine Ct.of (by decide) (Nat.le_of_ble_eq_true rfl) ?_
  intro Φ hl hK hR
  subst hl
  have hK : Ok d Φ RX7 "canEnd" cX7_canEnd 9 (some .boolean) { frames := 2, cells := 0, slots := 0, locals := 47 } := hK
  unfold fX7_canEnd at hf
  have hf := un35 hf
  show J d Φ 9 [gMd d h0 a0_kept a0_tried a0_chosen r0_rows r0_line r0_good r0_work x0_shelf x0_rowSort x0_rowSize x0_moved x0_shown x0_tape x0_tapeSize x0_refused x0_lines x0_changes x0_coins x0_goods x0_works x0_years x0_gone x0_spent x0_at x0_token x0_from x0_figures x0_fault x0_numbers x0_statements x0_left x0_far x0_tons x0_way x0_steps x0_met x0_queue x0_totals, gridI d r0_line 20 7 x0_line] 0 0 0 [(0, .ref (h0 0)), (1, .int p1), (2, .int p2)] []
  refine J_aload_n hK dX7_canEnd_0 rfl 0 rfl rfl ?_
  refine J_get hK fo_RX7_257 dX7_canEnd_1 rfl 0 0 rfl rfl rfl ?_
  refine J_iload_n hK dX7_canEnd_4 rfl 1 rfl rfl ?_
  refine J_lshr hK dX7_canEnd_5 rfl ?_
  refine J_lconst (v := 1) hK dX7_canEnd_6 rfl (by decide) ?_
  refine J_land hK dX7_canEnd_7 rfl ?_
  refine J_lconst (v := 0) hK dX7_canEnd_8 rfl (by decide) ?_
  refine J_lcmp hK dX7_canEnd_9 rfl ?_
  refine J_if_eq (tg := 15) hK dX7_canEnd_10 rfl rfl (fun hc10 => ?_) (fun hc10 => ?_)
  · have hf := ip hc10 hf
    refine J_aload_n hK dX7_canEnd_15 rfl 0 rfl rfl ?_
    refine J_get hK fo_RX7_257 dX7_canEnd_16 rfl 0 0 rfl rfl rfl ?_
    refine J_lconst (v := 1) hK dX7_canEnd_19 rfl (by decide) ?_
    refine J_iload_n hK dX7_canEnd_20 rfl 1 rfl rfl ?_
    refine J_lshl hK dX7_canEnd_21 rfl ?_
    refine J_lor hK dX7_canEnd_22 rfl ?_
    obtain ⟨t1, et1, hf⟩ := bs hf
    refine J_nml et1 ?_
    refine J_lstore_n (L' := [(3, .long t1), (0, .ref (h0 0)), (1, .int p1), (2, .int p2)]) hK dX7_canEnd_23 rfl rfl (by decide) rfl ?_
    refine J_iconst (v := 1) hK dX7_canEnd_24 rfl (by decide) ?_
    refine J_istore (L' := [(5, .int (1)), (3, .long t1), (0, .ref (h0 0)), (1, .int p1), (2, .int p2)]) hK dX7_canEnd_25 rfl (by decide) rfl ?_
    refine J_aload_n hK dX7_canEnd_27 rfl 2 rfl rfl ?_
    refine J_get hK fo_RX7_70 dX7_canEnd_28 rfl 0 0 rfl rfl rfl ?_
    refine J_iconst (v := 0) hK dX7_canEnd_31 rfl (by decide) ?_
    refine J_iload_n hK dX7_canEnd_32 rfl 3 rfl rfl ?_
    obtain ⟨f2, ef2, hf⟩ := bs hf
    refine J_iast (g' := gMd d h0 a0_kept a0_tried a0_chosen r0_rows r0_line r0_good r0_work x0_shelf x0_rowSort x0_rowSize x0_moved x0_shown x0_tape x0_tapeSize x0_refused x0_lines x0_changes x0_coins x0_goods x0_works x0_years x0_gone x0_spent x0_at x0_token x0_from x0_figures x0_fault x0_numbers x0_statements x0_left x0_far x0_tons x0_way x0_steps x0_met f2 x0_totals) (gs' := [gMd d h0 a0_kept a0_tried a0_chosen r0_rows r0_line r0_good r0_work x0_shelf x0_rowSort x0_rowSize x0_moved x0_shown x0_tape x0_tapeSize x0_refused x0_lines x0_changes x0_coins x0_goods x0_works x0_years x0_gone x0_spent x0_at x0_token x0_from x0_figures x0_fault x0_numbers x0_statements x0_left x0_far x0_tons x0_way x0_steps x0_met f2 x0_totals, gridI d r0_line 20 7 x0_line]) hK dX7_canEnd_33 rfl 0 18 rfl rfl ef2 rfl rfl ?_
    refine J_iconst (v := 0) hK dX7_canEnd_34 rfl (by decide) ?_
    refine J_istore (L' := [(6, .int (0)), (5, .int (1)), (3, .long t1), (0, .ref (h0 0)), (1, .int p1), (2, .int p2)]) hK dX7_canEnd_35 rfl (by decide) rfl ?_
    obtain ⟨e8, hl3, hf⟩ := bs hf
    have hx3_57 : ∀ (w9 : (Nat → Int32)), (.inl w9) = e8 → J d Φ 9 [gMd d h0 a0_kept a0_tried a0_chosen r0_rows r0_line r0_good r0_work x0_shelf x0_rowSort x0_rowSize x0_moved x0_shown x0_tape x0_tapeSize x0_refused x0_lines x0_changes x0_coins x0_goods x0_works x0_years x0_gone x0_spent x0_at x0_token x0_from x0_figures x0_fault x0_numbers x0_statements x0_left x0_far x0_tons x0_way x0_steps x0_met w9 x0_totals, gridI d r0_line 20 7 x0_line] 0 0 57 [] [] := by
      intro w9 he
      rw [← he] at hf
      simp only [Sum.elim_inl, Sum.elim_inr] at hf
      refine J_iconst (v := 1) hK dX7_canEnd_57 rfl (by decide) ?_
      obtain rfl := Option.some.inj hf
      exact J_zret hK hR dX7_canEnd_58 () rfl rfl (by decide) (by decide)
    have hx3_136 : ∀ (w10 : (Nat → Int32)), (.inr w10) = e8 → J d Φ 9 [gMd d h0 a0_kept a0_tried a0_chosen r0_rows r0_line r0_good r0_work x0_shelf x0_rowSort x0_rowSize x0_moved x0_shown x0_tape x0_tapeSize x0_refused x0_lines x0_changes x0_coins x0_goods x0_works x0_years x0_gone x0_spent x0_at x0_token x0_from x0_figures x0_fault x0_numbers x0_statements x0_left x0_far x0_tons x0_way x0_steps x0_met w10 x0_totals, gridI d r0_line 20 7 x0_line] 0 0 136 [] [] := by
      intro w10 he
      rw [← he] at hf
      simp only [Sum.elim_inl, Sum.elim_inr] at hf
      refine J_iconst (v := 0) hK dX7_canEnd_136 rfl (by decide) ?_
      obtain rfl := Option.some.inj hf
      exact J_zret hK hR dX7_canEnd_137 () rfl rfl (by decide) (by decide)
    have lo3 : ∀ (k : Nat) (z4 : Int64) (z5 : Int32) (z6 : Int32) (z7 : (Nat → Int32)), lp (u4 (fX7_canEnd_s37 n p2 x0_shelf x0_rowSort x0_rowSize x0_rows x0_moved x0_shown x0_tape x0_tapeSize x0_refused x0_lines x0_line x0_changes x0_coins x0_goods x0_good x0_works x0_work x0_years x0_gone x0_spent x0_at x0_token x0_from x0_figures x0_fault x0_numbers x0_statements x0_left x0_far x0_tons x0_way x0_steps x0_met x0_totals)) k (z4, z5, z6, z7) = some e8 → J d Φ 9 [gMd d h0 a0_kept a0_tried a0_chosen r0_rows r0_line r0_good r0_work x0_shelf x0_rowSort x0_rowSize x0_moved x0_shown x0_tape x0_tapeSize x0_refused x0_lines x0_changes x0_coins x0_goods x0_works x0_years x0_gone x0_spent x0_at x0_token x0_from x0_figures x0_fault x0_numbers x0_statements x0_left x0_far x0_tons x0_way x0_steps x0_met z7 x0_totals, gridI d r0_line 20 7 x0_line] 0 0 37 [(0, .ref (h0 0)), (2, .int p2), (3, .long z4), (5, .int z5), (6, .int z6)] [] := by
      intro k
      induction k with
      | zero => intro z4 z5 z6 z7 h; cases h
      | succ k ih3 =>
        intro z4 z5 z6 z7 h
        obtain ⟨k2, rr3, hk2, hs3, hr3⟩ := lp_ok h
        cases hk2
        have hs3 : fX7_canEnd_s37 n p2 x0_shelf x0_rowSort x0_rowSize x0_rows x0_moved x0_shown x0_tape x0_tapeSize x0_refused x0_lines x0_line x0_changes x0_coins x0_goods x0_good x0_works x0_work x0_years x0_gone x0_spent x0_at x0_token x0_from x0_figures x0_fault x0_numbers x0_statements x0_left x0_far x0_tons x0_way x0_steps x0_met x0_totals z4 z5 z6 z7 = some rr3 := hs3
        unfold fX7_canEnd_s37 at hs3
        refine J_iload hK dX7_canEnd_37 rfl 4 rfl ?_
        refine J_iload hK dX7_canEnd_39 rfl 3 rfl ?_
        refine J_icmp_ge (tg := 136) hK dX7_canEnd_41 rfl rfl (fun hc41 => ?_) (fun hc41 => ?_)
        · have hs3 := ip hc41 hs3
          exact J_loc [] rfl (hx3_136 z7 (lpx hs3 hr3))
        · have hs3 := iq hc41 hs3
          refine J_aload_n hK dX7_canEnd_44 rfl 0 rfl rfl ?_
          refine J_get hK fo_RX7_70 dX7_canEnd_45 rfl 0 0 rfl rfl rfl ?_
          refine J_iload hK dX7_canEnd_48 rfl 4 rfl ?_
          obtain ⟨v11, ev11, hs3⟩ := bs hs3
          refine J_iald hK dX7_canEnd_50 rfl 0 18 rfl rfl ev11 ?_
          refine J_iconst (v := 3) hK dX7_canEnd_51 rfl (by decide) ?_
          refine J_idiv hK dX7_canEnd_52 rfl (by decide) ?_
          refine J_iload_n hK dX7_canEnd_53 rfl 1 rfl rfl ?_
          refine J_icmp_ne (tg := 59) hK dX7_canEnd_54 rfl rfl (fun hc54 => ?_) (fun hc54 => ?_)
          · have hs3 := iq hc54 hs3
            refine J_iconst (v := 0) hK dX7_canEnd_59 rfl (by decide) ?_
            refine J_istore (L' := [(7, .int (0)), (0, .ref (h0 0)), (2, .int p2), (3, .long z4), (5, .int z5), (6, .int z6)]) hK dX7_canEnd_60 rfl (by decide) rfl ?_
            obtain ⟨e17, hl12, hs3⟩ := bs hs3
            have hx12_130 : ∀ (w18 : Int64) (w19 : Int32) (w20 : (Nat → Int32)), (w18, w19, w20) = e17 → J d Φ 9 [gMd d h0 a0_kept a0_tried a0_chosen r0_rows r0_line r0_good r0_work x0_shelf x0_rowSort x0_rowSize x0_moved x0_shown x0_tape x0_tapeSize x0_refused x0_lines x0_changes x0_coins x0_goods x0_works x0_years x0_gone x0_spent x0_at x0_token x0_from x0_figures x0_fault x0_numbers x0_statements x0_left x0_far x0_tons x0_way x0_steps x0_met w20 x0_totals, gridI d r0_line 20 7 x0_line] 0 0 130 [(0, .ref (h0 0)), (2, .int p2), (3, .long w18), (5, .int w19), (6, .int z6)] [] := by
              intro w18 w19 w20 he
              rw [← he] at hs3
              have hs3 := un3 hs3
              refine J_iinc (L' := [(6, .int (z6 + 1)), (0, .ref (h0 0)), (2, .int p2), (3, .long w18), (5, .int w19)]) (v := (z6 + 1)) hK dX7_canEnd_130 rfl 4 rfl rfl (by decide) rfl ?_
              refine J_goto hK dX7_canEnd_133 (n := 37) rfl ?_
              exact J_loc [1, 2, 3, 4, 0] rfl (ih3 w18 w19 (z6 + 1) w20 (lpc hs3 hr3))
            have lo12 : ∀ (k : Nat) (z13 : Int64) (z14 : Int32) (z15 : Int32) (z16 : (Nat → Int32)), lp (u4 (fX7_canEnd_s62 x0_shelf x0_rowSort x0_rowSize x0_rows x0_moved x0_shown x0_tape x0_tapeSize x0_refused x0_lines x0_line x0_changes x0_coins x0_goods x0_good x0_works x0_work x0_years x0_gone x0_spent x0_at x0_token x0_from x0_figures x0_fault x0_numbers x0_statements x0_left x0_far x0_tons x0_way x0_steps x0_met x0_totals z6)) k (z13, z14, z15, z16) = some e17 → J d Φ 9 [gMd d h0 a0_kept a0_tried a0_chosen r0_rows r0_line r0_good r0_work x0_shelf x0_rowSort x0_rowSize x0_moved x0_shown x0_tape x0_tapeSize x0_refused x0_lines x0_changes x0_coins x0_goods x0_works x0_years x0_gone x0_spent x0_at x0_token x0_from x0_figures x0_fault x0_numbers x0_statements x0_left x0_far x0_tons x0_way x0_steps x0_met z16 x0_totals, gridI d r0_line 20 7 x0_line] 0 0 62 [(0, .ref (h0 0)), (2, .int p2), (3, .long z13), (5, .int z14), (6, .int z6), (7, .int z15)] [] := by
              intro k
              induction k with
              | zero => intro z13 z14 z15 z16 h; cases h
              | succ k ih12 =>
                intro z13 z14 z15 z16 h
                obtain ⟨k2, rr12, hk2, hs12, hr12⟩ := lp_ok h
                cases hk2
                have hs12 : fX7_canEnd_s62 x0_shelf x0_rowSort x0_rowSize x0_rows x0_moved x0_shown x0_tape x0_tapeSize x0_refused x0_lines x0_line x0_changes x0_coins x0_goods x0_good x0_works x0_work x0_years x0_gone x0_spent x0_at x0_token x0_from x0_figures x0_fault x0_numbers x0_statements x0_left x0_far x0_tons x0_way x0_steps x0_met x0_totals z6 z13 z14 z15 z16 = some rr12 := hs12
                unfold fX7_canEnd_s62 at hs12
                refine J_iload hK dX7_canEnd_62 rfl 5 rfl ?_
                refine J_iconst (v := 3) hK dX7_canEnd_64 rfl (by decide) ?_
                refine J_aload_n hK dX7_canEnd_65 rfl 0 rfl rfl ?_
                refine J_get hK fo_RX7_82 dX7_canEnd_66 rfl 0 0 rfl rfl rfl ?_
                refine J_iadd hK dX7_canEnd_69 rfl ?_
                refine J_icmp_ge (tg := 130) hK dX7_canEnd_70 rfl rfl (fun hc70 => ?_) (fun hc70 => ?_)
                · have hs12 := ip hc70 hs12
                  exact J_loc [0, 1, 2, 3, 4] rfl (hx12_130 z13 z14 z16 (lpx hs12 hr12))
                · have hs12 := iq hc70 hs12
                  refine J_aload_n hK dX7_canEnd_73 rfl 0 rfl rfl ?_
                  refine J_aload_n hK dX7_canEnd_74 rfl 0 rfl rfl ?_
                  refine J_get hK fo_RX7_70 dX7_canEnd_75 rfl 0 0 rfl rfl rfl ?_
                  refine J_iload hK dX7_canEnd_78 rfl 4 rfl ?_
                  obtain ⟨v21, ev21, hs12⟩ := bs hs12
                  refine J_iald hK dX7_canEnd_80 rfl 0 18 rfl rfl ev21 ?_
                  refine J_iload hK dX7_canEnd_81 rfl 5 rfl ?_
                  obtain ⟨v22, e23, hs12⟩ := bs hs12
                  refine J_callV (m' := 2) (ce' := 0) (sl' := 0) (gr := []) (gs' := fun _ => [gMd d h0 a0_kept a0_tried a0_chosen r0_rows r0_line r0_good r0_work x0_shelf x0_rowSort x0_rowSize x0_moved x0_shown x0_tape x0_tapeSize x0_refused x0_lines x0_changes x0_coins x0_goods x0_works x0_years x0_gone x0_spent x0_at x0_token x0_from x0_figures x0_fault x0_numbers x0_statements x0_left x0_far x0_tons x0_way x0_steps x0_met z16 x0_totals, gridI d r0_line 20 7 x0_line]) (st' := fun _ => [.int v22]) (st := []) hK dX7_canEnd_83 cv_RX7_260 iv_yX7_stepTo (As := [.int v21, .int z15]) (kX7_stepTo _ d h0 r0_rows r0_line r0_good r0_work a0_kept a0_tried a0_chosen x0_shelf x0_rowSort x0_rowSize x0_rows x0_moved x0_shown x0_tape x0_tapeSize x0_refused x0_lines x0_line x0_changes x0_coins x0_goods x0_good x0_works x0_work x0_years x0_gone x0_spent x0_at x0_token x0_from x0_figures x0_fault x0_numbers x0_statements x0_left x0_far x0_tons x0_way x0_steps x0_met z16 x0_totals v21 z15 e23) rfl rfl (Nat.le_of_ble_eq_true rfl) (by decide) 0 0 rfl rfl rfl [0, 1] [] rfl rfl rfl rfl [0, 1] rfl (fun _ => rfl) (fun _ => rfl) rfl rfl rfl (fun _ => rfl) (fun _ => ?_)
                  refine J_istore (L' := [(8, .int v22), (0, .ref (h0 0)), (2, .int p2), (3, .long z13), (5, .int z14), (6, .int z6), (7, .int z15)]) hK dX7_canEnd_86 rfl (by decide) rfl ?_
                  refine J_iload hK dX7_canEnd_88 rfl 0 rfl ?_
                  refine J_iconst (v := (-1)) hK dX7_canEnd_90 rfl (by decide) ?_
                  refine J_icmp_eq (tg := 124) hK dX7_canEnd_91 rfl rfl (fun hc91 => ?_) (fun hc91 => ?_)
                  · have hs12 := ip hc91 hs12
                    refine J_iinc (L' := [(7, .int (z15 + 1)), (8, .int v22), (0, .ref (h0 0)), (2, .int p2), (3, .long z13), (5, .int z14), (6, .int z6)]) (v := (z15 + 1)) hK dX7_canEnd_124 rfl 6 rfl rfl (by decide) rfl ?_
                    refine J_goto hK dX7_canEnd_127 (n := 62) rfl ?_
                    exact J_loc [2, 3, 4, 5, 6, 0] rfl (ih12 z13 z14 (z15 + 1) z16 (lpc hs12 hr12))
                  · have hs12 := iq hc91 hs12
                    refine J_lload_n hK dX7_canEnd_94 rfl 3 rfl rfl ?_
                    refine J_iload hK dX7_canEnd_95 rfl 0 rfl ?_
                    refine J_lshr hK dX7_canEnd_97 rfl ?_
                    refine J_lconst (v := 1) hK dX7_canEnd_98 rfl (by decide) ?_
                    refine J_land hK dX7_canEnd_99 rfl ?_
                    refine J_lconst (v := 0) hK dX7_canEnd_100 rfl (by decide) ?_
                    refine J_lcmp hK dX7_canEnd_101 rfl ?_
                    refine J_if_ne (tg := 124) hK dX7_canEnd_102 rfl rfl (fun hc102 => ?_) (fun hc102 => ?_)
                    · have hs12 := iq hc102 hs12
                      refine J_iinc (L' := [(7, .int (z15 + 1)), (8, .int v22), (0, .ref (h0 0)), (2, .int p2), (3, .long z13), (5, .int z14), (6, .int z6)]) (v := (z15 + 1)) hK dX7_canEnd_124 rfl 6 rfl rfl (by decide) rfl ?_
                      refine J_goto hK dX7_canEnd_127 (n := 62) rfl ?_
                      exact J_loc [2, 3, 4, 5, 6, 0] rfl (ih12 z13 z14 (z15 + 1) z16 (lpc hs12 hr12))
                    · have hs12 := ip hc102 hs12
                      refine J_lload_n hK dX7_canEnd_105 rfl 3 rfl rfl ?_
                      refine J_lconst (v := 1) hK dX7_canEnd_106 rfl (by decide) ?_
                      refine J_iload hK dX7_canEnd_107 rfl 0 rfl ?_
                      refine J_lshl hK dX7_canEnd_109 rfl ?_
                      refine J_lor hK dX7_canEnd_110 rfl ?_
                      obtain ⟨t24, et24, hs12⟩ := bs hs12
                      refine J_nml et24 ?_
                      refine J_lstore_n (L' := [(3, .long t24), (8, .int v22), (0, .ref (h0 0)), (2, .int p2), (5, .int z14), (6, .int z6), (7, .int z15)]) hK dX7_canEnd_111 rfl rfl (by decide) rfl ?_
                      refine J_aload_n hK dX7_canEnd_112 rfl 2 rfl rfl ?_
                      refine J_get hK fo_RX7_70 dX7_canEnd_113 rfl 0 0 rfl rfl rfl ?_
                      refine J_iload hK dX7_canEnd_116 rfl 4 rfl ?_
                      refine J_iinc (L' := [(5, .int (z14 + 1)), (3, .long t24), (8, .int v22), (0, .ref (h0 0)), (2, .int p2), (6, .int z6), (7, .int z15)]) (v := (z14 + 1)) hK dX7_canEnd_118 rfl 4 rfl rfl (by decide) rfl ?_
                      refine J_iload hK dX7_canEnd_121 rfl 2 rfl ?_
                      obtain ⟨f25, ef25, hs12⟩ := bs hs12
                      refine J_iast (g' := gMd d h0 a0_kept a0_tried a0_chosen r0_rows r0_line r0_good r0_work x0_shelf x0_rowSort x0_rowSize x0_moved x0_shown x0_tape x0_tapeSize x0_refused x0_lines x0_changes x0_coins x0_goods x0_works x0_years x0_gone x0_spent x0_at x0_token x0_from x0_figures x0_fault x0_numbers x0_statements x0_left x0_far x0_tons x0_way x0_steps x0_met f25 x0_totals) (gs' := [gMd d h0 a0_kept a0_tried a0_chosen r0_rows r0_line r0_good r0_work x0_shelf x0_rowSort x0_rowSize x0_moved x0_shown x0_tape x0_tapeSize x0_refused x0_lines x0_changes x0_coins x0_goods x0_works x0_years x0_gone x0_spent x0_at x0_token x0_from x0_figures x0_fault x0_numbers x0_statements x0_left x0_far x0_tons x0_way x0_steps x0_met f25 x0_totals, gridI d r0_line 20 7 x0_line]) hK dX7_canEnd_123 rfl 0 18 rfl rfl ef25 rfl rfl ?_
                      refine J_iinc (L' := [(7, .int (z15 + 1)), (5, .int (z14 + 1)), (3, .long t24), (8, .int v22), (0, .ref (h0 0)), (2, .int p2), (6, .int z6)]) (v := (z15 + 1)) hK dX7_canEnd_124 rfl 6 rfl rfl (by decide) rfl ?_
                      refine J_goto hK dX7_canEnd_127 (n := 62) rfl ?_
                      exact J_loc [4, 5, 2, 1, 6, 0] rfl (ih12 t24 (z14 + 1) (z15 + 1) f25 (lpc hs12 hr12))
            exact J_loc [1, 2, 3, 4, 5, 0] rfl (lo12 n z4 z5 (0) z7 hl12)
          · have hs3 := ip hc54 hs3
            exact J_loc [] rfl (hx3_57 z7 (lpx hs3 hr3))
    exact J_loc [3, 5, 2, 1, 0] rfl (lo3 n t1 (1) (0) f2 hl3)
  · have hf := iq hc10 hf
    refine J_iconst (v := 0) hK dX7_canEnd_13 rfl (by decide) ?_
    obtain rfl := Option.some.inj hf
    exact J_zret hK hR dX7_canEnd_14 () rfl rfl (by decide) (by decide)

def fX7_findWay_j162 (x0_shelf : (Nat → Int32)) (x0_rowSort : (Nat → Int32)) (x0_rowSize : (Nat → Int32)) (x0_rows : (Nat → Nat → Int64)) (x0_moved : (Nat → Int64)) (x0_shown : (Nat → Int32)) (x0_tape : (Nat → Int32)) (x0_tapeSize : Int32) (x0_refused : (Nat → Int32)) (x0_lines : Int32) (x0_line : (Nat → Nat → Int32)) (x0_changes : (Nat → Int32)) (x0_coins : (Nat → Int32)) (x0_goods : Int32) (x0_good : (Nat → Nat → Int32)) (x0_works : Int32) (x0_work : (Nat → Nat → Int32)) (x0_years : Int32) (x0_gone : Int32) (x0_spent : Int32) (x0_at : Int32) (x0_token : Int32) (x0_from : Int32) (x0_figures : Int64) (x0_fault : Int32) (x0_numbers : (Nat → Int32)) (x0_statements : Int32) (x0_left : (Nat → Int32)) (x0_totals : (Nat → Int32)) (g1 : (Nat → Int32)) (g2 : Int32) (z16 : Int32) (z17 : (Nat → Int32)) (z18 : Int32) (z19 : Int64) (z29 : Int32) (x38 : (Nat → Int32)) : Option ((Int32 × Int32 × (Nat → Int32)) ⊕ (Int32 × Int32 × (Nat → Int32))) :=
  (fX7_stepTo (x0_shelf, x0_rowSort, x0_rowSize, x0_rows, x0_moved, x0_shown, x0_tape, x0_tapeSize, x0_refused, x0_lines, x0_line, x0_changes, x0_coins, x0_goods, x0_good, x0_works, x0_work, x0_years, x0_gone, x0_spent, x0_at, x0_token, x0_from, x0_figures, x0_fault, x0_numbers, x0_statements, x0_left, g1, g2, z17, z18, z19, x38, x0_totals) z16 (z29 + 1)).bind (fun v39 => some (.inl ((z29 + 1), v39, x38)))
def fX7_findWay_s146 (n : Nat) (p2 : Int32) (x0_shelf : (Nat → Int32)) (x0_rowSort : (Nat → Int32)) (x0_rowSize : (Nat → Int32)) (x0_rows : (Nat → Nat → Int64)) (x0_moved : (Nat → Int64)) (x0_shown : (Nat → Int32)) (x0_tape : (Nat → Int32)) (x0_tapeSize : Int32) (x0_refused : (Nat → Int32)) (x0_lines : Int32) (x0_line : (Nat → Nat → Int32)) (x0_changes : (Nat → Int32)) (x0_coins : (Nat → Int32)) (x0_goods : Int32) (x0_good : (Nat → Nat → Int32)) (x0_works : Int32) (x0_work : (Nat → Nat → Int32)) (x0_years : Int32) (x0_gone : Int32) (x0_spent : Int32) (x0_at : Int32) (x0_token : Int32) (x0_from : Int32) (x0_figures : Int64) (x0_fault : Int32) (x0_numbers : (Nat → Int32)) (x0_statements : Int32) (x0_left : (Nat → Int32)) (x0_totals : (Nat → Int32)) (g1 : (Nat → Int32)) (g2 : Int32) (z16 : Int32) (z17 : (Nat → Int32)) (z18 : Int32) (z19 : Int64) (z29 : Int32) (z30 : Int32) (z31 : (Nat → Int32)) : Option ((Int32 × Int32 × (Nat → Int32)) ⊕ (Int32 × Int32 × (Nat → Int32))) :=
  if z30 = (-1) then (fX7_findWay_j162 x0_shelf x0_rowSort x0_rowSize x0_rows x0_moved x0_shown x0_tape x0_tapeSize x0_refused x0_lines x0_line x0_changes x0_coins x0_goods x0_good x0_works x0_work x0_years x0_gone x0_spent x0_at x0_token x0_from x0_figures x0_fault x0_numbers x0_statements x0_left x0_totals g1 g2 z16 z17 z18 z19 z29 z31) else ((fX7_canEnd n (x0_shelf, x0_rowSort, x0_rowSize, x0_rows, x0_moved, x0_shown, x0_tape, x0_tapeSize, x0_refused, x0_lines, x0_line, x0_changes, x0_coins, x0_goods, x0_good, x0_works, x0_work, x0_years, x0_gone, x0_spent, x0_at, x0_token, x0_from, x0_figures, x0_fault, x0_numbers, x0_statements, x0_left, g1, g2, z17, z18, z19, z31, x0_totals) z30 p2).bind (u2 fun v41 g42 => if v41 = 0 then (fX7_findWay_j162 x0_shelf x0_rowSort x0_rowSize x0_rows x0_moved x0_shown x0_tape x0_tapeSize x0_refused x0_lines x0_line x0_changes x0_coins x0_goods x0_good x0_works x0_work x0_years x0_gone x0_spent x0_at x0_token x0_from x0_figures x0_fault x0_numbers x0_statements x0_left x0_totals g1 g2 z16 z17 z18 z19 z29 g42) else (some (.inr (z29, z30, g42)))))
def fX7_findWay_s125 (n : Nat) (p2 : Int32) (x0_shelf : (Nat → Int32)) (x0_rowSort : (Nat → Int32)) (x0_rowSize : (Nat → Int32)) (x0_rows : (Nat → Nat → Int64)) (x0_moved : (Nat → Int64)) (x0_shown : (Nat → Int32)) (x0_tape : (Nat → Int32)) (x0_tapeSize : Int32) (x0_refused : (Nat → Int32)) (x0_lines : Int32) (x0_line : (Nat → Nat → Int32)) (x0_changes : (Nat → Int32)) (x0_coins : (Nat → Int32)) (x0_goods : Int32) (x0_good : (Nat → Nat → Int32)) (x0_works : Int32) (x0_work : (Nat → Nat → Int32)) (x0_years : Int32) (x0_gone : Int32) (x0_spent : Int32) (x0_at : Int32) (x0_token : Int32) (x0_from : Int32) (x0_figures : Int64) (x0_fault : Int32) (x0_numbers : (Nat → Int32)) (x0_statements : Int32) (x0_left : (Nat → Int32)) (x0_totals : (Nat → Int32)) (g1 : (Nat → Int32)) (g2 : Int32) (z16 : Int32) (z17 : (Nat → Int32)) (z18 : Int32) (z19 : Int64) (z20 : (Nat → Int32)) : Option ((Int32 × (Nat → Int32) × Int32 × Int64 × (Nat → Int32)) ⊕ ((Nat → Int32) × Int32 × Int64 × (Nat → Int32))) :=
  if (z16 / 3) = p2 then (some (.inr (z17, z18, z19, z20))) else ((fX7_stepTo (x0_shelf, x0_rowSort, x0_rowSize, x0_rows, x0_moved, x0_shown, x0_tape, x0_tapeSize, x0_refused, x0_lines, x0_line, x0_changes, x0_coins, x0_goods, x0_good, x0_works, x0_work, x0_years, x0_gone, x0_spent, x0_at, x0_token, x0_from, x0_figures, x0_fault, x0_numbers, x0_statements, x0_left, g1, g2, z17, z18, z19, z20, x0_totals) z16 (0)).bind (fun v26 => (lp (u3 (fX7_findWay_s146 n p2 x0_shelf x0_rowSort x0_rowSize x0_rows x0_moved x0_shown x0_tape x0_tapeSize x0_refused x0_lines x0_line x0_changes x0_coins x0_goods x0_good x0_works x0_work x0_years x0_gone x0_spent x0_at x0_token x0_from x0_figures x0_fault x0_numbers x0_statements x0_left x0_totals g1 g2 z16 z17 z18 z19)) n (0, v26, z20)).bind (u3 fun w33 w34 w35 => (wr 37 z17 z18 w33).bind fun f36 => (some (z19 ||| ((1 : Int64) <<< ((w34).toInt64 &&& 63)))).bind fun t37 => some (.inl (w34, f36, (z18 + 1), t37, w35)))))
def fX7_findWay_s38 (n : Nat) (p1 : Int32) (p2 : Int32) (x0_shelf : (Nat → Int32)) (x0_rowSort : (Nat → Int32)) (x0_rowSize : (Nat → Int32)) (x0_rows : (Nat → Nat → Int64)) (x0_moved : (Nat → Int64)) (x0_shown : (Nat → Int32)) (x0_tape : (Nat → Int32)) (x0_tapeSize : Int32) (x0_refused : (Nat → Int32)) (x0_lines : Int32) (x0_line : (Nat → Nat → Int32)) (x0_changes : (Nat → Int32)) (x0_coins : (Nat → Int32)) (x0_goods : Int32) (x0_good : (Nat → Nat → Int32)) (x0_works : Int32) (x0_work : (Nat → Nat → Int32)) (x0_years : Int32) (x0_gone : Int32) (x0_spent : Int32) (x0_at : Int32) (x0_token : Int32) (x0_from : Int32) (x0_figures : Int64) (x0_fault : Int32) (x0_numbers : (Nat → Int32)) (x0_statements : Int32) (x0_left : (Nat → Int32)) (x0_way : (Nat → Int32)) (x0_totals : (Nat → Int32)) (g1 : (Nat → Int32)) (g2 : Int32) (v4 : Int32) (z7 : Int32) (z8 : Int32) (z9 : (Nat → Int32)) : Option ((Int32 × Int32 × (Nat → Int32)) ⊕ (Int32 × (Nat → Int32))) :=
  if z8 < 0 then (some (.inr (z7, z9))) else ((rd 36 g1 ((3 * p1) + z8)).bind fun v44 => if v44 = v4 then ((fX7_canEnd n (x0_shelf, x0_rowSort, x0_rowSize, x0_rows, x0_moved, x0_shown, x0_tape, x0_tapeSize, x0_refused, x0_lines, x0_line, x0_changes, x0_coins, x0_goods, x0_good, x0_works, x0_work, x0_years, x0_gone, x0_spent, x0_at, x0_token, x0_from, x0_figures, x0_fault, x0_numbers, x0_statements, x0_left, g1, g2, x0_way, 0, (0 : Int64), z9, x0_totals) ((3 * p1) + z8) p2).bind (u2 fun v45 g46 => if v45 = 0 then (some (.inl (z7, (z8 + (-1)), g46))) else (some (.inl (((3 * p1) + z8), (z8 + (-1)), g46))))) else (some (.inl (z7, (z8 + (-1)), z9))))
def fX7_findWay (n : Nat) (X0 : MdT) (p1 : Int32) (p2 : Int32) (p3 : Int32) : Option (Int32 × ((Nat → Int32) × Int32 × (Nat → Int32) × Int32 × Int64 × (Nat → Int32))) :=
  u35 (fun (x0_shelf : (Nat → Int32)) (x0_rowSort : (Nat → Int32)) (x0_rowSize : (Nat → Int32)) (x0_rows : (Nat → Nat → Int64)) (x0_moved : (Nat → Int64)) (x0_shown : (Nat → Int32)) (x0_tape : (Nat → Int32)) (x0_tapeSize : Int32) (x0_refused : (Nat → Int32)) (x0_lines : Int32) (x0_line : (Nat → Nat → Int32)) (x0_changes : (Nat → Int32)) (x0_coins : (Nat → Int32)) (x0_goods : Int32) (x0_good : (Nat → Nat → Int32)) (x0_works : Int32) (x0_work : (Nat → Nat → Int32)) (x0_years : Int32) (x0_gone : Int32) (x0_spent : Int32) (x0_at : Int32) (x0_token : Int32) (x0_from : Int32) (x0_figures : Int64) (x0_fault : Int32) (x0_numbers : (Nat → Int32)) (x0_statements : Int32) (x0_left : (Nat → Int32)) (x0_far : (Nat → Int32)) (x0_tons : Int32) (x0_way : (Nat → Int32)) (x0_steps : Int32) (x0_met : Int64) (x0_queue : (Nat → Int32)) (x0_totals : (Nat → Int32)) => (fX7_findFar n (x0_shelf, x0_rowSort, x0_rowSize, x0_rows, x0_moved, x0_shown, x0_tape, x0_tapeSize, x0_refused, x0_lines, x0_line, x0_changes, x0_coins, x0_goods, x0_good, x0_works, x0_work, x0_years, x0_gone, x0_spent, x0_at, x0_token, x0_from, x0_figures, x0_fault, x0_numbers, x0_statements, x0_left, x0_far, x0_tons, x0_way, x0_steps, x0_met, x0_queue, x0_totals) p2 p3).bind (u2 fun g1 g2 => (fX7_least n (x0_shelf, x0_rowSort, x0_rowSize, x0_rows, x0_moved, x0_shown, x0_tape, x0_tapeSize, x0_refused, x0_lines, x0_line, x0_changes, x0_coins, x0_goods, x0_good, x0_works, x0_work, x0_years, x0_gone, x0_spent, x0_at, x0_token, x0_from, x0_figures, x0_fault, x0_numbers, x0_statements, x0_left, g1, g2, x0_way, 0, (0 : Int64), x0_queue, x0_totals) p1).bind (fun v4 => if v4 < 1000000000 then ((lp (u3 (fX7_findWay_s38 n p1 p2 x0_shelf x0_rowSort x0_rowSize x0_rows x0_moved x0_shown x0_tape x0_tapeSize x0_refused x0_lines x0_line x0_changes x0_coins x0_goods x0_good x0_works x0_work x0_years x0_gone x0_spent x0_at x0_token x0_from x0_figures x0_fault x0_numbers x0_statements x0_left x0_way x0_totals g1 g2 v4)) n ((-1), 2, x0_queue)).bind (u2 fun w11 w12 => (wr 37 x0_way (0) (w11 - w11 / 3 * 3)).bind fun f13 => (some ((0 : Int64) ||| ((1 : Int64) <<< ((w11).toInt64 &&& 63)))).bind fun t14 => (lp (u5 (fX7_findWay_s125 n p2 x0_shelf x0_rowSort x0_rowSize x0_rows x0_moved x0_shown x0_tape x0_tapeSize x0_refused x0_lines x0_line x0_changes x0_coins x0_goods x0_good x0_works x0_work x0_years x0_gone x0_spent x0_at x0_token x0_from x0_figures x0_fault x0_numbers x0_statements x0_left x0_totals g1 g2)) n (w11, f13, ((0 : Int32) + 1), t14, w12)).bind (u4 fun w22 w23 w24 w25 => some (1, (g1, g2, w22, w23, w24, w25))))) else (some (0, (g1, g2, x0_way, 0, (0 : Int64), x0_queue)))))) X0
set_option maxHeartbeats 4000000 in
set_option maxRecDepth 100000 in
theorem kX7_findWay (l : Launch) (d : DT) (h0 : Nat → Nat) (r0_rows : Nat → Nat) (r0_line : Nat → Nat) (r0_good : Nat → Nat) (r0_work : Nat → Nat) (a0_kept : Option Nat) (a0_tried : Option Nat) (a0_chosen : Option Nat) (n : Nat) (x0_shelf : (Nat → Int32)) (x0_rowSort : (Nat → Int32)) (x0_rowSize : (Nat → Int32)) (x0_rows : (Nat → Nat → Int64)) (x0_moved : (Nat → Int64)) (x0_shown : (Nat → Int32)) (x0_tape : (Nat → Int32)) (x0_tapeSize : Int32) (x0_refused : (Nat → Int32)) (x0_lines : Int32) (x0_line : (Nat → Nat → Int32)) (x0_changes : (Nat → Int32)) (x0_coins : (Nat → Int32)) (x0_goods : Int32) (x0_good : (Nat → Nat → Int32)) (x0_works : Int32) (x0_work : (Nat → Nat → Int32)) (x0_years : Int32) (x0_gone : Int32) (x0_spent : Int32) (x0_at : Int32) (x0_token : Int32) (x0_from : Int32) (x0_figures : Int64) (x0_fault : Int32) (x0_numbers : (Nat → Int32)) (x0_statements : Int32) (x0_left : (Nat → Int32)) (x0_far : (Nat → Int32)) (x0_tons : Int32) (x0_way : (Nat → Int32)) (x0_steps : Int32) (x0_met : Int64) (x0_queue : (Nat → Int32)) (x0_totals : (Nat → Int32)) (p1 : Int32) (p2 : Int32) (p3 : Int32)  {out : Int32 × ((Nat → Int32) × Int32 × (Nat → Int32) × Int32 × Int64 × (Nat → Int32))} (hf : fX7_findWay n (x0_shelf, x0_rowSort, x0_rowSize, x0_rows, x0_moved, x0_shown, x0_tape, x0_tapeSize, x0_refused, x0_lines, x0_line, x0_changes, x0_coins, x0_goods, x0_good, x0_works, x0_work, x0_years, x0_gone, x0_spent, x0_at, x0_token, x0_from, x0_figures, x0_fault, x0_numbers, x0_statements, x0_left, x0_far, x0_tons, x0_way, x0_steps, x0_met, x0_queue, x0_totals) p1 p2 p3 = some out) : Ct l d yX7_findWay cX7_findWay 8 (some .boolean) { frames := 3, cells := 0, slots := 0, locals := 75 } [.ref (h0 0), .int p1, .int p2, .int p3] [gMd d h0 a0_kept a0_tried a0_chosen r0_rows r0_line r0_good r0_work x0_shelf x0_rowSort x0_rowSize x0_moved x0_shown x0_tape x0_tapeSize x0_refused x0_lines x0_changes x0_coins x0_goods x0_works x0_years x0_gone x0_spent x0_at x0_token x0_from x0_figures x0_fault x0_numbers x0_statements x0_left x0_far x0_tons x0_way x0_steps x0_met x0_queue x0_totals, gridI d r0_line 20 7 x0_line] (fun _ : Unit => (some (.int out.1), [gMd d h0 a0_kept a0_tried a0_chosen r0_rows r0_line r0_good r0_work x0_shelf x0_rowSort x0_rowSize x0_moved x0_shown x0_tape x0_tapeSize x0_refused x0_lines x0_changes x0_coins x0_goods x0_works x0_years x0_gone x0_spent x0_at x0_token x0_from x0_figures x0_fault x0_numbers x0_statements x0_left (out.2.1) (out.2.2.1) (out.2.2.2.1) (out.2.2.2.2.1) (out.2.2.2.2.2.1) (out.2.2.2.2.2.2) x0_totals, gridI d r0_line 20 7 x0_line])) := by
  refine Ct.of (by decide) (Nat.le_of_ble_eq_true rfl) ?_
  intro Φ hl hK hR
  subst hl
  have hK : Ok d Φ RX7 "findWay" cX7_findWay 8 (some .boolean) { frames := 3, cells := 0, slots := 0, locals := 75 } := hK
  unfold fX7_findWay at hf
  have hf := un35 hf
  show J d Φ 8 [gMd d h0 a0_kept a0_tried a0_chosen r0_rows r0_line r0_good r0_work x0_shelf x0_rowSort x0_rowSize x0_moved x0_shown x0_tape x0_tapeSize x0_refused x0_lines x0_changes x0_coins x0_goods x0_works x0_years x0_gone x0_spent x0_at x0_token x0_from x0_figures x0_fault x0_numbers x0_statements x0_left x0_far x0_tons x0_way x0_steps x0_met x0_queue x0_totals, gridI d r0_line 20 7 x0_line] 0 0 0 [(0, .ref (h0 0)), (1, .int p1), (2, .int p2), (3, .int p3)] []
  refine J_aload_n hK dX7_findWay_0 rfl 0 rfl rfl ?_
  refine J_iload_n hK dX7_findWay_1 rfl 2 rfl rfl ?_
  refine J_iload_n hK dX7_findWay_2 rfl 3 rfl rfl ?_
  obtain ⟨⟨g1, g2⟩, e3, hf⟩ := bs hf
  have hf := un2 hf
  refine J_callV (m' := 2) (ce' := 0) (sl' := 0) (gr := []) (gs' := fun _ => [gMd d h0 a0_kept a0_tried a0_chosen r0_rows r0_line r0_good r0_work x0_shelf x0_rowSort x0_rowSize x0_moved x0_shown x0_tape x0_tapeSize x0_refused x0_lines x0_changes x0_coins x0_goods x0_works x0_years x0_gone x0_spent x0_at x0_token x0_from x0_figures x0_fault x0_numbers x0_statements x0_left g1 g2 x0_way x0_steps x0_met x0_queue x0_totals, gridI d r0_line 20 7 x0_line]) (st' := fun _ => []) (st := []) hK dX7_findWay_3 cv_RX7_264 iv_yX7_findFar (As := [.int p2, .int p3]) (kX7_findFar _ d h0 r0_rows r0_line r0_good r0_work a0_kept a0_tried a0_chosen n x0_shelf x0_rowSort x0_rowSize x0_rows x0_moved x0_shown x0_tape x0_tapeSize x0_refused x0_lines x0_line x0_changes x0_coins x0_goods x0_good x0_works x0_work x0_years x0_gone x0_spent x0_at x0_token x0_from x0_figures x0_fault x0_numbers x0_statements x0_left x0_far x0_tons x0_way x0_steps x0_met x0_queue x0_totals p2 p3 e3) rfl rfl (Nat.le_of_ble_eq_true rfl) (by decide) 0 0 rfl rfl rfl [0, 1] [] rfl rfl rfl rfl [0, 1] rfl (fun _ => rfl) (fun _ => rfl) rfl rfl rfl (fun _ => rfl) (fun _ => ?_)
  refine J_aload_n hK dX7_findWay_6 rfl 0 rfl rfl ?_
  refine J_iconst (v := 0) hK dX7_findWay_7 rfl (by decide) ?_
  refine J_put (g' := gMd d h0 a0_kept a0_tried a0_chosen r0_rows r0_line r0_good r0_work x0_shelf x0_rowSort x0_rowSize x0_moved x0_shown x0_tape x0_tapeSize x0_refused x0_lines x0_changes x0_coins x0_goods x0_works x0_years x0_gone x0_spent x0_at x0_token x0_from x0_figures x0_fault x0_numbers x0_statements x0_left g1 g2 x0_way (0) x0_met x0_queue x0_totals) (gs' := [gMd d h0 a0_kept a0_tried a0_chosen r0_rows r0_line r0_good r0_work x0_shelf x0_rowSort x0_rowSize x0_moved x0_shown x0_tape x0_tapeSize x0_refused x0_lines x0_changes x0_coins x0_goods x0_works x0_years x0_gone x0_spent x0_at x0_token x0_from x0_figures x0_fault x0_numbers x0_statements x0_left g1 g2 x0_way (0) x0_met x0_queue x0_totals, gridI d r0_line 20 7 x0_line]) hK fp_RX7_267 dX7_findWay_8 rfl 0 0 rfl rfl rfl rfl (Nat.le_of_ble_eq_true rfl) rfl rfl ?_
  refine J_aload_n hK dX7_findWay_11 rfl 0 rfl rfl ?_
  refine J_lconst (v := 0) hK dX7_findWay_12 rfl (by decide) ?_
  refine J_put (g' := gMd d h0 a0_kept a0_tried a0_chosen r0_rows r0_line r0_good r0_work x0_shelf x0_rowSort x0_rowSize x0_moved x0_shown x0_tape x0_tapeSize x0_refused x0_lines x0_changes x0_coins x0_goods x0_works x0_years x0_gone x0_spent x0_at x0_token x0_from x0_figures x0_fault x0_numbers x0_statements x0_left g1 g2 x0_way (0) (0 : Int64) x0_queue x0_totals) (gs' := [gMd d h0 a0_kept a0_tried a0_chosen r0_rows r0_line r0_good r0_work x0_shelf x0_rowSort x0_rowSize x0_moved x0_shown x0_tape x0_tapeSize x0_refused x0_lines x0_changes x0_coins x0_goods x0_works x0_years x0_gone x0_spent x0_at x0_token x0_from x0_figures x0_fault x0_numbers x0_statements x0_left g1 g2 x0_way (0) (0 : Int64) x0_queue x0_totals, gridI d r0_line 20 7 x0_line]) hK fp_RX7_257 dX7_findWay_13 rfl 0 0 rfl rfl rfl rfl (Nat.le_of_ble_eq_true rfl) rfl rfl ?_
  refine J_aload_n hK dX7_findWay_16 rfl 0 rfl rfl ?_
  refine J_iload_n hK dX7_findWay_17 rfl 1 rfl rfl ?_
  obtain ⟨v4, e5, hf⟩ := bs hf
  refine J_callV (m' := 2) (ce' := 0) (sl' := 0) (gr := [gridI d r0_line 20 7 x0_line]) (gs' := fun _ => [gMd d h0 a0_kept a0_tried a0_chosen r0_rows r0_line r0_good r0_work x0_shelf x0_rowSort x0_rowSize x0_moved x0_shown x0_tape x0_tapeSize x0_refused x0_lines x0_changes x0_coins x0_goods x0_works x0_years x0_gone x0_spent x0_at x0_token x0_from x0_figures x0_fault x0_numbers x0_statements x0_left g1 g2 x0_way (0) (0 : Int64) x0_queue x0_totals, gridI d r0_line 20 7 x0_line]) (st' := fun _ => [.int v4]) (st := []) hK dX7_findWay_18 cv_RX7_270 iv_yX7_least (As := [.int p1]) (kX7_least _ d h0 r0_rows r0_line r0_good r0_work a0_kept a0_tried a0_chosen n x0_shelf x0_rowSort x0_rowSize x0_rows x0_moved x0_shown x0_tape x0_tapeSize x0_refused x0_lines x0_line x0_changes x0_coins x0_goods x0_good x0_works x0_work x0_years x0_gone x0_spent x0_at x0_token x0_from x0_figures x0_fault x0_numbers x0_statements x0_left g1 g2 x0_way (0) (0 : Int64) x0_queue x0_totals p1 e5) rfl rfl (Nat.le_of_ble_eq_true rfl) (by decide) 0 0 rfl rfl rfl [0] [1] rfl rfl rfl rfl [1, 0] rfl (fun _ => rfl) (fun _ => rfl) rfl rfl rfl (fun _ => rfl) (fun _ => ?_)
  refine J_istore (L' := [(4, .int v4), (0, .ref (h0 0)), (1, .int p1), (2, .int p2), (3, .int p3)]) hK dX7_findWay_21 rfl (by decide) rfl ?_
  refine J_iload hK dX7_findWay_23 rfl 0 rfl ?_
  refine J_ldc (v := 1000000000) hK dX7_findWay_25 rfl wk_RX7_254 ?_
  refine J_icmp_lt (tg := 32) hK dX7_findWay_27 rfl rfl (fun hc27 => ?_) (fun hc27 => ?_)
  · have hf := ip hc27 hf
    refine J_iconst (v := (-1)) hK dX7_findWay_32 rfl (by decide) ?_
    refine J_istore (L' := [(5, .int (-1)), (4, .int v4), (0, .ref (h0 0)), (1, .int p1), (2, .int p2), (3, .int p3)]) hK dX7_findWay_33 rfl (by decide) rfl ?_
    refine J_iconst (v := 2) hK dX7_findWay_35 rfl (by decide) ?_
    refine J_istore (L' := [(6, .int (2)), (5, .int (-1)), (4, .int v4), (0, .ref (h0 0)), (1, .int p1), (2, .int p2), (3, .int p3)]) hK dX7_findWay_36 rfl (by decide) rfl ?_
    obtain ⟨e10, hl6, hf⟩ := bs hf
    have hx6_92 : ∀ (w11 : Int32) (w12 : (Nat → Int32)), (w11, w12) = e10 → J d Φ 8 [gMd d h0 a0_kept a0_tried a0_chosen r0_rows r0_line r0_good r0_work x0_shelf x0_rowSort x0_rowSize x0_moved x0_shown x0_tape x0_tapeSize x0_refused x0_lines x0_changes x0_coins x0_goods x0_works x0_years x0_gone x0_spent x0_at x0_token x0_from x0_figures x0_fault x0_numbers x0_statements x0_left g1 g2 x0_way (0) (0 : Int64) w12 x0_totals, gridI d r0_line 20 7 x0_line] 0 0 92 [(0, .ref (h0 0)), (2, .int p2), (5, .int w11)] [] := by
      intro w11 w12 he
      rw [← he] at hf
      have hf := un2 hf
      refine J_aload_n hK dX7_findWay_92 rfl 0 rfl rfl ?_
      refine J_get hK fo_RX7_67 dX7_findWay_93 rfl 0 0 rfl rfl rfl ?_
      refine J_aload_n hK dX7_findWay_96 rfl 0 rfl rfl ?_
      refine J_dup hK dX7_findWay_97 rfl rfl ?_
      refine J_get hK fo_RX7_267 dX7_findWay_98 rfl 0 0 rfl rfl rfl ?_
      refine J_dup_x1 hK dX7_findWay_101 rfl rfl rfl ?_
      refine J_iconst (v := 1) hK dX7_findWay_102 rfl (by decide) ?_
      refine J_iadd hK dX7_findWay_103 rfl ?_
      refine J_put (g' := gMd d h0 a0_kept a0_tried a0_chosen r0_rows r0_line r0_good r0_work x0_shelf x0_rowSort x0_rowSize x0_moved x0_shown x0_tape x0_tapeSize x0_refused x0_lines x0_changes x0_coins x0_goods x0_works x0_years x0_gone x0_spent x0_at x0_token x0_from x0_figures x0_fault x0_numbers x0_statements x0_left g1 g2 x0_way ((0 : Int32) + 1) (0 : Int64) w12 x0_totals) (gs' := [gMd d h0 a0_kept a0_tried a0_chosen r0_rows r0_line r0_good r0_work x0_shelf x0_rowSort x0_rowSize x0_moved x0_shown x0_tape x0_tapeSize x0_refused x0_lines x0_changes x0_coins x0_goods x0_works x0_years x0_gone x0_spent x0_at x0_token x0_from x0_figures x0_fault x0_numbers x0_statements x0_left g1 g2 x0_way ((0 : Int32) + 1) (0 : Int64) w12 x0_totals, gridI d r0_line 20 7 x0_line]) hK fp_RX7_267 dX7_findWay_104 rfl 0 0 rfl rfl rfl rfl (Nat.le_of_ble_eq_true rfl) rfl rfl ?_
      refine J_iload hK dX7_findWay_107 rfl 2 rfl ?_
      refine J_iconst (v := 3) hK dX7_findWay_109 rfl (by decide) ?_
      refine J_irem hK dX7_findWay_110 rfl (by decide) ?_
      obtain ⟨f13, ef13, hf⟩ := bs hf
      refine J_iast (g' := gMd d h0 a0_kept a0_tried a0_chosen r0_rows r0_line r0_good r0_work x0_shelf x0_rowSort x0_rowSize x0_moved x0_shown x0_tape x0_tapeSize x0_refused x0_lines x0_changes x0_coins x0_goods x0_works x0_years x0_gone x0_spent x0_at x0_token x0_from x0_figures x0_fault x0_numbers x0_statements x0_left g1 g2 f13 ((0 : Int32) + 1) (0 : Int64) w12 x0_totals) (gs' := [gMd d h0 a0_kept a0_tried a0_chosen r0_rows r0_line r0_good r0_work x0_shelf x0_rowSort x0_rowSize x0_moved x0_shown x0_tape x0_tapeSize x0_refused x0_lines x0_changes x0_coins x0_goods x0_works x0_years x0_gone x0_spent x0_at x0_token x0_from x0_figures x0_fault x0_numbers x0_statements x0_left g1 g2 f13 ((0 : Int32) + 1) (0 : Int64) w12 x0_totals, gridI d r0_line 20 7 x0_line]) hK dX7_findWay_111 rfl 0 17 rfl rfl ef13 rfl rfl ?_
      refine J_aload_n hK dX7_findWay_112 rfl 0 rfl rfl ?_
      refine J_dup hK dX7_findWay_113 rfl rfl ?_
      refine J_get hK fo_RX7_257 dX7_findWay_114 rfl 0 0 rfl rfl rfl ?_
      refine J_lconst (v := 1) hK dX7_findWay_117 rfl (by decide) ?_
      refine J_iload hK dX7_findWay_118 rfl 2 rfl ?_
      refine J_lshl hK dX7_findWay_120 rfl ?_
      refine J_lor hK dX7_findWay_121 rfl ?_
      obtain ⟨t14, et14, hf⟩ := bs hf
      refine J_nml et14 ?_
      refine J_put (g' := gMd d h0 a0_kept a0_tried a0_chosen r0_rows r0_line r0_good r0_work x0_shelf x0_rowSort x0_rowSize x0_moved x0_shown x0_tape x0_tapeSize x0_refused x0_lines x0_changes x0_coins x0_goods x0_works x0_years x0_gone x0_spent x0_at x0_token x0_from x0_figures x0_fault x0_numbers x0_statements x0_left g1 g2 f13 ((0 : Int32) + 1) t14 w12 x0_totals) (gs' := [gMd d h0 a0_kept a0_tried a0_chosen r0_rows r0_line r0_good r0_work x0_shelf x0_rowSort x0_rowSize x0_moved x0_shown x0_tape x0_tapeSize x0_refused x0_lines x0_changes x0_coins x0_goods x0_works x0_years x0_gone x0_spent x0_at x0_token x0_from x0_figures x0_fault x0_numbers x0_statements x0_left g1 g2 f13 ((0 : Int32) + 1) t14 w12 x0_totals, gridI d r0_line 20 7 x0_line]) hK fp_RX7_257 dX7_findWay_122 rfl 0 0 rfl rfl rfl rfl (Nat.le_of_ble_eq_true rfl) rfl rfl ?_
      obtain ⟨e21, hl15, hf⟩ := bs hf
      have hx15_216 : ∀ (w22 : (Nat → Int32)) (w23 : Int32) (w24 : Int64) (w25 : (Nat → Int32)), (w22, w23, w24, w25) = e21 → J d Φ 8 [gMd d h0 a0_kept a0_tried a0_chosen r0_rows r0_line r0_good r0_work x0_shelf x0_rowSort x0_rowSize x0_moved x0_shown x0_tape x0_tapeSize x0_refused x0_lines x0_changes x0_coins x0_goods x0_works x0_years x0_gone x0_spent x0_at x0_token x0_from x0_figures x0_fault x0_numbers x0_statements x0_left g1 g2 w22 w23 w24 w25 x0_totals, gridI d r0_line 20 7 x0_line] 0 0 216 [] [] := by
        intro w22 w23 w24 w25 he
        rw [← he] at hf
        have hf := un4 hf
        refine J_iconst (v := 1) hK dX7_findWay_216 rfl (by decide) ?_
        obtain rfl := Option.some.inj hf
        exact J_zret hK hR dX7_findWay_217 () rfl rfl (by decide) (by decide)
      have lo15 : ∀ (k : Nat) (z16 : Int32) (z17 : (Nat → Int32)) (z18 : Int32) (z19 : Int64) (z20 : (Nat → Int32)), lp (u5 (fX7_findWay_s125 n p2 x0_shelf x0_rowSort x0_rowSize x0_rows x0_moved x0_shown x0_tape x0_tapeSize x0_refused x0_lines x0_line x0_changes x0_coins x0_goods x0_good x0_works x0_work x0_years x0_gone x0_spent x0_at x0_token x0_from x0_figures x0_fault x0_numbers x0_statements x0_left x0_totals g1 g2)) k (z16, z17, z18, z19, z20) = some e21 → J d Φ 8 [gMd d h0 a0_kept a0_tried a0_chosen r0_rows r0_line r0_good r0_work x0_shelf x0_rowSort x0_rowSize x0_moved x0_shown x0_tape x0_tapeSize x0_refused x0_lines x0_changes x0_coins x0_goods x0_works x0_years x0_gone x0_spent x0_at x0_token x0_from x0_figures x0_fault x0_numbers x0_statements x0_left g1 g2 z17 z18 z19 z20 x0_totals, gridI d r0_line 20 7 x0_line] 0 0 125 [(0, .ref (h0 0)), (2, .int p2), (5, .int z16)] [] := by
        intro k
        induction k with
        | zero => intro z16 z17 z18 z19 z20 h; cases h
        | succ k ih15 =>
          intro z16 z17 z18 z19 z20 h
          obtain ⟨k2, rr15, hk2, hs15, hr15⟩ := lp_ok h
          cases hk2
          have hs15 : fX7_findWay_s125 n p2 x0_shelf x0_rowSort x0_rowSize x0_rows x0_moved x0_shown x0_tape x0_tapeSize x0_refused x0_lines x0_line x0_changes x0_coins x0_goods x0_good x0_works x0_work x0_years x0_gone x0_spent x0_at x0_token x0_from x0_figures x0_fault x0_numbers x0_statements x0_left x0_totals g1 g2 z16 z17 z18 z19 z20 = some rr15 := hs15
          unfold fX7_findWay_s125 at hs15
          refine J_iload hK dX7_findWay_125 rfl 2 rfl ?_
          refine J_iconst (v := 3) hK dX7_findWay_127 rfl (by decide) ?_
          refine J_idiv hK dX7_findWay_128 rfl (by decide) ?_
          refine J_iload_n hK dX7_findWay_129 rfl 1 rfl rfl ?_
          refine J_icmp_eq (tg := 216) hK dX7_findWay_130 rfl rfl (fun hc130 => ?_) (fun hc130 => ?_)
          · have hs15 := ip hc130 hs15
            exact J_loc [] rfl (hx15_216 z17 z18 z19 z20 (lpx hs15 hr15))
          · have hs15 := iq hc130 hs15
            refine J_iconst (v := 0) hK dX7_findWay_133 rfl (by decide) ?_
            refine J_istore (L' := [(6, .int (0)), (0, .ref (h0 0)), (2, .int p2), (5, .int z16)]) hK dX7_findWay_134 rfl (by decide) rfl ?_
            refine J_aload_n hK dX7_findWay_136 rfl 1 rfl rfl ?_
            refine J_iload hK dX7_findWay_137 rfl 3 rfl ?_
            refine J_iload hK dX7_findWay_139 rfl 0 rfl ?_
            obtain ⟨v26, e27, hs15⟩ := bs hs15
            refine J_callV (m' := 2) (ce' := 0) (sl' := 0) (gr := []) (gs' := fun _ => [gMd d h0 a0_kept a0_tried a0_chosen r0_rows r0_line r0_good r0_work x0_shelf x0_rowSort x0_rowSize x0_moved x0_shown x0_tape x0_tapeSize x0_refused x0_lines x0_changes x0_coins x0_goods x0_works x0_years x0_gone x0_spent x0_at x0_token x0_from x0_figures x0_fault x0_numbers x0_statements x0_left g1 g2 z17 z18 z19 z20 x0_totals, gridI d r0_line 20 7 x0_line]) (st' := fun _ => [.int v26]) (st := []) hK dX7_findWay_141 cv_RX7_260 iv_yX7_stepTo (As := [.int z16, .int (0)]) (kX7_stepTo _ d h0 r0_rows r0_line r0_good r0_work a0_kept a0_tried a0_chosen x0_shelf x0_rowSort x0_rowSize x0_rows x0_moved x0_shown x0_tape x0_tapeSize x0_refused x0_lines x0_line x0_changes x0_coins x0_goods x0_good x0_works x0_work x0_years x0_gone x0_spent x0_at x0_token x0_from x0_figures x0_fault x0_numbers x0_statements x0_left g1 g2 z17 z18 z19 z20 x0_totals z16 (0) e27) rfl rfl (Nat.le_of_ble_eq_true rfl) (by decide) 0 0 rfl rfl rfl [0, 1] [] rfl rfl rfl rfl [0, 1] rfl (fun _ => rfl) (fun _ => rfl) rfl rfl rfl (fun _ => rfl) (fun _ => ?_)
            refine J_istore (L' := [(7, .int v26), (6, .int (0)), (0, .ref (h0 0)), (2, .int p2), (5, .int z16)]) hK dX7_findWay_144 rfl (by decide) rfl ?_
            obtain ⟨e32, hl28, hs15⟩ := bs hs15
            have hx28_178 : ∀ (w33 : Int32) (w34 : Int32) (w35 : (Nat → Int32)), (w33, w34, w35) = e32 → J d Φ 8 [gMd d h0 a0_kept a0_tried a0_chosen r0_rows r0_line r0_good r0_work x0_shelf x0_rowSort x0_rowSize x0_moved x0_shown x0_tape x0_tapeSize x0_refused x0_lines x0_changes x0_coins x0_goods x0_works x0_years x0_gone x0_spent x0_at x0_token x0_from x0_figures x0_fault x0_numbers x0_statements x0_left g1 g2 z17 z18 z19 w35 x0_totals, gridI d r0_line 20 7 x0_line] 0 0 178 [(0, .ref (h0 0)), (2, .int p2), (6, .int w33), (7, .int w34)] [] := by
              intro w33 w34 w35 he
              rw [← he] at hs15
              have hs15 := un3 hs15
              refine J_aload_n hK dX7_findWay_178 rfl 0 rfl rfl ?_
              refine J_get hK fo_RX7_67 dX7_findWay_179 rfl 0 0 rfl rfl rfl ?_
              refine J_aload_n hK dX7_findWay_182 rfl 0 rfl rfl ?_
              refine J_dup hK dX7_findWay_183 rfl rfl ?_
              refine J_get hK fo_RX7_267 dX7_findWay_184 rfl 0 0 rfl rfl rfl ?_
              refine J_dup_x1 hK dX7_findWay_187 rfl rfl rfl ?_
              refine J_iconst (v := 1) hK dX7_findWay_188 rfl (by decide) ?_
              refine J_iadd hK dX7_findWay_189 rfl ?_
              refine J_put (g' := gMd d h0 a0_kept a0_tried a0_chosen r0_rows r0_line r0_good r0_work x0_shelf x0_rowSort x0_rowSize x0_moved x0_shown x0_tape x0_tapeSize x0_refused x0_lines x0_changes x0_coins x0_goods x0_works x0_years x0_gone x0_spent x0_at x0_token x0_from x0_figures x0_fault x0_numbers x0_statements x0_left g1 g2 z17 (z18 + 1) z19 w35 x0_totals) (gs' := [gMd d h0 a0_kept a0_tried a0_chosen r0_rows r0_line r0_good r0_work x0_shelf x0_rowSort x0_rowSize x0_moved x0_shown x0_tape x0_tapeSize x0_refused x0_lines x0_changes x0_coins x0_goods x0_works x0_years x0_gone x0_spent x0_at x0_token x0_from x0_figures x0_fault x0_numbers x0_statements x0_left g1 g2 z17 (z18 + 1) z19 w35 x0_totals, gridI d r0_line 20 7 x0_line]) hK fp_RX7_267 dX7_findWay_190 rfl 0 0 rfl rfl rfl rfl (Nat.le_of_ble_eq_true rfl) rfl rfl ?_
              refine J_iload hK dX7_findWay_193 rfl 2 rfl ?_
              obtain ⟨f36, ef36, hs15⟩ := bs hs15
              refine J_iast (g' := gMd d h0 a0_kept a0_tried a0_chosen r0_rows r0_line r0_good r0_work x0_shelf x0_rowSort x0_rowSize x0_moved x0_shown x0_tape x0_tapeSize x0_refused x0_lines x0_changes x0_coins x0_goods x0_works x0_years x0_gone x0_spent x0_at x0_token x0_from x0_figures x0_fault x0_numbers x0_statements x0_left g1 g2 f36 (z18 + 1) z19 w35 x0_totals) (gs' := [gMd d h0 a0_kept a0_tried a0_chosen r0_rows r0_line r0_good r0_work x0_shelf x0_rowSort x0_rowSize x0_moved x0_shown x0_tape x0_tapeSize x0_refused x0_lines x0_changes x0_coins x0_goods x0_works x0_years x0_gone x0_spent x0_at x0_token x0_from x0_figures x0_fault x0_numbers x0_statements x0_left g1 g2 f36 (z18 + 1) z19 w35 x0_totals, gridI d r0_line 20 7 x0_line]) hK dX7_findWay_195 rfl 0 17 rfl rfl ef36 rfl rfl ?_
              refine J_iload hK dX7_findWay_196 rfl 3 rfl ?_
              refine J_istore (L' := [(5, .int w34), (0, .ref (h0 0)), (2, .int p2), (6, .int w33), (7, .int w34)]) hK dX7_findWay_198 rfl (by decide) rfl ?_
              refine J_aload_n hK dX7_findWay_200 rfl 1 rfl rfl ?_
              refine J_dup hK dX7_findWay_201 rfl rfl ?_
              refine J_get hK fo_RX7_257 dX7_findWay_202 rfl 0 0 rfl rfl rfl ?_
              refine J_lconst (v := 1) hK dX7_findWay_205 rfl (by decide) ?_
              refine J_iload hK dX7_findWay_206 rfl 0 rfl ?_
              refine J_lshl hK dX7_findWay_208 rfl ?_
              refine J_lor hK dX7_findWay_209 rfl ?_
              obtain ⟨t37, et37, hs15⟩ := bs hs15
              refine J_nml et37 ?_
              refine J_put (g' := gMd d h0 a0_kept a0_tried a0_chosen r0_rows r0_line r0_good r0_work x0_shelf x0_rowSort x0_rowSize x0_moved x0_shown x0_tape x0_tapeSize x0_refused x0_lines x0_changes x0_coins x0_goods x0_works x0_years x0_gone x0_spent x0_at x0_token x0_from x0_figures x0_fault x0_numbers x0_statements x0_left g1 g2 f36 (z18 + 1) t37 w35 x0_totals) (gs' := [gMd d h0 a0_kept a0_tried a0_chosen r0_rows r0_line r0_good r0_work x0_shelf x0_rowSort x0_rowSize x0_moved x0_shown x0_tape x0_tapeSize x0_refused x0_lines x0_changes x0_coins x0_goods x0_works x0_years x0_gone x0_spent x0_at x0_token x0_from x0_figures x0_fault x0_numbers x0_statements x0_left g1 g2 f36 (z18 + 1) t37 w35 x0_totals, gridI d r0_line 20 7 x0_line]) hK fp_RX7_257 dX7_findWay_210 rfl 0 0 rfl rfl rfl rfl (Nat.le_of_ble_eq_true rfl) rfl rfl ?_
              refine J_goto hK dX7_findWay_213 (n := 125) rfl ?_
              exact J_loc [1, 2, 0] rfl (ih15 w34 f36 (z18 + 1) t37 w35 (lpc hs15 hr15))
            have lo28 : ∀ (k : Nat) (z29 : Int32) (z30 : Int32) (z31 : (Nat → Int32)), lp (u3 (fX7_findWay_s146 n p2 x0_shelf x0_rowSort x0_rowSize x0_rows x0_moved x0_shown x0_tape x0_tapeSize x0_refused x0_lines x0_line x0_changes x0_coins x0_goods x0_good x0_works x0_work x0_years x0_gone x0_spent x0_at x0_token x0_from x0_figures x0_fault x0_numbers x0_statements x0_left x0_totals g1 g2 z16 z17 z18 z19)) k (z29, z30, z31) = some e32 → J d Φ 8 [gMd d h0 a0_kept a0_tried a0_chosen r0_rows r0_line r0_good r0_work x0_shelf x0_rowSort x0_rowSize x0_moved x0_shown x0_tape x0_tapeSize x0_refused x0_lines x0_changes x0_coins x0_goods x0_works x0_years x0_gone x0_spent x0_at x0_token x0_from x0_figures x0_fault x0_numbers x0_statements x0_left g1 g2 z17 z18 z19 z31 x0_totals, gridI d r0_line 20 7 x0_line] 0 0 146 [(0, .ref (h0 0)), (2, .int p2), (5, .int z16), (6, .int z29), (7, .int z30)] [] := by
              intro k
              induction k with
              | zero => intro z29 z30 z31 h; cases h
              | succ k ih28 =>
                intro z29 z30 z31 h
                obtain ⟨k2, rr28, hk2, hs28, hr28⟩ := lp_ok h
                cases hk2
                have hs28 : fX7_findWay_s146 n p2 x0_shelf x0_rowSort x0_rowSize x0_rows x0_moved x0_shown x0_tape x0_tapeSize x0_refused x0_lines x0_line x0_changes x0_coins x0_goods x0_good x0_works x0_work x0_years x0_gone x0_spent x0_at x0_token x0_from x0_figures x0_fault x0_numbers x0_statements x0_left x0_totals g1 g2 z16 z17 z18 z19 z29 z30 z31 = some rr28 := hs28
                unfold fX7_findWay_s146 at hs28
                refine J_iload hK dX7_findWay_146 rfl 4 rfl ?_
                refine J_iconst (v := (-1)) hK dX7_findWay_148 rfl (by decide) ?_
                have j162 : ∀ (x38 : (Nat → Int32)), fX7_findWay_j162 x0_shelf x0_rowSort x0_rowSize x0_rows x0_moved x0_shown x0_tape x0_tapeSize x0_refused x0_lines x0_line x0_changes x0_coins x0_goods x0_good x0_works x0_work x0_years x0_gone x0_spent x0_at x0_token x0_from x0_figures x0_fault x0_numbers x0_statements x0_left x0_totals g1 g2 z16 z17 z18 z19 z29 x38 = some rr28 → J d Φ 8 [gMd d h0 a0_kept a0_tried a0_chosen r0_rows r0_line r0_good r0_work x0_shelf x0_rowSort x0_rowSize x0_moved x0_shown x0_tape x0_tapeSize x0_refused x0_lines x0_changes x0_coins x0_goods x0_works x0_years x0_gone x0_spent x0_at x0_token x0_from x0_figures x0_fault x0_numbers x0_statements x0_left g1 g2 z17 z18 z19 x38 x0_totals, gridI d r0_line 20 7 x0_line] 0 0 162 [(0, .ref (h0 0)), (2, .int p2), (5, .int z16), (6, .int z29)] [] := by
                  intro x38 hs28
                  unfold fX7_findWay_j162 at hs28
                  refine J_iinc (L' := [(6, .int (z29 + 1)), (0, .ref (h0 0)), (2, .int p2), (5, .int z16)]) (v := (z29 + 1)) hK dX7_findWay_162 rfl 3 rfl rfl (by decide) rfl ?_
                  refine J_aload_n hK dX7_findWay_165 rfl 1 rfl rfl ?_
                  refine J_iload hK dX7_findWay_166 rfl 3 rfl ?_
                  refine J_iload hK dX7_findWay_168 rfl 0 rfl ?_
                  obtain ⟨v39, e40, hs28⟩ := bs hs28
                  refine J_callV (m' := 2) (ce' := 0) (sl' := 0) (gr := []) (gs' := fun _ => [gMd d h0 a0_kept a0_tried a0_chosen r0_rows r0_line r0_good r0_work x0_shelf x0_rowSort x0_rowSize x0_moved x0_shown x0_tape x0_tapeSize x0_refused x0_lines x0_changes x0_coins x0_goods x0_works x0_years x0_gone x0_spent x0_at x0_token x0_from x0_figures x0_fault x0_numbers x0_statements x0_left g1 g2 z17 z18 z19 x38 x0_totals, gridI d r0_line 20 7 x0_line]) (st' := fun _ => [.int v39]) (st := []) hK dX7_findWay_170 cv_RX7_260 iv_yX7_stepTo (As := [.int z16, .int (z29 + 1)]) (kX7_stepTo _ d h0 r0_rows r0_line r0_good r0_work a0_kept a0_tried a0_chosen x0_shelf x0_rowSort x0_rowSize x0_rows x0_moved x0_shown x0_tape x0_tapeSize x0_refused x0_lines x0_line x0_changes x0_coins x0_goods x0_good x0_works x0_work x0_years x0_gone x0_spent x0_at x0_token x0_from x0_figures x0_fault x0_numbers x0_statements x0_left g1 g2 z17 z18 z19 x38 x0_totals z16 (z29 + 1) e40) rfl rfl (Nat.le_of_ble_eq_true rfl) (by decide) 0 0 rfl rfl rfl [0, 1] [] rfl rfl rfl rfl [0, 1] rfl (fun _ => rfl) (fun _ => rfl) rfl rfl rfl (fun _ => rfl) (fun _ => ?_)
                  refine J_istore (L' := [(7, .int v39), (6, .int (z29 + 1)), (0, .ref (h0 0)), (2, .int p2), (5, .int z16)]) hK dX7_findWay_173 rfl (by decide) rfl ?_
                  refine J_goto hK dX7_findWay_175 (n := 146) rfl ?_
                  exact J_loc [2, 3, 4, 1, 0] rfl (ih28 (z29 + 1) v39 x38 (lpc hs28 hr28))
                refine J_icmp_eq (tg := 162) hK dX7_findWay_149 rfl rfl (fun hc149 => ?_) (fun hc149 => ?_)
                · have hs28 := ip hc149 hs28
                  exact J_loc [0, 1, 2, 3] rfl (j162 z31 hs28)
                · have hs28 := iq hc149 hs28
                  refine J_aload_n hK dX7_findWay_152 rfl 0 rfl rfl ?_
                  refine J_iload hK dX7_findWay_153 rfl 4 rfl ?_
                  refine J_iload_n hK dX7_findWay_155 rfl 1 rfl rfl ?_
                  obtain ⟨⟨v41, g42⟩, e43, hs28⟩ := bs hs28
                  have hs28 := un2 hs28
                  refine J_callV (m' := 2) (ce' := 0) (sl' := 0) (gr := []) (gs' := fun _ => [gMd d h0 a0_kept a0_tried a0_chosen r0_rows r0_line r0_good r0_work x0_shelf x0_rowSort x0_rowSize x0_moved x0_shown x0_tape x0_tapeSize x0_refused x0_lines x0_changes x0_coins x0_goods x0_works x0_years x0_gone x0_spent x0_at x0_token x0_from x0_figures x0_fault x0_numbers x0_statements x0_left g1 g2 z17 z18 z19 g42 x0_totals, gridI d r0_line 20 7 x0_line]) (st' := fun _ => [.int v41]) (st := []) hK dX7_findWay_156 cv_RX7_273 iv_yX7_canEnd (As := [.int z30, .int p2]) (kX7_canEnd _ d h0 r0_rows r0_line r0_good r0_work a0_kept a0_tried a0_chosen n x0_shelf x0_rowSort x0_rowSize x0_rows x0_moved x0_shown x0_tape x0_tapeSize x0_refused x0_lines x0_line x0_changes x0_coins x0_goods x0_good x0_works x0_work x0_years x0_gone x0_spent x0_at x0_token x0_from x0_figures x0_fault x0_numbers x0_statements x0_left g1 g2 z17 z18 z19 z31 x0_totals z30 p2 e43) rfl rfl (Nat.le_of_ble_eq_true rfl) (by decide) 0 0 rfl rfl rfl [0, 1] [] rfl rfl rfl rfl [0, 1] rfl (fun _ => rfl) (fun _ => rfl) rfl rfl rfl (fun _ => rfl) (fun _ => ?_)
                  refine J_if_ne (tg := 178) hK dX7_findWay_159 rfl rfl (fun hc159 => ?_) (fun hc159 => ?_)
                  · have hs28 := iq hc159 hs28
                    exact J_loc [0, 1, 3, 4] rfl (hx28_178 z29 z30 g42 (lpx hs28 hr28))
                  · have hs28 := ip hc159 hs28
                    exact J_loc [0, 1, 2, 3] rfl (j162 g42 hs28)
            exact J_loc [2, 3, 4, 1, 0] rfl (lo28 n (0) v26 z20 hl28)
      exact (lo15 n w11 f13 ((0 : Int32) + 1) t14 w12 hl15)
    have lo6 : ∀ (k : Nat) (z7 : Int32) (z8 : Int32) (z9 : (Nat → Int32)), lp (u3 (fX7_findWay_s38 n p1 p2 x0_shelf x0_rowSort x0_rowSize x0_rows x0_moved x0_shown x0_tape x0_tapeSize x0_refused x0_lines x0_line x0_changes x0_coins x0_goods x0_good x0_works x0_work x0_years x0_gone x0_spent x0_at x0_token x0_from x0_figures x0_fault x0_numbers x0_statements x0_left x0_way x0_totals g1 g2 v4)) k (z7, z8, z9) = some e10 → J d Φ 8 [gMd d h0 a0_kept a0_tried a0_chosen r0_rows r0_line r0_good r0_work x0_shelf x0_rowSort x0_rowSize x0_moved x0_shown x0_tape x0_tapeSize x0_refused x0_lines x0_changes x0_coins x0_goods x0_works x0_years x0_gone x0_spent x0_at x0_token x0_from x0_figures x0_fault x0_numbers x0_statements x0_left g1 g2 x0_way (0) (0 : Int64) z9 x0_totals, gridI d r0_line 20 7 x0_line] 0 0 38 [(0, .ref (h0 0)), (1, .int p1), (2, .int p2), (4, .int v4), (5, .int z7), (6, .int z8)] [] := by
      intro k
      induction k with
      | zero => intro z7 z8 z9 h; cases h
      | succ k ih6 =>
        intro z7 z8 z9 h
        obtain ⟨k2, rr6, hk2, hs6, hr6⟩ := lp_ok h
        cases hk2
        have hs6 : fX7_findWay_s38 n p1 p2 x0_shelf x0_rowSort x0_rowSize x0_rows x0_moved x0_shown x0_tape x0_tapeSize x0_refused x0_lines x0_line x0_changes x0_coins x0_goods x0_good x0_works x0_work x0_years x0_gone x0_spent x0_at x0_token x0_from x0_figures x0_fault x0_numbers x0_statements x0_left x0_way x0_totals g1 g2 v4 z7 z8 z9 = some rr6 := hs6
        unfold fX7_findWay_s38 at hs6
        refine J_iload hK dX7_findWay_38 rfl 5 rfl ?_
        refine J_if_lt (tg := 92) hK dX7_findWay_40 rfl rfl (fun hc40 => ?_) (fun hc40 => ?_)
        · have hs6 := ip hc40 hs6
          exact J_loc [0, 2, 4] rfl (hx6_92 z7 z9 (lpx hs6 hr6))
        · have hs6 := iq hc40 hs6
          refine J_aload_n hK dX7_findWay_43 rfl 0 rfl rfl ?_
          refine J_get hK fo_RX7_64 dX7_findWay_44 rfl 0 0 rfl rfl rfl ?_
          refine J_iconst (v := 3) hK dX7_findWay_47 rfl (by decide) ?_
          refine J_iload_n hK dX7_findWay_48 rfl 1 rfl rfl ?_
          refine J_imul hK dX7_findWay_49 rfl ?_
          refine J_iload hK dX7_findWay_50 rfl 5 rfl ?_
          refine J_iadd hK dX7_findWay_52 rfl ?_
          obtain ⟨v44, ev44, hs6⟩ := bs hs6
          refine J_iald hK dX7_findWay_53 rfl 0 16 rfl rfl ev44 ?_
          refine J_iload hK dX7_findWay_54 rfl 3 rfl ?_
          refine J_icmp_ne (tg := 82) hK dX7_findWay_56 rfl rfl (fun hc56 => ?_) (fun hc56 => ?_)
          · have hs6 := iq hc56 hs6
            refine J_iload hK dX7_findWay_82 rfl 4 rfl ?_
            refine J_istore (L' := [(5, .int z7), (0, .ref (h0 0)), (1, .int p1), (2, .int p2), (4, .int v4), (6, .int z8)]) hK dX7_findWay_84 rfl (by decide) rfl ?_
            refine J_iinc (L' := [(6, .int (z8 + (-1))), (5, .int z7), (0, .ref (h0 0)), (1, .int p1), (2, .int p2), (4, .int v4)]) (v := (z8 + (-1))) hK dX7_findWay_86 rfl 5 rfl rfl (by decide) rfl ?_
            refine J_goto hK dX7_findWay_89 (n := 38) rfl ?_
            exact J_loc [2, 3, 4, 5, 1, 0] rfl (ih6 z7 (z8 + (-1)) z9 (lpc hs6 hr6))
          · have hs6 := ip hc56 hs6
            refine J_aload_n hK dX7_findWay_59 rfl 0 rfl rfl ?_
            refine J_iconst (v := 3) hK dX7_findWay_60 rfl (by decide) ?_
            refine J_iload_n hK dX7_findWay_61 rfl 1 rfl rfl ?_
            refine J_imul hK dX7_findWay_62 rfl ?_
            refine J_iload hK dX7_findWay_63 rfl 5 rfl ?_
            refine J_iadd hK dX7_findWay_65 rfl ?_
            refine J_iload_n hK dX7_findWay_66 rfl 2 rfl rfl ?_
            obtain ⟨⟨v45, g46⟩, e47, hs6⟩ := bs hs6
            have hs6 := un2 hs6
            refine J_callV (m' := 2) (ce' := 0) (sl' := 0) (gr := []) (gs' := fun _ => [gMd d h0 a0_kept a0_tried a0_chosen r0_rows r0_line r0_good r0_work x0_shelf x0_rowSort x0_rowSize x0_moved x0_shown x0_tape x0_tapeSize x0_refused x0_lines x0_changes x0_coins x0_goods x0_works x0_years x0_gone x0_spent x0_at x0_token x0_from x0_figures x0_fault x0_numbers x0_statements x0_left g1 g2 x0_way (0) (0 : Int64) g46 x0_totals, gridI d r0_line 20 7 x0_line]) (st' := fun _ => [.int v45]) (st := []) hK dX7_findWay_67 cv_RX7_273 iv_yX7_canEnd (As := [.int ((3 * p1) + z8), .int p2]) (kX7_canEnd _ d h0 r0_rows r0_line r0_good r0_work a0_kept a0_tried a0_chosen n x0_shelf x0_rowSort x0_rowSize x0_rows x0_moved x0_shown x0_tape x0_tapeSize x0_refused x0_lines x0_line x0_changes x0_coins x0_goods x0_good x0_works x0_work x0_years x0_gone x0_spent x0_at x0_token x0_from x0_figures x0_fault x0_numbers x0_statements x0_left g1 g2 x0_way (0) (0 : Int64) z9 x0_totals ((3 * p1) + z8) p2 e47) rfl rfl (Nat.le_of_ble_eq_true rfl) (by decide) 0 0 rfl rfl rfl [0, 1] [] rfl rfl rfl rfl [0, 1] rfl (fun _ => rfl) (fun _ => rfl) rfl rfl rfl (fun _ => rfl) (fun _ => ?_)
            refine J_if_eq (tg := 82) hK dX7_findWay_70 rfl rfl (fun hc70 => ?_) (fun hc70 => ?_)
            · have hs6 := ip hc70 hs6
              refine J_iload hK dX7_findWay_82 rfl 4 rfl ?_
              refine J_istore (L' := [(5, .int z7), (0, .ref (h0 0)), (1, .int p1), (2, .int p2), (4, .int v4), (6, .int z8)]) hK dX7_findWay_84 rfl (by decide) rfl ?_
              refine J_iinc (L' := [(6, .int (z8 + (-1))), (5, .int z7), (0, .ref (h0 0)), (1, .int p1), (2, .int p2), (4, .int v4)]) (v := (z8 + (-1))) hK dX7_findWay_86 rfl 5 rfl rfl (by decide) rfl ?_
              refine J_goto hK dX7_findWay_89 (n := 38) rfl ?_
              exact J_loc [2, 3, 4, 5, 1, 0] rfl (ih6 z7 (z8 + (-1)) g46 (lpc hs6 hr6))
            · have hs6 := iq hc70 hs6
              refine J_iconst (v := 3) hK dX7_findWay_73 rfl (by decide) ?_
              refine J_iload_n hK dX7_findWay_74 rfl 1 rfl rfl ?_
              refine J_imul hK dX7_findWay_75 rfl ?_
              refine J_iload hK dX7_findWay_76 rfl 5 rfl ?_
              refine J_iadd hK dX7_findWay_78 rfl ?_
              refine J_goto hK dX7_findWay_79 (n := 84) rfl ?_
              refine J_istore (L' := [(5, .int ((3 * p1) + z8)), (0, .ref (h0 0)), (1, .int p1), (2, .int p2), (4, .int v4), (6, .int z8)]) hK dX7_findWay_84 rfl (by decide) rfl ?_
              refine J_iinc (L' := [(6, .int (z8 + (-1))), (5, .int ((3 * p1) + z8)), (0, .ref (h0 0)), (1, .int p1), (2, .int p2), (4, .int v4)]) (v := (z8 + (-1))) hK dX7_findWay_86 rfl 5 rfl rfl (by decide) rfl ?_
              refine J_goto hK dX7_findWay_89 (n := 38) rfl ?_
              exact J_loc [2, 3, 4, 5, 1, 0] rfl (ih6 ((3 * p1) + z8) (z8 + (-1)) g46 (lpc hs6 hr6))
    exact J_loc [3, 4, 5, 2, 1, 0] rfl (lo6 n (-1) (2) x0_queue hl6)
  · have hf := iq hc27 hf
    refine J_iconst (v := 0) hK dX7_findWay_30 rfl (by decide) ?_
    obtain rfl := Option.some.inj hf
    exact J_zret hK hR dX7_findWay_31 () rfl rfl (by decide) (by decide)

def fX7_cheapest (n : Nat) (X0 : MdT) (p1 : Int32) (p2 : Int32) : Option (Int32 × (Nat → Int32) × (Nat → Int32) × (Nat → Int32) × Int32) :=
  u35 (fun (x0_shelf : (Nat → Int32)) (x0_rowSort : (Nat → Int32)) (x0_rowSize : (Nat → Int32)) (x0_rows : (Nat → Nat → Int64)) (x0_moved : (Nat → Int64)) (x0_shown : (Nat → Int32)) (x0_tape : (Nat → Int32)) (x0_tapeSize : Int32) (x0_refused : (Nat → Int32)) (x0_lines : Int32) (x0_line : (Nat → Nat → Int32)) (x0_changes : (Nat → Int32)) (x0_coins : (Nat → Int32)) (x0_goods : Int32) (x0_good : (Nat → Nat → Int32)) (x0_works : Int32) (x0_work : (Nat → Nat → Int32)) (x0_years : Int32) (x0_gone : Int32) (x0_spent : Int32) (x0_at : Int32) (x0_token : Int32) (x0_from : Int32) (x0_figures : Int64) (x0_fault : Int32) (x0_numbers : (Nat → Int32)) (x0_statements : Int32) (x0_left : (Nat → Int32)) (x0_far : (Nat → Int32)) (x0_tons : Int32) (x0_way : (Nat → Int32)) (x0_steps : Int32) (x0_met : Int64) (x0_queue : (Nat → Int32)) (x0_totals : (Nat → Int32)) => (fX7_isPlace p1).bind (fun v1 => if v1 = 0 then ((fX7_refuse (x0_shelf, x0_rowSort, x0_rowSize, x0_rows, x0_moved, x0_shown, x0_tape, x0_tapeSize, x0_refused, x0_lines, x0_line, x0_changes, x0_coins, x0_goods, x0_good, x0_works, x0_work, x0_years, x0_gone, x0_spent, x0_at, x0_token, x0_from, x0_figures, x0_fault, x0_numbers, x0_statements, x0_left, x0_far, x0_tons, x0_way, x0_steps, x0_met, x0_queue, x0_totals) (-2)).bind (u2 fun v3 g4 => some (v3, g4, x0_left, x0_far, x0_tons))) else ((fX7_isPlace p2).bind (fun v6 => if v6 = 0 then ((fX7_refuse (x0_shelf, x0_rowSort, x0_rowSize, x0_rows, x0_moved, x0_shown, x0_tape, x0_tapeSize, x0_refused, x0_lines, x0_line, x0_changes, x0_coins, x0_goods, x0_good, x0_works, x0_work, x0_years, x0_gone, x0_spent, x0_at, x0_token, x0_from, x0_figures, x0_fault, x0_numbers, x0_statements, x0_left, x0_far, x0_tons, x0_way, x0_steps, x0_met, x0_queue, x0_totals) (-2)).bind (u2 fun v20 g21 => some (v20, g21, x0_left, x0_far, x0_tons))) else ((fX7_refill n (x0_shelf, x0_rowSort, x0_rowSize, x0_rows, x0_moved, x0_shown, x0_tape, x0_tapeSize, x0_refused, x0_lines, x0_line, x0_changes, x0_coins, x0_goods, x0_good, x0_works, x0_work, x0_years, x0_gone, x0_spent, x0_at, x0_token, x0_from, x0_figures, x0_fault, x0_numbers, x0_statements, x0_left, x0_far, x0_tons, x0_way, x0_steps, x0_met, x0_queue, x0_totals)).bind (fun g8 => (fX7_findFar n (x0_shelf, x0_rowSort, x0_rowSize, x0_rows, x0_moved, x0_shown, x0_tape, x0_tapeSize, x0_refused, x0_lines, x0_line, x0_changes, x0_coins, x0_goods, x0_good, x0_works, x0_work, x0_years, x0_gone, x0_spent, x0_at, x0_token, x0_from, x0_figures, x0_fault, x0_numbers, x0_statements, g8, x0_far, x0_tons, x0_way, x0_steps, x0_met, x0_queue, x0_totals) p2 (0)).bind (u2 fun g10 g11 => (fX7_least n (x0_shelf, x0_rowSort, x0_rowSize, x0_rows, x0_moved, x0_shown, x0_tape, x0_tapeSize, x0_refused, x0_lines, x0_line, x0_changes, x0_coins, x0_goods, x0_good, x0_works, x0_work, x0_years, x0_gone, x0_spent, x0_at, x0_token, x0_from, x0_figures, x0_fault, x0_numbers, x0_statements, g8, g10, g11, x0_way, x0_steps, x0_met, x0_queue, x0_totals) p1).bind (fun v13 => if v13 < 1000000000 then ((fX7_least n (x0_shelf, x0_rowSort, x0_rowSize, x0_rows, x0_moved, x0_shown, x0_tape, x0_tapeSize, x0_refused, x0_lines, x0_line, x0_changes, x0_coins, x0_goods, x0_good, x0_works, x0_work, x0_years, x0_gone, x0_spent, x0_at, x0_token, x0_from, x0_figures, x0_fault, x0_numbers, x0_statements, g8, g10, g11, x0_way, x0_steps, x0_met, x0_queue, x0_totals) p1).bind (fun v15 => some (v15, x0_refused, g8, g10, g11))) else ((fX7_refuse (x0_shelf, x0_rowSort, x0_rowSize, x0_rows, x0_moved, x0_shown, x0_tape, x0_tapeSize, x0_refused, x0_lines, x0_line, x0_changes, x0_coins, x0_goods, x0_good, x0_works, x0_work, x0_years, x0_gone, x0_spent, x0_at, x0_token, x0_from, x0_figures, x0_fault, x0_numbers, x0_statements, g8, g10, g11, x0_way, x0_steps, x0_met, x0_queue, x0_totals) (-5)).bind (u2 fun v17 g18 => some (v17, g18, g8, g10, g11))))))))))) X0
set_option maxHeartbeats 4000000 in
set_option maxRecDepth 100000 in
theorem kX7_cheapest (l : Launch) (d : DT) (h0 : Nat → Nat) (r0_rows : Nat → Nat) (r0_line : Nat → Nat) (r0_good : Nat → Nat) (r0_work : Nat → Nat) (a0_kept : Option Nat) (a0_tried : Option Nat) (a0_chosen : Option Nat) (n : Nat) (x0_shelf : (Nat → Int32)) (x0_rowSort : (Nat → Int32)) (x0_rowSize : (Nat → Int32)) (x0_rows : (Nat → Nat → Int64)) (x0_moved : (Nat → Int64)) (x0_shown : (Nat → Int32)) (x0_tape : (Nat → Int32)) (x0_tapeSize : Int32) (x0_refused : (Nat → Int32)) (x0_lines : Int32) (x0_line : (Nat → Nat → Int32)) (x0_changes : (Nat → Int32)) (x0_coins : (Nat → Int32)) (x0_goods : Int32) (x0_good : (Nat → Nat → Int32)) (x0_works : Int32) (x0_work : (Nat → Nat → Int32)) (x0_years : Int32) (x0_gone : Int32) (x0_spent : Int32) (x0_at : Int32) (x0_token : Int32) (x0_from : Int32) (x0_figures : Int64) (x0_fault : Int32) (x0_numbers : (Nat → Int32)) (x0_statements : Int32) (x0_left : (Nat → Int32)) (x0_far : (Nat → Int32)) (x0_tons : Int32) (x0_way : (Nat → Int32)) (x0_steps : Int32) (x0_met : Int64) (x0_queue : (Nat → Int32)) (x0_totals : (Nat → Int32)) (p1 : Int32) (p2 : Int32)  {out : Int32 × (Nat → Int32) × (Nat → Int32) × (Nat → Int32) × Int32} (hf : fX7_cheapest n (x0_shelf, x0_rowSort, x0_rowSize, x0_rows, x0_moved, x0_shown, x0_tape, x0_tapeSize, x0_refused, x0_lines, x0_line, x0_changes, x0_coins, x0_goods, x0_good, x0_works, x0_work, x0_years, x0_gone, x0_spent, x0_at, x0_token, x0_from, x0_figures, x0_fault, x0_numbers, x0_statements, x0_left, x0_far, x0_tons, x0_way, x0_steps, x0_met, x0_queue, x0_totals) p1 p2 = some out) : Ct l d yX7_cheapest cX7_cheapest 3 (some .int) { frames := 2, cells := 0, slots := 0, locals := 50 } [.ref (h0 0), .int p1, .int p2] [gMd d h0 a0_kept a0_tried a0_chosen r0_rows r0_line r0_good r0_work x0_shelf x0_rowSort x0_rowSize x0_moved x0_shown x0_tape x0_tapeSize x0_refused x0_lines x0_changes x0_coins x0_goods x0_works x0_years x0_gone x0_spent x0_at x0_token x0_from x0_figures x0_fault x0_numbers x0_statements x0_left x0_far x0_tons x0_way x0_steps x0_met x0_queue x0_totals, gridI d r0_line 20 7 x0_line] (fun _ : Unit => (some (.int out.1), [gMd d h0 a0_kept a0_tried a0_chosen r0_rows r0_line r0_good r0_work x0_shelf x0_rowSort x0_rowSize x0_moved x0_shown x0_tape x0_tapeSize (out.2.1) x0_lines x0_changes x0_coins x0_goods x0_works x0_years x0_gone x0_spent x0_at x0_token x0_from x0_figures x0_fault x0_numbers x0_statements (out.2.2.1) (out.2.2.2.1) (out.2.2.2.2) x0_way x0_steps x0_met x0_queue x0_totals, gridI d r0_line 20 7 x0_line])) := by
  refine Ct.of (by decide) (Nat.le_of_ble_eq_true rfl) ?_
  intro Φ hl hK hR
  subst hl
  have hK : Ok d Φ RX7 "cheapest" cX7_cheapest 3 (some .int) { frames := 2, cells := 0, slots := 0, locals := 50 } := hK
  unfold fX7_cheapest at hf
  have hf := un35 hf
  show J d Φ 3 [gMd d h0 a0_kept a0_tried a0_chosen r0_rows r0_line r0_good r0_work x0_shelf x0_rowSort x0_rowSize x0_moved x0_shown x0_tape x0_tapeSize x0_refused x0_lines x0_changes x0_coins x0_goods x0_works x0_years x0_gone x0_spent x0_at x0_token x0_from x0_figures x0_fault x0_numbers x0_statements x0_left x0_far x0_tons x0_way x0_steps x0_met x0_queue x0_totals, gridI d r0_line 20 7 x0_line] 0 0 0 [(0, .ref (h0 0)), (1, .int p1), (2, .int p2)] []
  refine J_iload_n hK dX7_cheapest_0 rfl 1 rfl rfl ?_
  obtain ⟨v1, e2, hf⟩ := bs hf
  refine J_callS (m' := 2) (ce' := 0) (sl' := 0) (gr := [gMd d h0 a0_kept a0_tried a0_chosen r0_rows r0_line r0_good r0_work x0_shelf x0_rowSort x0_rowSize x0_moved x0_shown x0_tape x0_tapeSize x0_refused x0_lines x0_changes x0_coins x0_goods x0_works x0_years x0_gone x0_spent x0_at x0_token x0_from x0_figures x0_fault x0_numbers x0_statements x0_left x0_far x0_tons x0_way x0_steps x0_met x0_queue x0_totals, gridI d r0_line 20 7 x0_line]) (gs' := fun _ => [gMd d h0 a0_kept a0_tried a0_chosen r0_rows r0_line r0_good r0_work x0_shelf x0_rowSort x0_rowSize x0_moved x0_shown x0_tape x0_tapeSize x0_refused x0_lines x0_changes x0_coins x0_goods x0_works x0_years x0_gone x0_spent x0_at x0_token x0_from x0_figures x0_fault x0_numbers x0_statements x0_left x0_far x0_tons x0_way x0_steps x0_met x0_queue x0_totals, gridI d r0_line 20 7 x0_line]) (st' := fun _ => [.int v1]) (st := []) hK dX7_cheapest_1 cv_RX7_112 ws_yX7_isPlace (As := [.int p1]) (kX7_isPlace _ d p1 e2) rfl rfl (Nat.le_of_ble_eq_true rfl) (by decide) [] [0, 1] rfl rfl rfl rfl [0, 1] rfl (fun _ => rfl) (fun _ => rfl) rfl rfl rfl (fun _ => rfl) (fun _ => ?_)
  refine J_if_eq (tg := 14) hK dX7_cheapest_4 rfl rfl (fun hc4 => ?_) (fun hc4 => ?_)
  · have hf := ip hc4 hf
    refine J_aload_n hK dX7_cheapest_14 rfl 0 rfl rfl ?_
    refine J_bipush (v := (-2)) hK dX7_cheapest_15 rfl (by decide) ?_
    obtain ⟨⟨v3, g4⟩, e5, hf⟩ := bs hf
    have hf := un2 hf
    refine J_callV (m' := 2) (ce' := 0) (sl' := 0) (gr := [gridI d r0_line 20 7 x0_line]) (gs' := fun _ => [gMd d h0 a0_kept a0_tried a0_chosen r0_rows r0_line r0_good r0_work x0_shelf x0_rowSort x0_rowSize x0_moved x0_shown x0_tape x0_tapeSize g4 x0_lines x0_changes x0_coins x0_goods x0_works x0_years x0_gone x0_spent x0_at x0_token x0_from x0_figures x0_fault x0_numbers x0_statements x0_left x0_far x0_tons x0_way x0_steps x0_met x0_queue x0_totals, gridI d r0_line 20 7 x0_line]) (st' := fun _ => [.int v3]) (st := []) hK dX7_cheapest_17 cv_RX7_94 iv_yX7_refuse (As := [.int (-2)]) (kX7_refuse _ d h0 r0_rows r0_line r0_good r0_work a0_kept a0_tried a0_chosen x0_shelf x0_rowSort x0_rowSize x0_rows x0_moved x0_shown x0_tape x0_tapeSize x0_refused x0_lines x0_line x0_changes x0_coins x0_goods x0_good x0_works x0_work x0_years x0_gone x0_spent x0_at x0_token x0_from x0_figures x0_fault x0_numbers x0_statements x0_left x0_far x0_tons x0_way x0_steps x0_met x0_queue x0_totals (-2) e5) rfl rfl (Nat.le_of_ble_eq_true rfl) (by decide) 0 0 rfl rfl rfl [0] [1] rfl rfl rfl rfl [1, 0] rfl (fun _ => rfl) (fun _ => rfl) rfl rfl rfl (fun _ => rfl) (fun _ => ?_)
    obtain rfl := Option.some.inj hf
    exact J_iret hK hR dX7_cheapest_20 () rfl (by decide) (by decide)
  · have hf := iq hc4 hf
    refine J_iload_n hK dX7_cheapest_7 rfl 2 rfl rfl ?_
    obtain ⟨v6, e7, hf⟩ := bs hf
    refine J_callS (m' := 2) (ce' := 0) (sl' := 0) (gr := [gMd d h0 a0_kept a0_tried a0_chosen r0_rows r0_line r0_good r0_work x0_shelf x0_rowSort x0_rowSize x0_moved x0_shown x0_tape x0_tapeSize x0_refused x0_lines x0_changes x0_coins x0_goods x0_works x0_years x0_gone x0_spent x0_at x0_token x0_from x0_figures x0_fault x0_numbers x0_statements x0_left x0_far x0_tons x0_way x0_steps x0_met x0_queue x0_totals, gridI d r0_line 20 7 x0_line]) (gs' := fun _ => [gMd d h0 a0_kept a0_tried a0_chosen r0_rows r0_line r0_good r0_work x0_shelf x0_rowSort x0_rowSize x0_moved x0_shown x0_tape x0_tapeSize x0_refused x0_lines x0_changes x0_coins x0_goods x0_works x0_years x0_gone x0_spent x0_at x0_token x0_from x0_figures x0_fault x0_numbers x0_statements x0_left x0_far x0_tons x0_way x0_steps x0_met x0_queue x0_totals, gridI d r0_line 20 7 x0_line]) (st' := fun _ => [.int v6]) (st := []) hK dX7_cheapest_8 cv_RX7_112 ws_yX7_isPlace (As := [.int p2]) (kX7_isPlace _ d p2 e7) rfl rfl (Nat.le_of_ble_eq_true rfl) (by decide) [] [0, 1] rfl rfl rfl rfl [0, 1] rfl (fun _ => rfl) (fun _ => rfl) rfl rfl rfl (fun _ => rfl) (fun _ => ?_)
    refine J_if_ne (tg := 21) hK dX7_cheapest_11 rfl rfl (fun hc11 => ?_) (fun hc11 => ?_)
    · have hf := iq hc11 hf
      refine J_aload_n hK dX7_cheapest_21 rfl 0 rfl rfl ?_
      obtain ⟨g8, e9, hf⟩ := bs hf
      refine J_callV (m' := 2) (ce' := 0) (sl' := 0) (gr := []) (gs' := fun _ => [gMd d h0 a0_kept a0_tried a0_chosen r0_rows r0_line r0_good r0_work x0_shelf x0_rowSort x0_rowSize x0_moved x0_shown x0_tape x0_tapeSize x0_refused x0_lines x0_changes x0_coins x0_goods x0_works x0_years x0_gone x0_spent x0_at x0_token x0_from x0_figures x0_fault x0_numbers x0_statements g8 x0_far x0_tons x0_way x0_steps x0_met x0_queue x0_totals, gridI d r0_line 20 7 x0_line]) (st' := fun _ => []) (st := []) hK dX7_cheapest_22 cv_RX7_276 iv_yX7_refill (As := []) (kX7_refill _ d h0 r0_rows r0_line r0_good r0_work a0_kept a0_tried a0_chosen n x0_shelf x0_rowSort x0_rowSize x0_rows x0_moved x0_shown x0_tape x0_tapeSize x0_refused x0_lines x0_line x0_changes x0_coins x0_goods x0_good x0_works x0_work x0_years x0_gone x0_spent x0_at x0_token x0_from x0_figures x0_fault x0_numbers x0_statements x0_left x0_far x0_tons x0_way x0_steps x0_met x0_queue x0_totals e9) rfl rfl (Nat.le_of_ble_eq_true rfl) (by decide) 0 0 rfl rfl rfl [0, 1] [] rfl rfl rfl rfl [0, 1] rfl (fun _ => rfl) (fun _ => rfl) rfl rfl rfl (fun _ => rfl) (fun _ => ?_)
      refine J_aload_n hK dX7_cheapest_25 rfl 0 rfl rfl ?_
      refine J_iload_n hK dX7_cheapest_26 rfl 2 rfl rfl ?_
      refine J_iconst (v := 0) hK dX7_cheapest_27 rfl (by decide) ?_
      obtain ⟨⟨g10, g11⟩, e12, hf⟩ := bs hf
      have hf := un2 hf
      refine J_callV (m' := 2) (ce' := 0) (sl' := 0) (gr := []) (gs' := fun _ => [gMd d h0 a0_kept a0_tried a0_chosen r0_rows r0_line r0_good r0_work x0_shelf x0_rowSort x0_rowSize x0_moved x0_shown x0_tape x0_tapeSize x0_refused x0_lines x0_changes x0_coins x0_goods x0_works x0_years x0_gone x0_spent x0_at x0_token x0_from x0_figures x0_fault x0_numbers x0_statements g8 g10 g11 x0_way x0_steps x0_met x0_queue x0_totals, gridI d r0_line 20 7 x0_line]) (st' := fun _ => []) (st := []) hK dX7_cheapest_28 cv_RX7_264 iv_yX7_findFar (As := [.int p2, .int (0)]) (kX7_findFar _ d h0 r0_rows r0_line r0_good r0_work a0_kept a0_tried a0_chosen n x0_shelf x0_rowSort x0_rowSize x0_rows x0_moved x0_shown x0_tape x0_tapeSize x0_refused x0_lines x0_line x0_changes x0_coins x0_goods x0_good x0_works x0_work x0_years x0_gone x0_spent x0_at x0_token x0_from x0_figures x0_fault x0_numbers x0_statements g8 x0_far x0_tons x0_way x0_steps x0_met x0_queue x0_totals p2 (0) e12) rfl rfl (Nat.le_of_ble_eq_true rfl) (by decide) 0 0 rfl rfl rfl [0, 1] [] rfl rfl rfl rfl [0, 1] rfl (fun _ => rfl) (fun _ => rfl) rfl rfl rfl (fun _ => rfl) (fun _ => ?_)
      refine J_aload_n hK dX7_cheapest_31 rfl 0 rfl rfl ?_
      refine J_iload_n hK dX7_cheapest_32 rfl 1 rfl rfl ?_
      obtain ⟨v13, e14, hf⟩ := bs hf
      refine J_callV (m' := 2) (ce' := 0) (sl' := 0) (gr := [gridI d r0_line 20 7 x0_line]) (gs' := fun _ => [gMd d h0 a0_kept a0_tried a0_chosen r0_rows r0_line r0_good r0_work x0_shelf x0_rowSort x0_rowSize x0_moved x0_shown x0_tape x0_tapeSize x0_refused x0_lines x0_changes x0_coins x0_goods x0_works x0_years x0_gone x0_spent x0_at x0_token x0_from x0_figures x0_fault x0_numbers x0_statements g8 g10 g11 x0_way x0_steps x0_met x0_queue x0_totals, gridI d r0_line 20 7 x0_line]) (st' := fun _ => [.int v13]) (st := []) hK dX7_cheapest_33 cv_RX7_270 iv_yX7_least (As := [.int p1]) (kX7_least _ d h0 r0_rows r0_line r0_good r0_work a0_kept a0_tried a0_chosen n x0_shelf x0_rowSort x0_rowSize x0_rows x0_moved x0_shown x0_tape x0_tapeSize x0_refused x0_lines x0_line x0_changes x0_coins x0_goods x0_good x0_works x0_work x0_years x0_gone x0_spent x0_at x0_token x0_from x0_figures x0_fault x0_numbers x0_statements g8 g10 g11 x0_way x0_steps x0_met x0_queue x0_totals p1 e14) rfl rfl (Nat.le_of_ble_eq_true rfl) (by decide) 0 0 rfl rfl rfl [0] [1] rfl rfl rfl rfl [1, 0] rfl (fun _ => rfl) (fun _ => rfl) rfl rfl rfl (fun _ => rfl) (fun _ => ?_)
      refine J_ldc (v := 1000000000) hK dX7_cheapest_36 rfl wk_RX7_254 ?_
      refine J_icmp_lt (tg := 50) hK dX7_cheapest_38 rfl rfl (fun hc38 => ?_) (fun hc38 => ?_)
      · have hf := ip hc38 hf
        refine J_aload_n hK dX7_cheapest_50 rfl 0 rfl rfl ?_
        refine J_iload_n hK dX7_cheapest_51 rfl 1 rfl rfl ?_
        obtain ⟨v15, e16, hf⟩ := bs hf
        refine J_callV (m' := 2) (ce' := 0) (sl' := 0) (gr := [gridI d r0_line 20 7 x0_line]) (gs' := fun _ => [gMd d h0 a0_kept a0_tried a0_chosen r0_rows r0_line r0_good r0_work x0_shelf x0_rowSort x0_rowSize x0_moved x0_shown x0_tape x0_tapeSize x0_refused x0_lines x0_changes x0_coins x0_goods x0_works x0_years x0_gone x0_spent x0_at x0_token x0_from x0_figures x0_fault x0_numbers x0_statements g8 g10 g11 x0_way x0_steps x0_met x0_queue x0_totals, gridI d r0_line 20 7 x0_line]) (st' := fun _ => [.int v15]) (st := []) hK dX7_cheapest_52 cv_RX7_270 iv_yX7_least (As := [.int p1]) (kX7_least _ d h0 r0_rows r0_line r0_good r0_work a0_kept a0_tried a0_chosen n x0_shelf x0_rowSort x0_rowSize x0_rows x0_moved x0_shown x0_tape x0_tapeSize x0_refused x0_lines x0_line x0_changes x0_coins x0_goods x0_good x0_works x0_work x0_years x0_gone x0_spent x0_at x0_token x0_from x0_figures x0_fault x0_numbers x0_statements g8 g10 g11 x0_way x0_steps x0_met x0_queue x0_totals p1 e16) rfl rfl (Nat.le_of_ble_eq_true rfl) (by decide) 0 0 rfl rfl rfl [0] [1] rfl rfl rfl rfl [1, 0] rfl (fun _ => rfl) (fun _ => rfl) rfl rfl rfl (fun _ => rfl) (fun _ => ?_)
        obtain rfl := Option.some.inj hf
        exact J_iret hK hR dX7_cheapest_55 () rfl (by decide) (by decide)
      · have hf := iq hc38 hf
        refine J_aload_n hK dX7_cheapest_41 rfl 0 rfl rfl ?_
        refine J_bipush (v := (-5)) hK dX7_cheapest_42 rfl (by decide) ?_
        obtain ⟨⟨v17, g18⟩, e19, hf⟩ := bs hf
        have hf := un2 hf
        refine J_callV (m' := 2) (ce' := 0) (sl' := 0) (gr := [gridI d r0_line 20 7 x0_line]) (gs' := fun _ => [gMd d h0 a0_kept a0_tried a0_chosen r0_rows r0_line r0_good r0_work x0_shelf x0_rowSort x0_rowSize x0_moved x0_shown x0_tape x0_tapeSize g18 x0_lines x0_changes x0_coins x0_goods x0_works x0_years x0_gone x0_spent x0_at x0_token x0_from x0_figures x0_fault x0_numbers x0_statements g8 g10 g11 x0_way x0_steps x0_met x0_queue x0_totals, gridI d r0_line 20 7 x0_line]) (st' := fun _ => [.int v17]) (st := []) hK dX7_cheapest_44 cv_RX7_94 iv_yX7_refuse (As := [.int (-5)]) (kX7_refuse _ d h0 r0_rows r0_line r0_good r0_work a0_kept a0_tried a0_chosen x0_shelf x0_rowSort x0_rowSize x0_rows x0_moved x0_shown x0_tape x0_tapeSize x0_refused x0_lines x0_line x0_changes x0_coins x0_goods x0_good x0_works x0_work x0_years x0_gone x0_spent x0_at x0_token x0_from x0_figures x0_fault x0_numbers x0_statements g8 g10 g11 x0_way x0_steps x0_met x0_queue x0_totals (-5) e19) rfl rfl (Nat.le_of_ble_eq_true rfl) (by decide) 0 0 rfl rfl rfl [0] [1] rfl rfl rfl rfl [1, 0] rfl (fun _ => rfl) (fun _ => rfl) rfl rfl rfl (fun _ => rfl) (fun _ => ?_)
        refine J_goto hK dX7_cheapest_47 (n := 55) rfl ?_
        obtain rfl := Option.some.inj hf
        exact J_iret hK hR dX7_cheapest_55 () rfl (by decide) (by decide)
    · have hf := ip hc11 hf
      refine J_aload_n hK dX7_cheapest_14 rfl 0 rfl rfl ?_
      refine J_bipush (v := (-2)) hK dX7_cheapest_15 rfl (by decide) ?_
      obtain ⟨⟨v20, g21⟩, e22, hf⟩ := bs hf
      have hf := un2 hf
      refine J_callV (m' := 2) (ce' := 0) (sl' := 0) (gr := [gridI d r0_line 20 7 x0_line]) (gs' := fun _ => [gMd d h0 a0_kept a0_tried a0_chosen r0_rows r0_line r0_good r0_work x0_shelf x0_rowSort x0_rowSize x0_moved x0_shown x0_tape x0_tapeSize g21 x0_lines x0_changes x0_coins x0_goods x0_works x0_years x0_gone x0_spent x0_at x0_token x0_from x0_figures x0_fault x0_numbers x0_statements x0_left x0_far x0_tons x0_way x0_steps x0_met x0_queue x0_totals, gridI d r0_line 20 7 x0_line]) (st' := fun _ => [.int v20]) (st := []) hK dX7_cheapest_17 cv_RX7_94 iv_yX7_refuse (As := [.int (-2)]) (kX7_refuse _ d h0 r0_rows r0_line r0_good r0_work a0_kept a0_tried a0_chosen x0_shelf x0_rowSort x0_rowSize x0_rows x0_moved x0_shown x0_tape x0_tapeSize x0_refused x0_lines x0_line x0_changes x0_coins x0_goods x0_good x0_works x0_work x0_years x0_gone x0_spent x0_at x0_token x0_from x0_figures x0_fault x0_numbers x0_statements x0_left x0_far x0_tons x0_way x0_steps x0_met x0_queue x0_totals (-2) e22) rfl rfl (Nat.le_of_ble_eq_true rfl) (by decide) 0 0 rfl rfl rfl [0] [1] rfl rfl rfl rfl [1, 0] rfl (fun _ => rfl) (fun _ => rfl) rfl rfl rfl (fun _ => rfl) (fun _ => ?_)
      obtain rfl := Option.some.inj hf
      exact J_iret hK hR dX7_cheapest_20 () rfl (by decide) (by decide)

def fX7_findGoods (n : Nat) (X0 : MdT) (p1 : Int32) : Option (Int32 × ((Nat → Int32) × (Nat → Int32) × Int32 × (Nat → Int32) × Int32 × Int64 × (Nat → Int32))) :=
  u35 (fun (x0_shelf : (Nat → Int32)) (x0_rowSort : (Nat → Int32)) (x0_rowSize : (Nat → Int32)) (x0_rows : (Nat → Nat → Int64)) (x0_moved : (Nat → Int64)) (x0_shown : (Nat → Int32)) (x0_tape : (Nat → Int32)) (x0_tapeSize : Int32) (x0_refused : (Nat → Int32)) (x0_lines : Int32) (x0_line : (Nat → Nat → Int32)) (x0_changes : (Nat → Int32)) (x0_coins : (Nat → Int32)) (x0_goods : Int32) (x0_good : (Nat → Nat → Int32)) (x0_works : Int32) (x0_work : (Nat → Nat → Int32)) (x0_years : Int32) (x0_gone : Int32) (x0_spent : Int32) (x0_at : Int32) (x0_token : Int32) (x0_from : Int32) (x0_figures : Int64) (x0_fault : Int32) (x0_numbers : (Nat → Int32)) (x0_statements : Int32) (x0_left : (Nat → Int32)) (x0_far : (Nat → Int32)) (x0_tons : Int32) (x0_way : (Nat → Int32)) (x0_steps : Int32) (x0_met : Int64) (x0_queue : (Nat → Int32)) (x0_totals : (Nat → Int32)) => (fX7_refill n (x0_shelf, x0_rowSort, x0_rowSize, x0_rows, x0_moved, x0_shown, x0_tape, x0_tapeSize, x0_refused, x0_lines, x0_line, x0_changes, x0_coins, x0_goods, x0_good, x0_works, x0_work, x0_years, x0_gone, x0_spent, x0_at, x0_token, x0_from, x0_figures, x0_fault, x0_numbers, x0_statements, x0_left, x0_far, x0_tons, x0_way, x0_steps, x0_met, x0_queue, x0_totals)).bind (fun g1 => (ck p1 8).bind fun q3 => (rd 3 (x0_good q3) (0)).bind fun v4 => (ck p1 8).bind fun q5 => (rd 3 (x0_good q5) (1)).bind fun v6 => (fX7_findWay n (x0_shelf, x0_rowSort, x0_rowSize, x0_rows, x0_moved, x0_shown, x0_tape, x0_tapeSize, x0_refused, x0_lines, x0_line, x0_changes, x0_coins, x0_goods, x0_good, x0_works, x0_work, x0_years, x0_gone, x0_spent, x0_at, x0_token, x0_from, x0_figures, x0_fault, x0_numbers, x0_statements, g1, x0_far, x0_tons, x0_way, x0_steps, x0_met, x0_queue, x0_totals) v4 v6 (0)).bind (u2 fun v7 G8 => u6 (fun g9 g10 g11 g12 g13 g14 => (zb v7).bind fun v16 => some (v16, (g1, g9, g10, g11, g12, g13, g14))) G8))) X0
set_option maxHeartbeats 4000000 in
set_option maxRecDepth 100000 in
theorem kX7_findGoods (l : Launch) (d : DT) (h0 : Nat → Nat) (r0_rows : Nat → Nat) (r0_line : Nat → Nat) (r0_good : Nat → Nat) (r0_work : Nat → Nat) (a0_kept : Option Nat) (a0_tried : Option Nat) (a0_chosen : Option Nat) (n : Nat) (x0_shelf : (Nat → Int32)) (x0_rowSort : (Nat → Int32)) (x0_rowSize : (Nat → Int32)) (x0_rows : (Nat → Nat → Int64)) (x0_moved : (Nat → Int64)) (x0_shown : (Nat → Int32)) (x0_tape : (Nat → Int32)) (x0_tapeSize : Int32) (x0_refused : (Nat → Int32)) (x0_lines : Int32) (x0_line : (Nat → Nat → Int32)) (x0_changes : (Nat → Int32)) (x0_coins : (Nat → Int32)) (x0_goods : Int32) (x0_good : (Nat → Nat → Int32)) (x0_works : Int32) (x0_work : (Nat → Nat → Int32)) (x0_years : Int32) (x0_gone : Int32) (x0_spent : Int32) (x0_at : Int32) (x0_token : Int32) (x0_from : Int32) (x0_figures : Int64) (x0_fault : Int32) (x0_numbers : (Nat → Int32)) (x0_statements : Int32) (x0_left : (Nat → Int32)) (x0_far : (Nat → Int32)) (x0_tons : Int32) (x0_way : (Nat → Int32)) (x0_steps : Int32) (x0_met : Int64) (x0_queue : (Nat → Int32)) (x0_totals : (Nat → Int32)) (p1 : Int32)  {out : Int32 × ((Nat → Int32) × (Nat → Int32) × Int32 × (Nat → Int32) × Int32 × Int64 × (Nat → Int32))} (hf : fX7_findGoods n (x0_shelf, x0_rowSort, x0_rowSize, x0_rows, x0_moved, x0_shown, x0_tape, x0_tapeSize, x0_refused, x0_lines, x0_line, x0_changes, x0_coins, x0_goods, x0_good, x0_works, x0_work, x0_years, x0_gone, x0_spent, x0_at, x0_token, x0_from, x0_figures, x0_fault, x0_numbers, x0_statements, x0_left, x0_far, x0_tons, x0_way, x0_steps, x0_met, x0_queue, x0_totals) p1 = some out) : Ct l d yX7_findGoods cX7_findGoods 2 (some .boolean) { frames := 4, cells := 0, slots := 0, locals := 102 } [.ref (h0 0), .int p1] [gMd d h0 a0_kept a0_tried a0_chosen r0_rows r0_line r0_good r0_work x0_shelf x0_rowSort x0_rowSize x0_moved x0_shown x0_tape x0_tapeSize x0_refused x0_lines x0_changes x0_coins x0_goods x0_works x0_years x0_gone x0_spent x0_at x0_token x0_from x0_figures x0_fault x0_numbers x0_statements x0_left x0_far x0_tons x0_way x0_steps x0_met x0_queue x0_totals, gridI d r0_line 20 7 x0_line, gridI d r0_good 8 3 x0_good] (fun _ : Unit => (some (.int out.1), [gMd d h0 a0_kept a0_tried a0_chosen r0_rows r0_line r0_good r0_work x0_shelf x0_rowSort x0_rowSize x0_moved x0_shown x0_tape x0_tapeSize x0_refused x0_lines x0_changes x0_coins x0_goods x0_works x0_years x0_gone x0_spent x0_at x0_token x0_from x0_figures x0_fault x0_numbers x0_statements (out.2.1) (out.2.2.1) (out.2.2.2.1) (out.2.2.2.2.1) (out.2.2.2.2.2.1) (out.2.2.2.2.2.2.1) (out.2.2.2.2.2.2.2) x0_totals, gridI d r0_line 20 7 x0_line, gridI d r0_good 8 3 x0_good])) := by
  refine Ct.of (by decide) (Nat.le_of_ble_eq_true rfl) ?_
  intro Φ hl hK hR
  subst hl
  have hK : Ok d Φ RX7 "findGoods" cX7_findGoods 2 (some .boolean) { frames := 4, cells := 0, slots := 0, locals := 102 } := hK
  unfold fX7_findGoods at hf
  have hf := un35 hf
  show J d Φ 2 [gMd d h0 a0_kept a0_tried a0_chosen r0_rows r0_line r0_good r0_work x0_shelf x0_rowSort x0_rowSize x0_moved x0_shown x0_tape x0_tapeSize x0_refused x0_lines x0_changes x0_coins x0_goods x0_works x0_years x0_gone x0_spent x0_at x0_token x0_from x0_figures x0_fault x0_numbers x0_statements x0_left x0_far x0_tons x0_way x0_steps x0_met x0_queue x0_totals, gridI d r0_line 20 7 x0_line, gridI d r0_good 8 3 x0_good] 0 0 0 [(0, .ref (h0 0)), (1, .int p1)] []
  refine J_aload_n hK dX7_findGoods_0 rfl 0 rfl rfl ?_
  obtain ⟨g1, e2, hf⟩ := bs hf
  refine J_callV (m' := 3) (ce' := 0) (sl' := 0) (gr := [gridI d r0_good 8 3 x0_good]) (gs' := fun _ => [gMd d h0 a0_kept a0_tried a0_chosen r0_rows r0_line r0_good r0_work x0_shelf x0_rowSort x0_rowSize x0_moved x0_shown x0_tape x0_tapeSize x0_refused x0_lines x0_changes x0_coins x0_goods x0_works x0_years x0_gone x0_spent x0_at x0_token x0_from x0_figures x0_fault x0_numbers x0_statements g1 x0_far x0_tons x0_way x0_steps x0_met x0_queue x0_totals, gridI d r0_line 20 7 x0_line, gridI d r0_good 8 3 x0_good]) (st' := fun _ => []) (st := []) hK dX7_findGoods_1 cv_RX7_276 iv_yX7_refill (As := []) (kX7_refill _ d h0 r0_rows r0_line r0_good r0_work a0_kept a0_tried a0_chosen n x0_shelf x0_rowSort x0_rowSize x0_rows x0_moved x0_shown x0_tape x0_tapeSize x0_refused x0_lines x0_line x0_changes x0_coins x0_goods x0_good x0_works x0_work x0_years x0_gone x0_spent x0_at x0_token x0_from x0_figures x0_fault x0_numbers x0_statements x0_left x0_far x0_tons x0_way x0_steps x0_met x0_queue x0_totals e2) rfl rfl (Nat.le_of_ble_eq_true rfl) (by decide) 0 0 rfl rfl rfl [0, 1] [2] rfl rfl rfl rfl [1, 2, 0] rfl (fun _ => rfl) (fun _ => rfl) rfl rfl rfl (fun _ => rfl) (fun _ => ?_)
  refine J_aload_n hK dX7_findGoods_4 rfl 0 rfl rfl ?_
  refine J_aload_n hK dX7_findGoods_5 rfl 0 rfl rfl ?_
  refine J_get hK fo_RX7_48 dX7_findGoods_6 rfl 0 0 rfl rfl rfl ?_
  refine J_iload_n hK dX7_findGoods_9 rfl 1 rfl rfl ?_
  obtain ⟨q3, eq3, hf⟩ := bs hf
  refine J_aald hK dX7_findGoods_10 rfl 0 12 rfl rfl rfl eq3 ?_
  refine J_iconst (v := 0) hK dX7_findGoods_11 rfl (by decide) ?_
  obtain ⟨v4, ev4, hf⟩ := bs hf
  refine J_iald hK dX7_findGoods_12 rfl 2 q3 rfl (gridI_at (ck_ok eq3).2.2) ev4 ?_
  refine J_aload_n hK dX7_findGoods_13 rfl 0 rfl rfl ?_
  refine J_get hK fo_RX7_48 dX7_findGoods_14 rfl 0 0 rfl rfl rfl ?_
  refine J_iload_n hK dX7_findGoods_17 rfl 1 rfl rfl ?_
  obtain ⟨q5, eq5, hf⟩ := bs hf
  refine J_aald hK dX7_findGoods_18 rfl 0 12 rfl rfl rfl eq5 ?_
  refine J_iconst (v := 1) hK dX7_findGoods_19 rfl (by decide) ?_
  obtain ⟨v6, ev6, hf⟩ := bs hf
  refine J_iald hK dX7_findGoods_20 rfl 2 q5 rfl (gridI_at (ck_ok eq5).2.2) ev6 ?_
  refine J_iconst (v := 0) hK dX7_findGoods_21 rfl (by decide) ?_
  obtain ⟨⟨v7, ⟨g9, g10, g11, g12, g13, g14⟩⟩, e15, hf⟩ := bs hf
  have hf := un2 hf
  have hf := un6 hf
  refine J_callV (m' := 3) (ce' := 0) (sl' := 0) (gr := [gridI d r0_good 8 3 x0_good]) (gs' := fun _ => [gMd d h0 a0_kept a0_tried a0_chosen r0_rows r0_line r0_good r0_work x0_shelf x0_rowSort x0_rowSize x0_moved x0_shown x0_tape x0_tapeSize x0_refused x0_lines x0_changes x0_coins x0_goods x0_works x0_years x0_gone x0_spent x0_at x0_token x0_from x0_figures x0_fault x0_numbers x0_statements g1 g9 g10 g11 g12 g13 g14 x0_totals, gridI d r0_line 20 7 x0_line, gridI d r0_good 8 3 x0_good]) (st' := fun _ => [.int v7]) (st := []) hK dX7_findGoods_22 cv_RX7_279 iv_yX7_findWay (As := [.int v4, .int v6, .int (0)]) (kX7_findWay _ d h0 r0_rows r0_line r0_good r0_work a0_kept a0_tried a0_chosen n x0_shelf x0_rowSort x0_rowSize x0_rows x0_moved x0_shown x0_tape x0_tapeSize x0_refused x0_lines x0_line x0_changes x0_coins x0_goods x0_good x0_works x0_work x0_years x0_gone x0_spent x0_at x0_token x0_from x0_figures x0_fault x0_numbers x0_statements g1 x0_far x0_tons x0_way x0_steps x0_met x0_queue x0_totals v4 v6 (0) e15) rfl rfl (Nat.le_of_ble_eq_true rfl) (by decide) 0 0 rfl rfl rfl [0, 1] [2] rfl rfl rfl rfl [1, 2, 0] rfl (fun _ => rfl) (fun _ => rfl) rfl rfl rfl (fun _ => rfl) (fun _ => ?_)
  obtain ⟨v16, ev16, hf⟩ := bs hf
  obtain rfl := Option.some.inj hf
  exact J_zret hK hR dX7_findGoods_25 () (zb_ok ev16).2 (by rw [(zb_ok ev16).1]) (by decide) (by decide)

def fX7_way_j150 (p2 : Int32) (x0_shelf : (Nat → Int32)) (x0_rowSort : (Nat → Int32)) (x0_rowSize : (Nat → Int32)) (x0_rows : (Nat → Nat → Int64)) (x0_moved : (Nat → Int64)) (x0_shown : (Nat → Int32)) (x0_tape : (Nat → Int32)) (x0_tapeSize : Int32) (x0_refused : (Nat → Int32)) (x0_lines : Int32) (x0_line : (Nat → Nat → Int32)) (x0_changes : (Nat → Int32)) (x0_coins : (Nat → Int32)) (x0_goods : Int32) (x0_good : (Nat → Nat → Int32)) (x0_works : Int32) (x0_work : (Nat → Nat → Int32)) (x0_years : Int32) (x0_gone : Int32) (x0_spent : Int32) (x0_at : Int32) (x0_token : Int32) (x0_from : Int32) (x0_figures : Int64) (x0_fault : Int32) (x0_numbers : (Nat → Int32)) (x0_statements : Int32) (x0_totals : (Nat → Int32)) (v9 : Int32) (g11 : (Nat → Int32)) (g12 : (Nat → Int32)) (g13 : Int32) (g14 : (Nat → Int32)) (g15 : Int32) (g16 : Int64) (g17 : (Nat → Int32)) (w26 : Int32) (w27 : Int32) (w28 : Int32) : Option (Int32 × ((Nat → Int32) × (Nat → Int32) × (Nat → Int32) × Int32 × (Nat → Int32) × Int32 × Int64 × (Nat → Int32))) :=
  if v9 = 0 then ((fX7_refuse (x0_shelf, x0_rowSort, x0_rowSize, x0_rows, x0_moved, x0_shown, x0_tape, x0_tapeSize, x0_refused, x0_lines, x0_line, x0_changes, x0_coins, x0_goods, x0_good, x0_works, x0_work, x0_years, x0_gone, x0_spent, x0_at, x0_token, x0_from, x0_figures, x0_fault, x0_numbers, x0_statements, g11, g12, g13, g14, g15, g16, g17, x0_totals) (-5)).bind (u2 fun v30 g31 => some (v30, (g31, g11, g12, g13, g14, g15, g16, g17)))) else (if p2 = 0 then (some (w26, (x0_refused, g11, g12, g13, g14, g15, g16, g17))) else (if p2 = 1 then (some (((g15 - 1) - w26), (x0_refused, g11, g12, g13, g14, g15, g16, g17))) else (if p2 = 2 then ((rd 37 g14 (0)).bind fun v29 => some (v29, (x0_refused, g11, g12, g13, g14, g15, g16, g17))) else (if p2 = 3 then (some (w28, (x0_refused, g11, g12, g13, g14, g15, g16, g17))) else (some (w27, (x0_refused, g11, g12, g13, g14, g15, g16, g17)))))))
def fX7_way_s61 (p2 : Int32) (g14 : (Nat → Int32)) (g15 : Int32) (z21 : Int32) (z22 : Int32) (z23 : Int32) (z24 : Int32) : Option ((Int32 × Int32 × Int32 × Int32) ⊕ (Int32 × Int32 × Int32)) :=
  if g15 ≤ z24 then (some (.inr (z21, z22, z23))) else ((rd 37 g14 z24).bind fun v36 => if v36 < 3 then ((rd 37 g14 z24).bind fun v37 => some (.inl (z21, z22, v37, (z24 + 1)))) else (if z21 = (p2 - 10) then ((rd 37 g14 z24).bind fun v38 => some (.inl ((z21 + 1), (v38 - 3), z23, (z24 + 1)))) else (some (.inl ((z21 + 1), z22, z23, (z24 + 1))))))
def fX7_way_j38 (n : Nat) (p1 : Int32) (p2 : Int32) (x0_shelf : (Nat → Int32)) (x0_rowSort : (Nat → Int32)) (x0_rowSize : (Nat → Int32)) (x0_rows : (Nat → Nat → Int64)) (x0_moved : (Nat → Int64)) (x0_shown : (Nat → Int32)) (x0_tape : (Nat → Int32)) (x0_tapeSize : Int32) (x0_refused : (Nat → Int32)) (x0_lines : Int32) (x0_line : (Nat → Nat → Int32)) (x0_changes : (Nat → Int32)) (x0_coins : (Nat → Int32)) (x0_goods : Int32) (x0_good : (Nat → Nat → Int32)) (x0_works : Int32) (x0_work : (Nat → Nat → Int32)) (x0_years : Int32) (x0_gone : Int32) (x0_spent : Int32) (x0_at : Int32) (x0_token : Int32) (x0_from : Int32) (x0_figures : Int64) (x0_fault : Int32) (x0_numbers : (Nat → Int32)) (x0_statements : Int32) (x0_left : (Nat → Int32)) (x0_far : (Nat → Int32)) (x0_tons : Int32) (x0_way : (Nat → Int32)) (x0_steps : Int32) (x0_met : Int64) (x0_queue : (Nat → Int32)) (x0_totals : (Nat → Int32)) : Option (Int32 × ((Nat → Int32) × (Nat → Int32) × (Nat → Int32) × Int32 × (Nat → Int32) × Int32 × Int64 × (Nat → Int32))) :=
  (fX7_findGoods n (x0_shelf, x0_rowSort, x0_rowSize, x0_rows, x0_moved, x0_shown, x0_tape, x0_tapeSize, x0_refused, x0_lines, x0_line, x0_changes, x0_coins, x0_goods, x0_good, x0_works, x0_work, x0_years, x0_gone, x0_spent, x0_at, x0_token, x0_from, x0_figures, x0_fault, x0_numbers, x0_statements, x0_left, x0_far, x0_tons, x0_way, x0_steps, x0_met, x0_queue, x0_totals) p1).bind (u2 fun v9 G10 => u7 (fun g11 g12 g13 g14 g15 g16 g17 => (rd 37 g14 (0)).bind fun v19 => (lp (u4 (fX7_way_s61 p2 g14 g15)) n (0, (-1), v19, 1)).bind (u3 fun w26 w27 w28 => if v9 = 0 then (fX7_way_j150 p2 x0_shelf x0_rowSort x0_rowSize x0_rows x0_moved x0_shown x0_tape x0_tapeSize x0_refused x0_lines x0_line x0_changes x0_coins x0_goods x0_good x0_works x0_work x0_years x0_gone x0_spent x0_at x0_token x0_from x0_figures x0_fault x0_numbers x0_statements x0_totals v9 g11 g12 g13 g14 g15 g16 g17 w26 w27 w28) else (if p2 < 10 then (fX7_way_j150 p2 x0_shelf x0_rowSort x0_rowSize x0_rows x0_moved x0_shown x0_tape x0_tapeSize x0_refused x0_lines x0_line x0_changes x0_coins x0_goods x0_good x0_works x0_work x0_years x0_gone x0_spent x0_at x0_token x0_from x0_figures x0_fault x0_numbers x0_statements x0_totals v9 g11 g12 g13 g14 g15 g16 g17 w26 w27 w28) else (if w27 = (-1) then ((fX7_refuse (x0_shelf, x0_rowSort, x0_rowSize, x0_rows, x0_moved, x0_shown, x0_tape, x0_tapeSize, x0_refused, x0_lines, x0_line, x0_changes, x0_coins, x0_goods, x0_good, x0_works, x0_work, x0_years, x0_gone, x0_spent, x0_at, x0_token, x0_from, x0_figures, x0_fault, x0_numbers, x0_statements, g11, g12, g13, g14, g15, g16, g17, x0_totals) (-2)).bind (u2 fun v33 g34 => some (v33, (g34, g11, g12, g13, g14, g15, g16, g17)))) else (fX7_way_j150 p2 x0_shelf x0_rowSort x0_rowSize x0_rows x0_moved x0_shown x0_tape x0_tapeSize x0_refused x0_lines x0_line x0_changes x0_coins x0_goods x0_good x0_works x0_work x0_years x0_gone x0_spent x0_at x0_token x0_from x0_figures x0_fault x0_numbers x0_statements x0_totals v9 g11 g12 g13 g14 g15 g16 g17 w26 w27 w28))))) G10)
def fX7_way (n : Nat) (X0 : MdT) (p1 : Int32) (p2 : Int32) : Option (Int32 × ((Nat → Int32) × (Nat → Int32) × (Nat → Int32) × Int32 × (Nat → Int32) × Int32 × Int64 × (Nat → Int32))) :=
  u35 (fun (x0_shelf : (Nat → Int32)) (x0_rowSort : (Nat → Int32)) (x0_rowSize : (Nat → Int32)) (x0_rows : (Nat → Nat → Int64)) (x0_moved : (Nat → Int64)) (x0_shown : (Nat → Int32)) (x0_tape : (Nat → Int32)) (x0_tapeSize : Int32) (x0_refused : (Nat → Int32)) (x0_lines : Int32) (x0_line : (Nat → Nat → Int32)) (x0_changes : (Nat → Int32)) (x0_coins : (Nat → Int32)) (x0_goods : Int32) (x0_good : (Nat → Nat → Int32)) (x0_works : Int32) (x0_work : (Nat → Nat → Int32)) (x0_years : Int32) (x0_gone : Int32) (x0_spent : Int32) (x0_at : Int32) (x0_token : Int32) (x0_from : Int32) (x0_figures : Int64) (x0_fault : Int32) (x0_numbers : (Nat → Int32)) (x0_statements : Int32) (x0_left : (Nat → Int32)) (x0_far : (Nat → Int32)) (x0_tons : Int32) (x0_way : (Nat → Int32)) (x0_steps : Int32) (x0_met : Int64) (x0_queue : (Nat → Int32)) (x0_totals : (Nat → Int32)) => (fX7_in ((p1).toInt64) (0 : Int64) (((x0_goods - 1)).toInt64)).bind (fun v1 => if v1 = 0 then ((fX7_refuse (x0_shelf, x0_rowSort, x0_rowSize, x0_rows, x0_moved, x0_shown, x0_tape, x0_tapeSize, x0_refused, x0_lines, x0_line, x0_changes, x0_coins, x0_goods, x0_good, x0_works, x0_work, x0_years, x0_gone, x0_spent, x0_at, x0_token, x0_from, x0_figures, x0_fault, x0_numbers, x0_statements, x0_left, x0_far, x0_tons, x0_way, x0_steps, x0_met, x0_queue, x0_totals) (-2)).bind (u2 fun v3 g4 => some (v3, (g4, x0_left, x0_far, x0_tons, x0_way, x0_steps, x0_met, x0_queue)))) else (if p2 < 0 then ((fX7_refuse (x0_shelf, x0_rowSort, x0_rowSize, x0_rows, x0_moved, x0_shown, x0_tape, x0_tapeSize, x0_refused, x0_lines, x0_line, x0_changes, x0_coins, x0_goods, x0_good, x0_works, x0_work, x0_years, x0_gone, x0_spent, x0_at, x0_token, x0_from, x0_figures, x0_fault, x0_numbers, x0_statements, x0_left, x0_far, x0_tons, x0_way, x0_steps, x0_met, x0_queue, x0_totals) (-2)).bind (u2 fun v6 g7 => some (v6, (g7, x0_left, x0_far, x0_tons, x0_way, x0_steps, x0_met, x0_queue)))) else (if p2 ≤ 3 then (fX7_way_j38 n p1 p2 x0_shelf x0_rowSort x0_rowSize x0_rows x0_moved x0_shown x0_tape x0_tapeSize x0_refused x0_lines x0_line x0_changes x0_coins x0_goods x0_good x0_works x0_work x0_years x0_gone x0_spent x0_at x0_token x0_from x0_figures x0_fault x0_numbers x0_statements x0_left x0_far x0_tons x0_way x0_steps x0_met x0_queue x0_totals) else (if 10 ≤ p2 then (fX7_way_j38 n p1 p2 x0_shelf x0_rowSort x0_rowSize x0_rows x0_moved x0_shown x0_tape x0_tapeSize x0_refused x0_lines x0_line x0_changes x0_coins x0_goods x0_good x0_works x0_work x0_years x0_gone x0_spent x0_at x0_token x0_from x0_figures x0_fault x0_numbers x0_statements x0_left x0_far x0_tons x0_way x0_steps x0_met x0_queue x0_totals) else ((fX7_refuse (x0_shelf, x0_rowSort, x0_rowSize, x0_rows, x0_moved, x0_shown, x0_tape, x0_tapeSize, x0_refused, x0_lines, x0_line, x0_changes, x0_coins, x0_goods, x0_good, x0_works, x0_work, x0_years, x0_gone, x0_spent, x0_at, x0_token, x0_from, x0_figures, x0_fault, x0_numbers, x0_statements, x0_left, x0_far, x0_tons, x0_way, x0_steps, x0_met, x0_queue, x0_totals) (-2)).bind (u2 fun v39 g40 => some (v39, (g40, x0_left, x0_far, x0_tons, x0_way, x0_steps, x0_met, x0_queue))))))))) X0
set_option maxHeartbeats 4000000 in
set_option maxRecDepth 100000 in
theorem kX7_way (l : Launch) (d : DT) (h0 : Nat → Nat) (r0_rows : Nat → Nat) (r0_line : Nat → Nat) (r0_good : Nat → Nat) (r0_work : Nat → Nat) (a0_kept : Option Nat) (a0_tried : Option Nat) (a0_chosen : Option Nat) (n : Nat) (x0_shelf : (Nat → Int32)) (x0_rowSort : (Nat → Int32)) (x0_rowSize : (Nat → Int32)) (x0_rows : (Nat → Nat → Int64)) (x0_moved : (Nat → Int64)) (x0_shown : (Nat → Int32)) (x0_tape : (Nat → Int32)) (x0_tapeSize : Int32) (x0_refused : (Nat → Int32)) (x0_lines : Int32) (x0_line : (Nat → Nat → Int32)) (x0_changes : (Nat → Int32)) (x0_coins : (Nat → Int32)) (x0_goods : Int32) (x0_good : (Nat → Nat → Int32)) (x0_works : Int32) (x0_work : (Nat → Nat → Int32)) (x0_years : Int32) (x0_gone : Int32) (x0_spent : Int32) (x0_at : Int32) (x0_token : Int32) (x0_from : Int32) (x0_figures : Int64) (x0_fault : Int32) (x0_numbers : (Nat → Int32)) (x0_statements : Int32) (x0_left : (Nat → Int32)) (x0_far : (Nat → Int32)) (x0_tons : Int32) (x0_way : (Nat → Int32)) (x0_steps : Int32) (x0_met : Int64) (x0_queue : (Nat → Int32)) (x0_totals : (Nat → Int32)) (p1 : Int32) (p2 : Int32)  {out : Int32 × ((Nat → Int32) × (Nat → Int32) × (Nat → Int32) × Int32 × (Nat → Int32) × Int32 × Int64 × (Nat → Int32))} (hf : fX7_way n (x0_shelf, x0_rowSort, x0_rowSize, x0_rows, x0_moved, x0_shown, x0_tape, x0_tapeSize, x0_refused, x0_lines, x0_line, x0_changes, x0_coins, x0_goods, x0_good, x0_works, x0_work, x0_years, x0_gone, x0_spent, x0_at, x0_token, x0_from, x0_figures, x0_fault, x0_numbers, x0_statements, x0_left, x0_far, x0_tons, x0_way, x0_steps, x0_met, x0_queue, x0_totals) p1 p2 = some out) : Ct l d yX7_way cX7_way 8 (some .int) { frames := 5, cells := 0, slots := 0, locals := 123 } [.ref (h0 0), .int p1, .int p2] [gMd d h0 a0_kept a0_tried a0_chosen r0_rows r0_line r0_good r0_work x0_shelf x0_rowSort x0_rowSize x0_moved x0_shown x0_tape x0_tapeSize x0_refused x0_lines x0_changes x0_coins x0_goods x0_works x0_years x0_gone x0_spent x0_at x0_token x0_from x0_figures x0_fault x0_numbers x0_statements x0_left x0_far x0_tons x0_way x0_steps x0_met x0_queue x0_totals, gridI d r0_line 20 7 x0_line, gridI d r0_good 8 3 x0_good] (fun _ : Unit => (some (.int out.1), [gMd d h0 a0_kept a0_tried a0_chosen r0_rows r0_line r0_good r0_work x0_shelf x0_rowSort x0_rowSize x0_moved x0_shown x0_tape x0_tapeSize (out.2.1) x0_lines x0_changes x0_coins x0_goods x0_works x0_years x0_gone x0_spent x0_at x0_token x0_from x0_figures x0_fault x0_numbers x0_statements (out.2.2.1) (out.2.2.2.1) (out.2.2.2.2.1) (out.2.2.2.2.2.1) (out.2.2.2.2.2.2.1) (out.2.2.2.2.2.2.2.1) (out.2.2.2.2.2.2.2.2) x0_totals, gridI d r0_line 20 7 x0_line, gridI d r0_good 8 3 x0_good])) := by
  refine Ct.of (by decide) (Nat.le_of_ble_eq_true rfl) ?_
  intro Φ hl hK hR
  subst hl
  have hK : Ok d Φ RX7 "way" cX7_way 8 (some .int) { frames := 5, cells := 0, slots := 0, locals := 123 } := hK
  unfold fX7_way at hf
  have hf := un35 hf
  show J d Φ 8 [gMd d h0 a0_kept a0_tried a0_chosen r0_rows r0_line r0_good r0_work x0_shelf x0_rowSort x0_rowSize x0_moved x0_shown x0_tape x0_tapeSize x0_refused x0_lines x0_changes x0_coins x0_goods x0_works x0_years x0_gone x0_spent x0_at x0_token x0_from x0_figures x0_fault x0_numbers x0_statements x0_left x0_far x0_tons x0_way x0_steps x0_met x0_queue x0_totals, gridI d r0_line 20 7 x0_line, gridI d r0_good 8 3 x0_good] 0 0 0 [(0, .ref (h0 0)), (1, .int p1), (2, .int p2)] []
  refine J_iload_n hK dX7_way_0 rfl 1 rfl rfl ?_
  refine J_i2l hK dX7_way_1 rfl ?_
  refine J_lconst (v := 0) hK dX7_way_2 rfl (by decide) ?_
  refine J_aload_n hK dX7_way_3 rfl 0 rfl rfl ?_
  refine J_get hK fo_RX7_125 dX7_way_4 rfl 0 0 rfl rfl rfl ?_
  refine J_iconst (v := 1) hK dX7_way_7 rfl (by decide) ?_
  refine J_isub hK dX7_way_8 rfl ?_
  refine J_i2l hK dX7_way_9 rfl ?_
  obtain ⟨v1, e2, hf⟩ := bs hf
  refine J_callS (m' := 3) (ce' := 0) (sl' := 0) (gr := [gMd d h0 a0_kept a0_tried a0_chosen r0_rows r0_line r0_good r0_work x0_shelf x0_rowSort x0_rowSize x0_moved x0_shown x0_tape x0_tapeSize x0_refused x0_lines x0_changes x0_coins x0_goods x0_works x0_years x0_gone x0_spent x0_at x0_token x0_from x0_figures x0_fault x0_numbers x0_statements x0_left x0_far x0_tons x0_way x0_steps x0_met x0_queue x0_totals, gridI d r0_line 20 7 x0_line, gridI d r0_good 8 3 x0_good]) (gs' := fun _ => [gMd d h0 a0_kept a0_tried a0_chosen r0_rows r0_line r0_good r0_work x0_shelf x0_rowSort x0_rowSize x0_moved x0_shown x0_tape x0_tapeSize x0_refused x0_lines x0_changes x0_coins x0_goods x0_works x0_years x0_gone x0_spent x0_at x0_token x0_from x0_figures x0_fault x0_numbers x0_statements x0_left x0_far x0_tons x0_way x0_steps x0_met x0_queue x0_totals, gridI d r0_line 20 7 x0_line, gridI d r0_good 8 3 x0_good]) (st' := fun _ => [.int v1]) (st := []) hK dX7_way_10 cv_RX7_78 ws_yX7_in (As := [.long ((p1).toInt64), .long (0 : Int64), .long (((x0_goods - 1)).toInt64)]) (kX7_in _ d ((p1).toInt64) (0 : Int64) (((x0_goods - 1)).toInt64) e2) rfl rfl (Nat.le_of_ble_eq_true rfl) (by decide) [] [0, 1, 2] rfl rfl rfl rfl [0, 1, 2] rfl (fun _ => rfl) (fun _ => rfl) rfl rfl rfl (fun _ => rfl) (fun _ => ?_)
  refine J_if_eq (tg := 31) hK dX7_way_13 rfl rfl (fun hc13 => ?_) (fun hc13 => ?_)
  · have hf := ip hc13 hf
    refine J_aload_n hK dX7_way_31 rfl 0 rfl rfl ?_
    refine J_bipush (v := (-2)) hK dX7_way_32 rfl (by decide) ?_
    obtain ⟨⟨v3, g4⟩, e5, hf⟩ := bs hf
    have hf := un2 hf
    refine J_callV (m' := 3) (ce' := 0) (sl' := 0) (gr := [gridI d r0_line 20 7 x0_line, gridI d r0_good 8 3 x0_good]) (gs' := fun _ => [gMd d h0 a0_kept a0_tried a0_chosen r0_rows r0_line r0_good r0_work x0_shelf x0_rowSort x0_rowSize x0_moved x0_shown x0_tape x0_tapeSize g4 x0_lines x0_changes x0_coins x0_goods x0_works x0_years x0_gone x0_spent x0_at x0_token x0_from x0_figures x0_fault x0_numbers x0_statements x0_left x0_far x0_tons x0_way x0_steps x0_met x0_queue x0_totals, gridI d r0_line 20 7 x0_line, gridI d r0_good 8 3 x0_good]) (st' := fun _ => [.int v3]) (st := []) hK dX7_way_34 cv_RX7_94 iv_yX7_refuse (As := [.int (-2)]) (kX7_refuse _ d h0 r0_rows r0_line r0_good r0_work a0_kept a0_tried a0_chosen x0_shelf x0_rowSort x0_rowSize x0_rows x0_moved x0_shown x0_tape x0_tapeSize x0_refused x0_lines x0_line x0_changes x0_coins x0_goods x0_good x0_works x0_work x0_years x0_gone x0_spent x0_at x0_token x0_from x0_figures x0_fault x0_numbers x0_statements x0_left x0_far x0_tons x0_way x0_steps x0_met x0_queue x0_totals (-2) e5) rfl rfl (Nat.le_of_ble_eq_true rfl) (by decide) 0 0 rfl rfl rfl [0] [1, 2] rfl rfl rfl rfl [2, 0, 1] rfl (fun _ => rfl) (fun _ => rfl) rfl rfl rfl (fun _ => rfl) (fun _ => ?_)
    obtain rfl := Option.some.inj hf
    exact J_iret hK hR dX7_way_37 () rfl (by decide) (by decide)
  · have hf := iq hc13 hf
    refine J_iload_n hK dX7_way_16 rfl 2 rfl rfl ?_
    refine J_if_lt (tg := 31) hK dX7_way_17 rfl rfl (fun hc17 => ?_) (fun hc17 => ?_)
    · have hf := ip hc17 hf
      refine J_aload_n hK dX7_way_31 rfl 0 rfl rfl ?_
      refine J_bipush (v := (-2)) hK dX7_way_32 rfl (by decide) ?_
      obtain ⟨⟨v6, g7⟩, e8, hf⟩ := bs hf
      have hf := un2 hf
      refine J_callV (m' := 3) (ce' := 0) (sl' := 0) (gr := [gridI d r0_line 20 7 x0_line, gridI d r0_good 8 3 x0_good]) (gs' := fun _ => [gMd d h0 a0_kept a0_tried a0_chosen r0_rows r0_line r0_good r0_work x0_shelf x0_rowSort x0_rowSize x0_moved x0_shown x0_tape x0_tapeSize g7 x0_lines x0_changes x0_coins x0_goods x0_works x0_years x0_gone x0_spent x0_at x0_token x0_from x0_figures x0_fault x0_numbers x0_statements x0_left x0_far x0_tons x0_way x0_steps x0_met x0_queue x0_totals, gridI d r0_line 20 7 x0_line, gridI d r0_good 8 3 x0_good]) (st' := fun _ => [.int v6]) (st := []) hK dX7_way_34 cv_RX7_94 iv_yX7_refuse (As := [.int (-2)]) (kX7_refuse _ d h0 r0_rows r0_line r0_good r0_work a0_kept a0_tried a0_chosen x0_shelf x0_rowSort x0_rowSize x0_rows x0_moved x0_shown x0_tape x0_tapeSize x0_refused x0_lines x0_line x0_changes x0_coins x0_goods x0_good x0_works x0_work x0_years x0_gone x0_spent x0_at x0_token x0_from x0_figures x0_fault x0_numbers x0_statements x0_left x0_far x0_tons x0_way x0_steps x0_met x0_queue x0_totals (-2) e8) rfl rfl (Nat.le_of_ble_eq_true rfl) (by decide) 0 0 rfl rfl rfl [0] [1, 2] rfl rfl rfl rfl [2, 0, 1] rfl (fun _ => rfl) (fun _ => rfl) rfl rfl rfl (fun _ => rfl) (fun _ => ?_)
      obtain rfl := Option.some.inj hf
      exact J_iret hK hR dX7_way_37 () rfl (by decide) (by decide)
    · have hf := iq hc17 hf
      refine J_iload_n hK dX7_way_20 rfl 2 rfl rfl ?_
      refine J_iconst (v := 3) hK dX7_way_21 rfl (by decide) ?_
      have j38 : fX7_way_j38 n p1 p2 x0_shelf x0_rowSort x0_rowSize x0_rows x0_moved x0_shown x0_tape x0_tapeSize x0_refused x0_lines x0_line x0_changes x0_coins x0_goods x0_good x0_works x0_work x0_years x0_gone x0_spent x0_at x0_token x0_from x0_figures x0_fault x0_numbers x0_statements x0_left x0_far x0_tons x0_way x0_steps x0_met x0_queue x0_totals = some out → J d Φ 8 [gMd d h0 a0_kept a0_tried a0_chosen r0_rows r0_line r0_good r0_work x0_shelf x0_rowSort x0_rowSize x0_moved x0_shown x0_tape x0_tapeSize x0_refused x0_lines x0_changes x0_coins x0_goods x0_works x0_years x0_gone x0_spent x0_at x0_token x0_from x0_figures x0_fault x0_numbers x0_statements x0_left x0_far x0_tons x0_way x0_steps x0_met x0_queue x0_totals, gridI d r0_line 20 7 x0_line, gridI d r0_good 8 3 x0_good] 0 0 38 [(0, .ref (h0 0)), (1, .int p1), (2, .int p2)] [] := by
        intro  hf
        unfold fX7_way_j38 at hf
        refine J_aload_n hK dX7_way_38 rfl 0 rfl rfl ?_
        refine J_iload_n hK dX7_way_39 rfl 1 rfl rfl ?_
        obtain ⟨⟨v9, ⟨g11, g12, g13, g14, g15, g16, g17⟩⟩, e18, hf⟩ := bs hf
        have hf := un2 hf
        have hf := un7 hf
        refine J_callV (m' := 3) (ce' := 0) (sl' := 0) (gr := []) (gs' := fun _ => [gMd d h0 a0_kept a0_tried a0_chosen r0_rows r0_line r0_good r0_work x0_shelf x0_rowSort x0_rowSize x0_moved x0_shown x0_tape x0_tapeSize x0_refused x0_lines x0_changes x0_coins x0_goods x0_works x0_years x0_gone x0_spent x0_at x0_token x0_from x0_figures x0_fault x0_numbers x0_statements g11 g12 g13 g14 g15 g16 g17 x0_totals, gridI d r0_line 20 7 x0_line, gridI d r0_good 8 3 x0_good]) (st' := fun _ => [.int v9]) (st := []) hK dX7_way_40 cv_RX7_282 iv_yX7_findGoods (As := [.int p1]) (kX7_findGoods _ d h0 r0_rows r0_line r0_good r0_work a0_kept a0_tried a0_chosen n x0_shelf x0_rowSort x0_rowSize x0_rows x0_moved x0_shown x0_tape x0_tapeSize x0_refused x0_lines x0_line x0_changes x0_coins x0_goods x0_good x0_works x0_work x0_years x0_gone x0_spent x0_at x0_token x0_from x0_figures x0_fault x0_numbers x0_statements x0_left x0_far x0_tons x0_way x0_steps x0_met x0_queue x0_totals p1 e18) rfl rfl (Nat.le_of_ble_eq_true rfl) (by decide) 0 0 rfl rfl rfl [0, 1, 2] [] rfl rfl rfl rfl [0, 1, 2] rfl (fun _ => rfl) (fun _ => rfl) rfl rfl rfl (fun _ => rfl) (fun _ => ?_)
        refine J_istore_n (L' := [(3, .int v9), (0, .ref (h0 0)), (1, .int p1), (2, .int p2)]) hK dX7_way_43 rfl rfl (by decide) rfl ?_
        refine J_iconst (v := 0) hK dX7_way_44 rfl (by decide) ?_
        refine J_istore (L' := [(4, .int (0)), (3, .int v9), (0, .ref (h0 0)), (1, .int p1), (2, .int p2)]) hK dX7_way_45 rfl (by decide) rfl ?_
        refine J_iconst (v := (-1)) hK dX7_way_47 rfl (by decide) ?_
        refine J_istore (L' := [(5, .int (-1)), (4, .int (0)), (3, .int v9), (0, .ref (h0 0)), (1, .int p1), (2, .int p2)]) hK dX7_way_48 rfl (by decide) rfl ?_
        refine J_aload_n hK dX7_way_50 rfl 3 rfl rfl ?_
        refine J_get hK fo_RX7_67 dX7_way_51 rfl 0 0 rfl rfl rfl ?_
        refine J_iconst (v := 0) hK dX7_way_54 rfl (by decide) ?_
        obtain ⟨v19, ev19, hf⟩ := bs hf
        refine J_iald hK dX7_way_55 rfl 0 17 rfl rfl ev19 ?_
        refine J_istore (L' := [(6, .int v19), (5, .int (-1)), (4, .int (0)), (3, .int v9), (0, .ref (h0 0)), (1, .int p1), (2, .int p2)]) hK dX7_way_56 rfl (by decide) rfl ?_
        refine J_iconst (v := 1) hK dX7_way_58 rfl (by decide) ?_
        refine J_istore (L' := [(7, .int (1)), (6, .int v19), (5, .int (-1)), (4, .int (0)), (3, .int v9), (0, .ref (h0 0)), (1, .int p1), (2, .int p2)]) hK dX7_way_59 rfl (by decide) rfl ?_
        obtain ⟨e25, hl20, hf⟩ := bs hf
        have hx20_127 : ∀ (w26 : Int32) (w27 : Int32) (w28 : Int32), (w26, w27, w28) = e25 → J d Φ 8 [gMd d h0 a0_kept a0_tried a0_chosen r0_rows r0_line r0_good r0_work x0_shelf x0_rowSort x0_rowSize x0_moved x0_shown x0_tape x0_tapeSize x0_refused x0_lines x0_changes x0_coins x0_goods x0_works x0_years x0_gone x0_spent x0_at x0_token x0_from x0_figures x0_fault x0_numbers x0_statements g11 g12 g13 g14 g15 g16 g17 x0_totals, gridI d r0_line 20 7 x0_line, gridI d r0_good 8 3 x0_good] 0 0 127 [(0, .ref (h0 0)), (2, .int p2), (3, .int v9), (4, .int w26), (5, .int w27), (6, .int w28)] [] := by
          intro w26 w27 w28 he
          rw [← he] at hf
          have hf := un3 hf
          refine J_iload_n hK dX7_way_127 rfl 2 rfl rfl ?_
          have j150 : fX7_way_j150 p2 x0_shelf x0_rowSort x0_rowSize x0_rows x0_moved x0_shown x0_tape x0_tapeSize x0_refused x0_lines x0_line x0_changes x0_coins x0_goods x0_good x0_works x0_work x0_years x0_gone x0_spent x0_at x0_token x0_from x0_figures x0_fault x0_numbers x0_statements x0_totals v9 g11 g12 g13 g14 g15 g16 g17 w26 w27 w28 = some out → J d Φ 8 [gMd d h0 a0_kept a0_tried a0_chosen r0_rows r0_line r0_good r0_work x0_shelf x0_rowSort x0_rowSize x0_moved x0_shown x0_tape x0_tapeSize x0_refused x0_lines x0_changes x0_coins x0_goods x0_works x0_years x0_gone x0_spent x0_at x0_token x0_from x0_figures x0_fault x0_numbers x0_statements g11 g12 g13 g14 g15 g16 g17 x0_totals, gridI d r0_line 20 7 x0_line, gridI d r0_good 8 3 x0_good] 0 0 150 [(0, .ref (h0 0)), (2, .int p2), (3, .int v9), (4, .int w26), (5, .int w27), (6, .int w28)] [] := by
            intro  hf
            unfold fX7_way_j150 at hf
            refine J_iload_n hK dX7_way_150 rfl 2 rfl rfl ?_
            refine J_if_ne (tg := 161) hK dX7_way_151 rfl rfl (fun hc151 => ?_) (fun hc151 => ?_)
            · have hf := iq hc151 hf
              refine J_iload_n hK dX7_way_161 rfl 1 rfl rfl ?_
              by_cases hc162_0 : p2 = 0
              · have hf := ip hc162_0 hf
                refine J_swI (tg := 192) hK dX7_way_162 (by rw [hc162_0]; decide) (by rw [hc162_0]; decide) (by rw [hc162_0]; rfl) rfl ?_
                refine J_iload hK dX7_way_192 rfl 3 rfl ?_
                obtain rfl := Option.some.inj hf
                exact J_iret hK hR dX7_way_194 () rfl (by decide) (by decide)
              have hf := iq hc162_0 hf
              by_cases hc162_1 : p2 = 1
              · have hf := ip hc162_1 hf
                refine J_swI (tg := 195) hK dX7_way_162 (by rw [hc162_1]; decide) (by rw [hc162_1]; decide) (by rw [hc162_1]; rfl) rfl ?_
                refine J_aload_n hK dX7_way_195 rfl 0 rfl rfl ?_
                refine J_get hK fo_RX7_267 dX7_way_196 rfl 0 0 rfl rfl rfl ?_
                refine J_iconst (v := 1) hK dX7_way_199 rfl (by decide) ?_
                refine J_isub hK dX7_way_200 rfl ?_
                refine J_iload hK dX7_way_201 rfl 3 rfl ?_
                refine J_isub hK dX7_way_203 rfl ?_
                obtain rfl := Option.some.inj hf
                exact J_iret hK hR dX7_way_204 () rfl (by decide) (by decide)
              have hf := iq hc162_1 hf
              by_cases hc162_2 : p2 = 2
              · have hf := ip hc162_2 hf
                refine J_swI (tg := 205) hK dX7_way_162 (by rw [hc162_2]; decide) (by rw [hc162_2]; decide) (by rw [hc162_2]; rfl) rfl ?_
                refine J_aload_n hK dX7_way_205 rfl 0 rfl rfl ?_
                refine J_get hK fo_RX7_67 dX7_way_206 rfl 0 0 rfl rfl rfl ?_
                refine J_iconst (v := 0) hK dX7_way_209 rfl (by decide) ?_
                obtain ⟨v29, ev29, hf⟩ := bs hf
                refine J_iald hK dX7_way_210 rfl 0 17 rfl rfl ev29 ?_
                obtain rfl := Option.some.inj hf
                exact J_iret hK hR dX7_way_211 () rfl (by decide) (by decide)
              have hf := iq hc162_2 hf
              by_cases hc162_3 : p2 = 3
              · have hf := ip hc162_3 hf
                refine J_swI (tg := 212) hK dX7_way_162 (by rw [hc162_3]; decide) (by rw [hc162_3]; decide) (by rw [hc162_3]; rfl) rfl ?_
                refine J_iload hK dX7_way_212 rfl 5 rfl ?_
                obtain rfl := Option.some.inj hf
                exact J_iret hK hR dX7_way_214 () rfl (by decide) (by decide)
              have hf := iq hc162_3 hf
              refine J_swO (tg := 215) hK dX7_way_162 (by have q0 : ¬ p2.toInt = 0 := fun h => hc162_0 (Int32.toInt_inj.mp (h.trans (by decide))); have q1 : ¬ p2.toInt = 1 := fun h => hc162_1 (Int32.toInt_inj.mp (h.trans (by decide))); have q2 : ¬ p2.toInt = 2 := fun h => hc162_2 (Int32.toInt_inj.mp (h.trans (by decide))); have q3 : ¬ p2.toInt = 3 := fun h => hc162_3 (Int32.toInt_inj.mp (h.trans (by decide))); omega) rfl ?_
              refine J_iload hK dX7_way_215 rfl 4 rfl ?_
              obtain rfl := Option.some.inj hf
              exact J_iret hK hR dX7_way_217 () rfl (by decide) (by decide)
            · have hf := ip hc151 hf
              refine J_aload_n hK dX7_way_154 rfl 0 rfl rfl ?_
              refine J_bipush (v := (-5)) hK dX7_way_155 rfl (by decide) ?_
              obtain ⟨⟨v30, g31⟩, e32, hf⟩ := bs hf
              have hf := un2 hf
              refine J_callV (m' := 3) (ce' := 0) (sl' := 0) (gr := [gridI d r0_line 20 7 x0_line, gridI d r0_good 8 3 x0_good]) (gs' := fun _ => [gMd d h0 a0_kept a0_tried a0_chosen r0_rows r0_line r0_good r0_work x0_shelf x0_rowSort x0_rowSize x0_moved x0_shown x0_tape x0_tapeSize g31 x0_lines x0_changes x0_coins x0_goods x0_works x0_years x0_gone x0_spent x0_at x0_token x0_from x0_figures x0_fault x0_numbers x0_statements g11 g12 g13 g14 g15 g16 g17 x0_totals, gridI d r0_line 20 7 x0_line, gridI d r0_good 8 3 x0_good]) (st' := fun _ => [.int v30]) (st := []) hK dX7_way_157 cv_RX7_94 iv_yX7_refuse (As := [.int (-5)]) (kX7_refuse _ d h0 r0_rows r0_line r0_good r0_work a0_kept a0_tried a0_chosen x0_shelf x0_rowSort x0_rowSize x0_rows x0_moved x0_shown x0_tape x0_tapeSize x0_refused x0_lines x0_line x0_changes x0_coins x0_goods x0_good x0_works x0_work x0_years x0_gone x0_spent x0_at x0_token x0_from x0_figures x0_fault x0_numbers x0_statements g11 g12 g13 g14 g15 g16 g17 x0_totals (-5) e32) rfl rfl (Nat.le_of_ble_eq_true rfl) (by decide) 0 0 rfl rfl rfl [0] [1, 2] rfl rfl rfl rfl [2, 0, 1] rfl (fun _ => rfl) (fun _ => rfl) rfl rfl rfl (fun _ => rfl) (fun _ => ?_)
              obtain rfl := Option.some.inj hf
              exact J_iret hK hR dX7_way_160 () rfl (by decide) (by decide)
          refine J_if_eq (tg := 150) hK dX7_way_128 rfl rfl (fun hc128 => ?_) (fun hc128 => ?_)
          · have hf := ip hc128 hf
            exact (j150  hf)
          · have hf := iq hc128 hf
            refine J_iload_n hK dX7_way_131 rfl 1 rfl rfl ?_
            refine J_bipush (v := 10) hK dX7_way_132 rfl (by decide) ?_
            refine J_icmp_lt (tg := 150) hK dX7_way_134 rfl rfl (fun hc134 => ?_) (fun hc134 => ?_)
            · have hf := ip hc134 hf
              exact (j150  hf)
            · have hf := iq hc134 hf
              refine J_iload hK dX7_way_137 rfl 4 rfl ?_
              refine J_iconst (v := (-1)) hK dX7_way_139 rfl (by decide) ?_
              refine J_icmp_ne (tg := 150) hK dX7_way_140 rfl rfl (fun hc140 => ?_) (fun hc140 => ?_)
              · have hf := iq hc140 hf
                exact (j150  hf)
              · have hf := ip hc140 hf
                refine J_aload_n hK dX7_way_143 rfl 0 rfl rfl ?_
                refine J_bipush (v := (-2)) hK dX7_way_144 rfl (by decide) ?_
                obtain ⟨⟨v33, g34⟩, e35, hf⟩ := bs hf
                have hf := un2 hf
                refine J_callV (m' := 3) (ce' := 0) (sl' := 0) (gr := [gridI d r0_line 20 7 x0_line, gridI d r0_good 8 3 x0_good]) (gs' := fun _ => [gMd d h0 a0_kept a0_tried a0_chosen r0_rows r0_line r0_good r0_work x0_shelf x0_rowSort x0_rowSize x0_moved x0_shown x0_tape x0_tapeSize g34 x0_lines x0_changes x0_coins x0_goods x0_works x0_years x0_gone x0_spent x0_at x0_token x0_from x0_figures x0_fault x0_numbers x0_statements g11 g12 g13 g14 g15 g16 g17 x0_totals, gridI d r0_line 20 7 x0_line, gridI d r0_good 8 3 x0_good]) (st' := fun _ => [.int v33]) (st := []) hK dX7_way_146 cv_RX7_94 iv_yX7_refuse (As := [.int (-2)]) (kX7_refuse _ d h0 r0_rows r0_line r0_good r0_work a0_kept a0_tried a0_chosen x0_shelf x0_rowSort x0_rowSize x0_rows x0_moved x0_shown x0_tape x0_tapeSize x0_refused x0_lines x0_line x0_changes x0_coins x0_goods x0_good x0_works x0_work x0_years x0_gone x0_spent x0_at x0_token x0_from x0_figures x0_fault x0_numbers x0_statements g11 g12 g13 g14 g15 g16 g17 x0_totals (-2) e35) rfl rfl (Nat.le_of_ble_eq_true rfl) (by decide) 0 0 rfl rfl rfl [0] [1, 2] rfl rfl rfl rfl [2, 0, 1] rfl (fun _ => rfl) (fun _ => rfl) rfl rfl rfl (fun _ => rfl) (fun _ => ?_)
                obtain rfl := Option.some.inj hf
                exact J_iret hK hR dX7_way_149 () rfl (by decide) (by decide)
        have lo20 : ∀ (k : Nat) (z21 : Int32) (z22 : Int32) (z23 : Int32) (z24 : Int32), lp (u4 (fX7_way_s61 p2 g14 g15)) k (z21, z22, z23, z24) = some e25 → J d Φ 8 [gMd d h0 a0_kept a0_tried a0_chosen r0_rows r0_line r0_good r0_work x0_shelf x0_rowSort x0_rowSize x0_moved x0_shown x0_tape x0_tapeSize x0_refused x0_lines x0_changes x0_coins x0_goods x0_works x0_years x0_gone x0_spent x0_at x0_token x0_from x0_figures x0_fault x0_numbers x0_statements g11 g12 g13 g14 g15 g16 g17 x0_totals, gridI d r0_line 20 7 x0_line, gridI d r0_good 8 3 x0_good] 0 0 61 [(0, .ref (h0 0)), (2, .int p2), (3, .int v9), (4, .int z21), (5, .int z22), (6, .int z23), (7, .int z24)] [] := by
          intro k
          induction k with
          | zero => intro z21 z22 z23 z24 h; cases h
          | succ k ih20 =>
            intro z21 z22 z23 z24 h
            obtain ⟨k2, rr20, hk2, hs20, hr20⟩ := lp_ok h
            cases hk2
            have hs20 : fX7_way_s61 p2 g14 g15 z21 z22 z23 z24 = some rr20 := hs20
            unfold fX7_way_s61 at hs20
            refine J_iload hK dX7_way_61 rfl 6 rfl ?_
            refine J_aload_n hK dX7_way_63 rfl 0 rfl rfl ?_
            refine J_get hK fo_RX7_267 dX7_way_64 rfl 0 0 rfl rfl rfl ?_
            refine J_icmp_ge (tg := 127) hK dX7_way_67 rfl rfl (fun hc67 => ?_) (fun hc67 => ?_)
            · have hs20 := ip hc67 hs20
              exact J_loc [0, 1, 2, 3, 4, 5] rfl (hx20_127 z21 z22 z23 (lpx hs20 hr20))
            · have hs20 := iq hc67 hs20
              refine J_aload_n hK dX7_way_70 rfl 0 rfl rfl ?_
              refine J_get hK fo_RX7_67 dX7_way_71 rfl 0 0 rfl rfl rfl ?_
              refine J_iload hK dX7_way_74 rfl 6 rfl ?_
              obtain ⟨v36, ev36, hs20⟩ := bs hs20
              refine J_iald hK dX7_way_76 rfl 0 17 rfl rfl ev36 ?_
              refine J_iconst (v := 3) hK dX7_way_77 rfl (by decide) ?_
              refine J_icmp_lt (tg := 112) hK dX7_way_78 rfl rfl (fun hc78 => ?_) (fun hc78 => ?_)
              · have hs20 := ip hc78 hs20
                refine J_aload_n hK dX7_way_112 rfl 0 rfl rfl ?_
                refine J_get hK fo_RX7_67 dX7_way_113 rfl 0 0 rfl rfl rfl ?_
                refine J_iload hK dX7_way_116 rfl 6 rfl ?_
                obtain ⟨v37, ev37, hs20⟩ := bs hs20
                refine J_iald hK dX7_way_118 rfl 0 17 rfl rfl ev37 ?_
                refine J_istore (L' := [(6, .int v37), (0, .ref (h0 0)), (2, .int p2), (3, .int v9), (4, .int z21), (5, .int z22), (7, .int z24)]) hK dX7_way_119 rfl (by decide) rfl ?_
                refine J_iinc (L' := [(7, .int (z24 + 1)), (6, .int v37), (0, .ref (h0 0)), (2, .int p2), (3, .int v9), (4, .int z21), (5, .int z22)]) (v := (z24 + 1)) hK dX7_way_121 rfl 6 rfl rfl (by decide) rfl ?_
                refine J_goto hK dX7_way_124 (n := 61) rfl ?_
                exact J_loc [2, 3, 4, 5, 6, 1, 0] rfl (ih20 z21 z22 v37 (z24 + 1) (lpc hs20 hr20))
              · have hs20 := iq hc78 hs20
                refine J_iload hK dX7_way_81 rfl 3 rfl ?_
                refine J_iload_n hK dX7_way_83 rfl 1 rfl rfl ?_
                refine J_bipush (v := 10) hK dX7_way_84 rfl (by decide) ?_
                refine J_isub hK dX7_way_86 rfl ?_
                refine J_icmp_ne (tg := 102) hK dX7_way_87 rfl rfl (fun hc87 => ?_) (fun hc87 => ?_)
                · have hs20 := iq hc87 hs20
                  refine J_iload hK dX7_way_102 rfl 4 rfl ?_
                  refine J_istore (L' := [(5, .int z22), (0, .ref (h0 0)), (2, .int p2), (3, .int v9), (4, .int z21), (6, .int z23), (7, .int z24)]) hK dX7_way_104 rfl (by decide) rfl ?_
                  refine J_iinc (L' := [(4, .int (z21 + 1)), (5, .int z22), (0, .ref (h0 0)), (2, .int p2), (3, .int v9), (6, .int z23), (7, .int z24)]) (v := (z21 + 1)) hK dX7_way_106 rfl 4 rfl rfl (by decide) rfl ?_
                  refine J_goto hK dX7_way_109 (n := 121) rfl ?_
                  refine J_iinc (L' := [(7, .int (z24 + 1)), (4, .int (z21 + 1)), (5, .int z22), (0, .ref (h0 0)), (2, .int p2), (3, .int v9), (6, .int z23)]) (v := (z24 + 1)) hK dX7_way_121 rfl 6 rfl rfl (by decide) rfl ?_
                  refine J_goto hK dX7_way_124 (n := 61) rfl ?_
                  exact J_loc [3, 4, 5, 1, 2, 6, 0] rfl (ih20 (z21 + 1) z22 z23 (z24 + 1) (lpc hs20 hr20))
                · have hs20 := ip hc87 hs20
                  refine J_aload_n hK dX7_way_90 rfl 0 rfl rfl ?_
                  refine J_get hK fo_RX7_67 dX7_way_91 rfl 0 0 rfl rfl rfl ?_
                  refine J_iload hK dX7_way_94 rfl 6 rfl ?_
                  obtain ⟨v38, ev38, hs20⟩ := bs hs20
                  refine J_iald hK dX7_way_96 rfl 0 17 rfl rfl ev38 ?_
                  refine J_iconst (v := 3) hK dX7_way_97 rfl (by decide) ?_
                  refine J_isub hK dX7_way_98 rfl ?_
                  refine J_goto hK dX7_way_99 (n := 104) rfl ?_
                  refine J_istore (L' := [(5, .int (v38 - 3)), (0, .ref (h0 0)), (2, .int p2), (3, .int v9), (4, .int z21), (6, .int z23), (7, .int z24)]) hK dX7_way_104 rfl (by decide) rfl ?_
                  refine J_iinc (L' := [(4, .int (z21 + 1)), (5, .int (v38 - 3)), (0, .ref (h0 0)), (2, .int p2), (3, .int v9), (6, .int z23), (7, .int z24)]) (v := (z21 + 1)) hK dX7_way_106 rfl 4 rfl rfl (by decide) rfl ?_
                  refine J_goto hK dX7_way_109 (n := 121) rfl ?_
                  refine J_iinc (L' := [(7, .int (z24 + 1)), (4, .int (z21 + 1)), (5, .int (v38 - 3)), (0, .ref (h0 0)), (2, .int p2), (3, .int v9), (6, .int z23)]) (v := (z24 + 1)) hK dX7_way_121 rfl 6 rfl rfl (by decide) rfl ?_
                  refine J_goto hK dX7_way_124 (n := 61) rfl ?_
                  exact J_loc [3, 4, 5, 1, 2, 6, 0] rfl (ih20 (z21 + 1) (v38 - 3) z23 (z24 + 1) (lpc hs20 hr20))
        exact J_loc [5, 7, 4, 3, 2, 1, 0] rfl (lo20 n (0) (-1) v19 (1) hl20)
      refine J_icmp_le (tg := 38) hK dX7_way_22 rfl rfl (fun hc22 => ?_) (fun hc22 => ?_)
      · have hf := ip hc22 hf
        exact (j38  hf)
      · have hf := iq hc22 hf
        refine J_iload_n hK dX7_way_25 rfl 2 rfl rfl ?_
        refine J_bipush (v := 10) hK dX7_way_26 rfl (by decide) ?_
        refine J_icmp_ge (tg := 38) hK dX7_way_28 rfl rfl (fun hc28 => ?_) (fun hc28 => ?_)
        · have hf := ip hc28 hf
          exact (j38  hf)
        · have hf := iq hc28 hf
          refine J_aload_n hK dX7_way_31 rfl 0 rfl rfl ?_
          refine J_bipush (v := (-2)) hK dX7_way_32 rfl (by decide) ?_
          obtain ⟨⟨v39, g40⟩, e41, hf⟩ := bs hf
          have hf := un2 hf
          refine J_callV (m' := 3) (ce' := 0) (sl' := 0) (gr := [gridI d r0_line 20 7 x0_line, gridI d r0_good 8 3 x0_good]) (gs' := fun _ => [gMd d h0 a0_kept a0_tried a0_chosen r0_rows r0_line r0_good r0_work x0_shelf x0_rowSort x0_rowSize x0_moved x0_shown x0_tape x0_tapeSize g40 x0_lines x0_changes x0_coins x0_goods x0_works x0_years x0_gone x0_spent x0_at x0_token x0_from x0_figures x0_fault x0_numbers x0_statements x0_left x0_far x0_tons x0_way x0_steps x0_met x0_queue x0_totals, gridI d r0_line 20 7 x0_line, gridI d r0_good 8 3 x0_good]) (st' := fun _ => [.int v39]) (st := []) hK dX7_way_34 cv_RX7_94 iv_yX7_refuse (As := [.int (-2)]) (kX7_refuse _ d h0 r0_rows r0_line r0_good r0_work a0_kept a0_tried a0_chosen x0_shelf x0_rowSort x0_rowSize x0_rows x0_moved x0_shown x0_tape x0_tapeSize x0_refused x0_lines x0_line x0_changes x0_coins x0_goods x0_good x0_works x0_work x0_years x0_gone x0_spent x0_at x0_token x0_from x0_figures x0_fault x0_numbers x0_statements x0_left x0_far x0_tons x0_way x0_steps x0_met x0_queue x0_totals (-2) e41) rfl rfl (Nat.le_of_ble_eq_true rfl) (by decide) 0 0 rfl rfl rfl [0] [1, 2] rfl rfl rfl rfl [2, 0, 1] rfl (fun _ => rfl) (fun _ => rfl) rfl rfl rfl (fun _ => rfl) (fun _ => ?_)
          obtain rfl := Option.some.inj hf
          exact J_iret hK hR dX7_way_37 () rfl (by decide) (by decide)

def fX7_free_s8 (n : Nat) (x0_shelf : (Nat → Int32)) (x0_rowSort : (Nat → Int32)) (x0_rowSize : (Nat → Int32)) (x0_rows : (Nat → Nat → Int64)) (x0_moved : (Nat → Int64)) (x0_shown : (Nat → Int32)) (x0_tape : (Nat → Int32)) (x0_tapeSize : Int32) (x0_refused : (Nat → Int32)) (x0_lines : Int32) (x0_line : (Nat → Nat → Int32)) (x0_changes : (Nat → Int32)) (x0_coins : (Nat → Int32)) (x0_goods : Int32) (x0_good : (Nat → Nat → Int32)) (x0_works : Int32) (x0_work : (Nat → Nat → Int32)) (x0_years : Int32) (x0_gone : Int32) (x0_spent : Int32) (x0_at : Int32) (x0_token : Int32) (x0_from : Int32) (x0_figures : Int64) (x0_fault : Int32) (x0_numbers : (Nat → Int32)) (x0_statements : Int32) (x0_way : (Nat → Int32)) (x0_steps : Int32) (x0_met : Int64) (x0_queue : (Nat → Int32)) (x0_totals : (Nat → Int32)) (g1 : (Nat → Int32)) (z4 : Int32) (z5 : Int32) (z6 : (Nat → Int32)) (z7 : Int32) : Option ((Int32 × Int32 × (Nat → Int32) × Int32) ⊕ (Int32 × (Nat → Int32) × Int32)) :=
  if x0_goods ≤ z5 then (some (.inr (z4, z6, z7))) else ((ck z5 8).bind fun q12 => (rd 3 (x0_good q12) (1)).bind fun v13 => (fX7_findFar n (x0_shelf, x0_rowSort, x0_rowSize, x0_rows, x0_moved, x0_shown, x0_tape, x0_tapeSize, x0_refused, x0_lines, x0_line, x0_changes, x0_coins, x0_goods, x0_good, x0_works, x0_work, x0_years, x0_gone, x0_spent, x0_at, x0_token, x0_from, x0_figures, x0_fault, x0_numbers, x0_statements, g1, z6, z7, x0_way, x0_steps, x0_met, x0_queue, x0_totals) v13 (0)).bind (u2 fun g14 g15 => (ck z5 8).bind fun q17 => (rd 3 (x0_good q17) (0)).bind fun v18 => (fX7_least n (x0_shelf, x0_rowSort, x0_rowSize, x0_rows, x0_moved, x0_shown, x0_tape, x0_tapeSize, x0_refused, x0_lines, x0_line, x0_changes, x0_coins, x0_goods, x0_good, x0_works, x0_work, x0_years, x0_gone, x0_spent, x0_at, x0_token, x0_from, x0_figures, x0_fault, x0_numbers, x0_statements, g1, g14, g15, x0_way, x0_steps, x0_met, x0_queue, x0_totals) v18).bind (fun v19 => (ck z5 8).bind fun q21 => (rd 3 (x0_good q21) (2)).bind fun v22 => if v19 < 1000000000 then (some (.inl ((z4 + (v22 * v19)), (z5 + 1), g14, g15))) else (some (.inl ((z4 + (v22 * 999)), (z5 + 1), g14, g15))))))
def fX7_free (n : Nat) (X0 : MdT) : Option (Int32 × (Nat → Int32) × (Nat → Int32) × Int32) :=
  u35 (fun (x0_shelf : (Nat → Int32)) (x0_rowSort : (Nat → Int32)) (x0_rowSize : (Nat → Int32)) (x0_rows : (Nat → Nat → Int64)) (x0_moved : (Nat → Int64)) (x0_shown : (Nat → Int32)) (x0_tape : (Nat → Int32)) (x0_tapeSize : Int32) (x0_refused : (Nat → Int32)) (x0_lines : Int32) (x0_line : (Nat → Nat → Int32)) (x0_changes : (Nat → Int32)) (x0_coins : (Nat → Int32)) (x0_goods : Int32) (x0_good : (Nat → Nat → Int32)) (x0_works : Int32) (x0_work : (Nat → Nat → Int32)) (x0_years : Int32) (x0_gone : Int32) (x0_spent : Int32) (x0_at : Int32) (x0_token : Int32) (x0_from : Int32) (x0_figures : Int64) (x0_fault : Int32) (x0_numbers : (Nat → Int32)) (x0_statements : Int32) (x0_left : (Nat → Int32)) (x0_far : (Nat → Int32)) (x0_tons : Int32) (x0_way : (Nat → Int32)) (x0_steps : Int32) (x0_met : Int64) (x0_queue : (Nat → Int32)) (x0_totals : (Nat → Int32)) => (fX7_refill n (x0_shelf, x0_rowSort, x0_rowSize, x0_rows, x0_moved, x0_shown, x0_tape, x0_tapeSize, x0_refused, x0_lines, x0_line, x0_changes, x0_coins, x0_goods, x0_good, x0_works, x0_work, x0_years, x0_gone, x0_spent, x0_at, x0_token, x0_from, x0_figures, x0_fault, x0_numbers, x0_statements, x0_left, x0_far, x0_tons, x0_way, x0_steps, x0_met, x0_queue, x0_totals)).bind (fun g1 => (lp (u4 (fX7_free_s8 n x0_shelf x0_rowSort x0_rowSize x0_rows x0_moved x0_shown x0_tape x0_tapeSize x0_refused x0_lines x0_line x0_changes x0_coins x0_goods x0_good x0_works x0_work x0_years x0_gone x0_spent x0_at x0_token x0_from x0_figures x0_fault x0_numbers x0_statements x0_way x0_steps x0_met x0_queue x0_totals g1)) n (0, 0, x0_far, x0_tons)).bind (u3 fun w9 w10 w11 => some (w9, g1, w10, w11)))) X0
set_option maxHeartbeats 4000000 in
set_option maxRecDepth 100000 in
theorem kX7_free (l : Launch) (d : DT) (h0 : Nat → Nat) (r0_rows : Nat → Nat) (r0_line : Nat → Nat) (r0_good : Nat → Nat) (r0_work : Nat → Nat) (a0_kept : Option Nat) (a0_tried : Option Nat) (a0_chosen : Option Nat) (n : Nat) (x0_shelf : (Nat → Int32)) (x0_rowSort : (Nat → Int32)) (x0_rowSize : (Nat → Int32)) (x0_rows : (Nat → Nat → Int64)) (x0_moved : (Nat → Int64)) (x0_shown : (Nat → Int32)) (x0_tape : (Nat → Int32)) (x0_tapeSize : Int32) (x0_refused : (Nat → Int32)) (x0_lines : Int32) (x0_line : (Nat → Nat → Int32)) (x0_changes : (Nat → Int32)) (x0_coins : (Nat → Int32)) (x0_goods : Int32) (x0_good : (Nat → Nat → Int32)) (x0_works : Int32) (x0_work : (Nat → Nat → Int32)) (x0_years : Int32) (x0_gone : Int32) (x0_spent : Int32) (x0_at : Int32) (x0_token : Int32) (x0_from : Int32) (x0_figures : Int64) (x0_fault : Int32) (x0_numbers : (Nat → Int32)) (x0_statements : Int32) (x0_left : (Nat → Int32)) (x0_far : (Nat → Int32)) (x0_tons : Int32) (x0_way : (Nat → Int32)) (x0_steps : Int32) (x0_met : Int64) (x0_queue : (Nat → Int32)) (x0_totals : (Nat → Int32))  {out : Int32 × (Nat → Int32) × (Nat → Int32) × Int32} (hf : fX7_free n (x0_shelf, x0_rowSort, x0_rowSize, x0_rows, x0_moved, x0_shown, x0_tape, x0_tapeSize, x0_refused, x0_lines, x0_line, x0_changes, x0_coins, x0_goods, x0_good, x0_works, x0_work, x0_years, x0_gone, x0_spent, x0_at, x0_token, x0_from, x0_figures, x0_fault, x0_numbers, x0_statements, x0_left, x0_far, x0_tons, x0_way, x0_steps, x0_met, x0_queue, x0_totals) = some out) : Ct l d yX7_free cX7_free 4 (some .int) { frames := 2, cells := 0, slots := 0, locals := 50 } [.ref (h0 0)] [gMd d h0 a0_kept a0_tried a0_chosen r0_rows r0_line r0_good r0_work x0_shelf x0_rowSort x0_rowSize x0_moved x0_shown x0_tape x0_tapeSize x0_refused x0_lines x0_changes x0_coins x0_goods x0_works x0_years x0_gone x0_spent x0_at x0_token x0_from x0_figures x0_fault x0_numbers x0_statements x0_left x0_far x0_tons x0_way x0_steps x0_met x0_queue x0_totals, gridI d r0_line 20 7 x0_line, gridI d r0_good 8 3 x0_good] (fun _ : Unit => (some (.int out.1), [gMd d h0 a0_kept a0_tried a0_chosen r0_rows r0_line r0_good r0_work x0_shelf x0_rowSort x0_rowSize x0_moved x0_shown x0_tape x0_tapeSize x0_refused x0_lines x0_changes x0_coins x0_goods x0_works x0_years x0_gone x0_spent x0_at x0_token x0_from x0_figures x0_fault x0_numbers x0_statements (out.2.1) (out.2.2.1) (out.2.2.2) x0_way x0_steps x0_met x0_queue x0_totals, gridI d r0_line 20 7 x0_line, gridI d r0_good 8 3 x0_good])) := by
  refine Ct.of (by decide) (Nat.le_of_ble_eq_true rfl) ?_
  intro Φ hl hK hR
  subst hl
  have hK : Ok d Φ RX7 "free" cX7_free 4 (some .int) { frames := 2, cells := 0, slots := 0, locals := 50 } := hK
  unfold fX7_free at hf
  have hf := un35 hf
  show J d Φ 4 [gMd d h0 a0_kept a0_tried a0_chosen r0_rows r0_line r0_good r0_work x0_shelf x0_rowSort x0_rowSize x0_moved x0_shown x0_tape x0_tapeSize x0_refused x0_lines x0_changes x0_coins x0_goods x0_works x0_years x0_gone x0_spent x0_at x0_token x0_from x0_figures x0_fault x0_numbers x0_statements x0_left x0_far x0_tons x0_way x0_steps x0_met x0_queue x0_totals, gridI d r0_line 20 7 x0_line, gridI d r0_good 8 3 x0_good] 0 0 0 [(0, .ref (h0 0))] []
  refine J_aload_n hK dX7_free_0 rfl 0 rfl rfl ?_
  obtain ⟨g1, e2, hf⟩ := bs hf
  refine J_callV (m' := 3) (ce' := 0) (sl' := 0) (gr := [gridI d r0_good 8 3 x0_good]) (gs' := fun _ => [gMd d h0 a0_kept a0_tried a0_chosen r0_rows r0_line r0_good r0_work x0_shelf x0_rowSort x0_rowSize x0_moved x0_shown x0_tape x0_tapeSize x0_refused x0_lines x0_changes x0_coins x0_goods x0_works x0_years x0_gone x0_spent x0_at x0_token x0_from x0_figures x0_fault x0_numbers x0_statements g1 x0_far x0_tons x0_way x0_steps x0_met x0_queue x0_totals, gridI d r0_line 20 7 x0_line, gridI d r0_good 8 3 x0_good]) (st' := fun _ => []) (st := []) hK dX7_free_1 cv_RX7_276 iv_yX7_refill (As := []) (kX7_refill _ d h0 r0_rows r0_line r0_good r0_work a0_kept a0_tried a0_chosen n x0_shelf x0_rowSort x0_rowSize x0_rows x0_moved x0_shown x0_tape x0_tapeSize x0_refused x0_lines x0_line x0_changes x0_coins x0_goods x0_good x0_works x0_work x0_years x0_gone x0_spent x0_at x0_token x0_from x0_figures x0_fault x0_numbers x0_statements x0_left x0_far x0_tons x0_way x0_steps x0_met x0_queue x0_totals e2) rfl rfl (Nat.le_of_ble_eq_true rfl) (by decide) 0 0 rfl rfl rfl [0, 1] [2] rfl rfl rfl rfl [1, 2, 0] rfl (fun _ => rfl) (fun _ => rfl) rfl rfl rfl (fun _ => rfl) (fun _ => ?_)
  refine J_iconst (v := 0) hK dX7_free_4 rfl (by decide) ?_
  refine J_istore_n (L' := [(1, .int (0)), (0, .ref (h0 0))]) hK dX7_free_5 rfl rfl (by decide) rfl ?_
  refine J_iconst (v := 0) hK dX7_free_6 rfl (by decide) ?_
  refine J_istore_n (L' := [(2, .int (0)), (1, .int (0)), (0, .ref (h0 0))]) hK dX7_free_7 rfl rfl (by decide) rfl ?_
  obtain ⟨e8, hl3, hf⟩ := bs hf
  have hx3_73 : ∀ (w9 : Int32) (w10 : (Nat → Int32)) (w11 : Int32), (w9, w10, w11) = e8 → J d Φ 4 [gMd d h0 a0_kept a0_tried a0_chosen r0_rows r0_line r0_good r0_work x0_shelf x0_rowSort x0_rowSize x0_moved x0_shown x0_tape x0_tapeSize x0_refused x0_lines x0_changes x0_coins x0_goods x0_works x0_years x0_gone x0_spent x0_at x0_token x0_from x0_figures x0_fault x0_numbers x0_statements g1 w10 w11 x0_way x0_steps x0_met x0_queue x0_totals, gridI d r0_line 20 7 x0_line, gridI d r0_good 8 3 x0_good] 0 0 73 [(1, .int w9)] [] := by
    intro w9 w10 w11 he
    rw [← he] at hf
    have hf := un3 hf
    refine J_iload_n hK dX7_free_73 rfl 0 rfl rfl ?_
    obtain rfl := Option.some.inj hf
    exact J_iret hK hR dX7_free_74 () rfl (by decide) (by decide)
  have lo3 : ∀ (k : Nat) (z4 : Int32) (z5 : Int32) (z6 : (Nat → Int32)) (z7 : Int32), lp (u4 (fX7_free_s8 n x0_shelf x0_rowSort x0_rowSize x0_rows x0_moved x0_shown x0_tape x0_tapeSize x0_refused x0_lines x0_line x0_changes x0_coins x0_goods x0_good x0_works x0_work x0_years x0_gone x0_spent x0_at x0_token x0_from x0_figures x0_fault x0_numbers x0_statements x0_way x0_steps x0_met x0_queue x0_totals g1)) k (z4, z5, z6, z7) = some e8 → J d Φ 4 [gMd d h0 a0_kept a0_tried a0_chosen r0_rows r0_line r0_good r0_work x0_shelf x0_rowSort x0_rowSize x0_moved x0_shown x0_tape x0_tapeSize x0_refused x0_lines x0_changes x0_coins x0_goods x0_works x0_years x0_gone x0_spent x0_at x0_token x0_from x0_figures x0_fault x0_numbers x0_statements g1 z6 z7 x0_way x0_steps x0_met x0_queue x0_totals, gridI d r0_line 20 7 x0_line, gridI d r0_good 8 3 x0_good] 0 0 8 [(0, .ref (h0 0)), (1, .int z4), (2, .int z5)] [] := by
    intro k
    induction k with
    | zero => intro z4 z5 z6 z7 h; cases h
    | succ k ih3 =>
      intro z4 z5 z6 z7 h
      obtain ⟨k2, rr3, hk2, hs3, hr3⟩ := lp_ok h
      cases hk2
      have hs3 : fX7_free_s8 n x0_shelf x0_rowSort x0_rowSize x0_rows x0_moved x0_shown x0_tape x0_tapeSize x0_refused x0_lines x0_line x0_changes x0_coins x0_goods x0_good x0_works x0_work x0_years x0_gone x0_spent x0_at x0_token x0_from x0_figures x0_fault x0_numbers x0_statements x0_way x0_steps x0_met x0_queue x0_totals g1 z4 z5 z6 z7 = some rr3 := hs3
      unfold fX7_free_s8 at hs3
      refine J_iload_n hK dX7_free_8 rfl 2 rfl rfl ?_
      refine J_aload_n hK dX7_free_9 rfl 0 rfl rfl ?_
      refine J_get hK fo_RX7_125 dX7_free_10 rfl 0 0 rfl rfl rfl ?_
      refine J_icmp_ge (tg := 73) hK dX7_free_13 rfl rfl (fun hc13 => ?_) (fun hc13 => ?_)
      · have hs3 := ip hc13 hs3
        exact J_loc [1] rfl (hx3_73 z4 z6 z7 (lpx hs3 hr3))
      · have hs3 := iq hc13 hs3
        refine J_aload_n hK dX7_free_16 rfl 0 rfl rfl ?_
        refine J_aload_n hK dX7_free_17 rfl 0 rfl rfl ?_
        refine J_get hK fo_RX7_48 dX7_free_18 rfl 0 0 rfl rfl rfl ?_
        refine J_iload_n hK dX7_free_21 rfl 2 rfl rfl ?_
        obtain ⟨q12, eq12, hs3⟩ := bs hs3
        refine J_aald hK dX7_free_22 rfl 0 12 rfl rfl rfl eq12 ?_
        refine J_iconst (v := 1) hK dX7_free_23 rfl (by decide) ?_
        obtain ⟨v13, ev13, hs3⟩ := bs hs3
        refine J_iald hK dX7_free_24 rfl 2 q12 rfl (gridI_at (ck_ok eq12).2.2) ev13 ?_
        refine J_iconst (v := 0) hK dX7_free_25 rfl (by decide) ?_
        obtain ⟨⟨g14, g15⟩, e16, hs3⟩ := bs hs3
        have hs3 := un2 hs3
        refine J_callV (m' := 3) (ce' := 0) (sl' := 0) (gr := [gridI d r0_good 8 3 x0_good]) (gs' := fun _ => [gMd d h0 a0_kept a0_tried a0_chosen r0_rows r0_line r0_good r0_work x0_shelf x0_rowSort x0_rowSize x0_moved x0_shown x0_tape x0_tapeSize x0_refused x0_lines x0_changes x0_coins x0_goods x0_works x0_years x0_gone x0_spent x0_at x0_token x0_from x0_figures x0_fault x0_numbers x0_statements g1 g14 g15 x0_way x0_steps x0_met x0_queue x0_totals, gridI d r0_line 20 7 x0_line, gridI d r0_good 8 3 x0_good]) (st' := fun _ => []) (st := []) hK dX7_free_26 cv_RX7_264 iv_yX7_findFar (As := [.int v13, .int (0)]) (kX7_findFar _ d h0 r0_rows r0_line r0_good r0_work a0_kept a0_tried a0_chosen n x0_shelf x0_rowSort x0_rowSize x0_rows x0_moved x0_shown x0_tape x0_tapeSize x0_refused x0_lines x0_line x0_changes x0_coins x0_goods x0_good x0_works x0_work x0_years x0_gone x0_spent x0_at x0_token x0_from x0_figures x0_fault x0_numbers x0_statements g1 z6 z7 x0_way x0_steps x0_met x0_queue x0_totals v13 (0) e16) rfl rfl (Nat.le_of_ble_eq_true rfl) (by decide) 0 0 rfl rfl rfl [0, 1] [2] rfl rfl rfl rfl [1, 2, 0] rfl (fun _ => rfl) (fun _ => rfl) rfl rfl rfl (fun _ => rfl) (fun _ => ?_)
        refine J_aload_n hK dX7_free_29 rfl 0 rfl rfl ?_
        refine J_aload_n hK dX7_free_30 rfl 0 rfl rfl ?_
        refine J_get hK fo_RX7_48 dX7_free_31 rfl 0 0 rfl rfl rfl ?_
        refine J_iload_n hK dX7_free_34 rfl 2 rfl rfl ?_
        obtain ⟨q17, eq17, hs3⟩ := bs hs3
        refine J_aald hK dX7_free_35 rfl 0 12 rfl rfl rfl eq17 ?_
        refine J_iconst (v := 0) hK dX7_free_36 rfl (by decide) ?_
        obtain ⟨v18, ev18, hs3⟩ := bs hs3
        refine J_iald hK dX7_free_37 rfl 2 q17 rfl (gridI_at (ck_ok eq17).2.2) ev18 ?_
        obtain ⟨v19, e20, hs3⟩ := bs hs3
        refine J_callV (m' := 3) (ce' := 0) (sl' := 0) (gr := [gridI d r0_line 20 7 x0_line, gridI d r0_good 8 3 x0_good]) (gs' := fun _ => [gMd d h0 a0_kept a0_tried a0_chosen r0_rows r0_line r0_good r0_work x0_shelf x0_rowSort x0_rowSize x0_moved x0_shown x0_tape x0_tapeSize x0_refused x0_lines x0_changes x0_coins x0_goods x0_works x0_years x0_gone x0_spent x0_at x0_token x0_from x0_figures x0_fault x0_numbers x0_statements g1 g14 g15 x0_way x0_steps x0_met x0_queue x0_totals, gridI d r0_line 20 7 x0_line, gridI d r0_good 8 3 x0_good]) (st' := fun _ => [.int v19]) (st := []) hK dX7_free_38 cv_RX7_270 iv_yX7_least (As := [.int v18]) (kX7_least _ d h0 r0_rows r0_line r0_good r0_work a0_kept a0_tried a0_chosen n x0_shelf x0_rowSort x0_rowSize x0_rows x0_moved x0_shown x0_tape x0_tapeSize x0_refused x0_lines x0_line x0_changes x0_coins x0_goods x0_good x0_works x0_work x0_years x0_gone x0_spent x0_at x0_token x0_from x0_figures x0_fault x0_numbers x0_statements g1 g14 g15 x0_way x0_steps x0_met x0_queue x0_totals v18 e20) rfl rfl (Nat.le_of_ble_eq_true rfl) (by decide) 0 0 rfl rfl rfl [0] [1, 2] rfl rfl rfl rfl [2, 0, 1] rfl (fun _ => rfl) (fun _ => rfl) rfl rfl rfl (fun _ => rfl) (fun _ => ?_)
        refine J_istore_n (L' := [(3, .int v19), (0, .ref (h0 0)), (1, .int z4), (2, .int z5)]) hK dX7_free_41 rfl rfl (by decide) rfl ?_
        refine J_iload_n hK dX7_free_42 rfl 2 rfl rfl ?_
        refine J_aload_n hK dX7_free_43 rfl 1 rfl rfl ?_
        refine J_get hK fo_RX7_48 dX7_free_44 rfl 0 0 rfl rfl rfl ?_
        refine J_iload_n hK dX7_free_47 rfl 3 rfl rfl ?_
        obtain ⟨q21, eq21, hs3⟩ := bs hs3
        refine J_aald hK dX7_free_48 rfl 0 12 rfl rfl rfl eq21 ?_
        refine J_iconst (v := 2) hK dX7_free_49 rfl (by decide) ?_
        obtain ⟨v22, ev22, hs3⟩ := bs hs3
        refine J_iald hK dX7_free_50 rfl 2 q21 rfl (gridI_at (ck_ok eq21).2.2) ev22 ?_
        refine J_iload_n hK dX7_free_51 rfl 0 rfl rfl ?_
        refine J_ldc (v := 1000000000) hK dX7_free_52 rfl wk_RX7_254 ?_
        refine J_icmp_lt (tg := 63) hK dX7_free_54 rfl rfl (fun hc54 => ?_) (fun hc54 => ?_)
        · have hs3 := ip hc54 hs3
          refine J_iload_n hK dX7_free_63 rfl 0 rfl rfl ?_
          refine J_imul hK dX7_free_64 rfl ?_
          refine J_iadd hK dX7_free_65 rfl ?_
          refine J_istore_n (L' := [(1, .int (z4 + (v22 * v19))), (3, .int v19), (0, .ref (h0 0)), (2, .int z5)]) hK dX7_free_66 rfl rfl (by decide) rfl ?_
          refine J_iinc (L' := [(2, .int (z5 + 1)), (1, .int (z4 + (v22 * v19))), (3, .int v19), (0, .ref (h0 0))]) (v := (z5 + 1)) hK dX7_free_67 rfl 3 rfl rfl (by decide) rfl ?_
          refine J_goto hK dX7_free_70 (n := 8) rfl ?_
          exact J_loc [3, 1, 0] rfl (ih3 (z4 + (v22 * v19)) (z5 + 1) g14 g15 (lpc hs3 hr3))
        · have hs3 := iq hc54 hs3
          refine J_sipush (v := 999) hK dX7_free_57 rfl (by decide) ?_
          refine J_goto hK dX7_free_60 (n := 64) rfl ?_
          refine J_imul hK dX7_free_64 rfl ?_
          refine J_iadd hK dX7_free_65 rfl ?_
          refine J_istore_n (L' := [(1, .int (z4 + (v22 * 999))), (3, .int v19), (0, .ref (h0 0)), (2, .int z5)]) hK dX7_free_66 rfl rfl (by decide) rfl ?_
          refine J_iinc (L' := [(2, .int (z5 + 1)), (1, .int (z4 + (v22 * 999))), (3, .int v19), (0, .ref (h0 0))]) (v := (z5 + 1)) hK dX7_free_67 rfl 3 rfl rfl (by decide) rfl ?_
          refine J_goto hK dX7_free_70 (n := 8) rfl ?_
          exact J_loc [3, 1, 0] rfl (ih3 (z4 + (v22 * 999)) (z5 + 1) g14 g15 (lpc hs3 hr3))
  exact J_loc [2, 1, 0] rfl (lo3 n (0) (0) x0_far x0_tons hl3)

def fX7_turn_s132 (v29 : Int32) (g38 : (Nat → Int32)) (g39 : Int32) (z48 : Int32) (z49 : (Nat → Int32)) : Option ((Int32 × (Nat → Int32)) ⊕ ((Nat → Int32))) :=
  if g39 ≤ z48 then (some (.inr z49)) else ((rd 37 g38 z48).bind fun v52 => if v52 < 3 then (some (.inl ((z48 + 1), z49))) else ((rd 37 g38 z48).bind fun v53 => (rd 37 g38 z48).bind fun v54 => (rd 20 z49 (v54 - 3)).bind fun v55 => if v29 ≤ v55 then ((rd 37 g38 z48).bind fun v56 => (rd 20 z49 (v56 - 3)).bind fun v57 => (wr 20 z49 (v53 - 3) (v57 - v29)).bind fun f58 => some (.inl ((z48 + 1), f58))) else ((wr 20 z49 (v53 - 3) (0)).bind fun f59 => some (.inl ((z48 + 1), f59)))))
def fX7_turn_s46 (n : Nat) (x0_shelf : (Nat → Int32)) (x0_rowSort : (Nat → Int32)) (x0_rowSize : (Nat → Int32)) (x0_rows : (Nat → Nat → Int64)) (x0_moved : (Nat → Int64)) (x0_shown : (Nat → Int32)) (x0_tape : (Nat → Int32)) (x0_tapeSize : Int32) (x0_refused : (Nat → Int32)) (x0_lines : Int32) (x0_line : (Nat → Nat → Int32)) (x0_changes : (Nat → Int32)) (x0_coins : (Nat → Int32)) (x0_goods : Int32) (x0_good : (Nat → Nat → Int32)) (x0_works : Int32) (x0_work : (Nat → Nat → Int32)) (x0_years : Int32) (x0_gone : Int32) (x0_spent : Int32) (x0_at : Int32) (x0_token : Int32) (x0_from : Int32) (x0_figures : Int64) (x0_fault : Int32) (x0_numbers : (Nat → Int32)) (x0_statements : Int32) (x0_totals : (Nat → Int32)) (z7 : Int32) (z8 : Int32) (z9 : Int32) (z10 : (Nat → Int32)) (z11 : (Nat → Int32)) (z12 : Int32) (z13 : (Nat → Int32)) (z14 : Int32) (z15 : Int64) (z16 : (Nat → Int32)) : Option ((Int32 × Int32 × Int32 × (Nat → Int32) × (Nat → Int32) × Int32 × (Nat → Int32) × Int32 × Int64 × (Nat → Int32)) ⊕ (Int32 × Int32 × (Nat → Int32) × (Nat → Int32) × Int32 × (Nat → Int32) × Int32 × Int64 × (Nat → Int32))) :=
  if x0_goods ≤ z9 then (some (.inr (z7, z8, z10, z11, z12, z13, z14, z15, z16))) else ((ck z9 8).bind fun q28 => (rd 3 (x0_good q28) (2)).bind fun v29 => (ck z9 8).bind fun q30 => (rd 3 (x0_good q30) (0)).bind fun v31 => (ck z9 8).bind fun q32 => (rd 3 (x0_good q32) (1)).bind fun v33 => (fX7_findWay n (x0_shelf, x0_rowSort, x0_rowSize, x0_rows, x0_moved, x0_shown, x0_tape, x0_tapeSize, x0_refused, x0_lines, x0_line, x0_changes, x0_coins, x0_goods, x0_good, x0_works, x0_work, x0_years, x0_gone, x0_spent, x0_at, x0_token, x0_from, x0_figures, x0_fault, x0_numbers, x0_statements, z10, z11, z12, z13, z14, z15, z16, x0_totals) v31 v33 v29).bind (u2 fun v34 G35 => u6 (fun g36 g37 g38 g39 g40 g41 => if v34 = 0 then (some (.inl ((z7 + (999 * v29)), (z8 + v29), (z9 + 1), z10, g36, g37, g38, g39, g40, g41))) else ((ck z9 8).bind fun q43 => (rd 3 (x0_good q43) (0)).bind fun v44 => (fX7_least n (x0_shelf, x0_rowSort, x0_rowSize, x0_rows, x0_moved, x0_shown, x0_tape, x0_tapeSize, x0_refused, x0_lines, x0_line, x0_changes, x0_coins, x0_goods, x0_good, x0_works, x0_work, x0_years, x0_gone, x0_spent, x0_at, x0_token, x0_from, x0_figures, x0_fault, x0_numbers, x0_statements, z10, g36, g37, g38, g39, g40, g41, x0_totals) v44).bind (fun v45 => (lp (u2 (fX7_turn_s132 v29 g38 g39)) n (1, z10)).bind (fun w51 => some (.inl ((z7 + (v29 * v45)), z8, (z9 + 1), w51, g36, g37, g38, g39, g40, g41)))))) G35))
def fX7_turn_j35 (n : Nat) (p1 : Int32) (x0_shelf : (Nat → Int32)) (x0_rowSort : (Nat → Int32)) (x0_rowSize : (Nat → Int32)) (x0_rows : (Nat → Nat → Int64)) (x0_moved : (Nat → Int64)) (x0_shown : (Nat → Int32)) (x0_tape : (Nat → Int32)) (x0_tapeSize : Int32) (x0_refused : (Nat → Int32)) (x0_lines : Int32) (x0_line : (Nat → Nat → Int32)) (x0_changes : (Nat → Int32)) (x0_coins : (Nat → Int32)) (x0_goods : Int32) (x0_good : (Nat → Nat → Int32)) (x0_works : Int32) (x0_work : (Nat → Nat → Int32)) (x0_years : Int32) (x0_gone : Int32) (x0_spent : Int32) (x0_at : Int32) (x0_token : Int32) (x0_from : Int32) (x0_figures : Int64) (x0_fault : Int32) (x0_numbers : (Nat → Int32)) (x0_statements : Int32) (x0_left : (Nat → Int32)) (x0_far : (Nat → Int32)) (x0_tons : Int32) (x0_way : (Nat → Int32)) (x0_steps : Int32) (x0_met : Int64) (x0_queue : (Nat → Int32)) (x0_totals : (Nat → Int32)) : Option (Int32 × ((Nat → Int32) × (Nat → Int32) × (Nat → Int32) × Int32 × (Nat → Int32) × Int32 × Int64 × (Nat → Int32))) :=
  (fX7_refill n (x0_shelf, x0_rowSort, x0_rowSize, x0_rows, x0_moved, x0_shown, x0_tape, x0_tapeSize, x0_refused, x0_lines, x0_line, x0_changes, x0_coins, x0_goods, x0_good, x0_works, x0_work, x0_years, x0_gone, x0_spent, x0_at, x0_token, x0_from, x0_figures, x0_fault, x0_numbers, x0_statements, x0_left, x0_far, x0_tons, x0_way, x0_steps, x0_met, x0_queue, x0_totals)).bind (fun g4 => (lp (u10 (fX7_turn_s46 n x0_shelf x0_rowSort x0_rowSize x0_rows x0_moved x0_shown x0_tape x0_tapeSize x0_refused x0_lines x0_line x0_changes x0_coins x0_goods x0_good x0_works x0_work x0_years x0_gone x0_spent x0_at x0_token x0_from x0_figures x0_fault x0_numbers x0_statements x0_totals)) n (0, 0, 0, g4, x0_far, x0_tons, x0_way, x0_steps, x0_met, x0_queue)).bind (u9 fun w18 w19 w20 w21 w22 w23 w24 w25 w26 => if p1 = 0 then (some (w18, (x0_refused, w20, w21, w22, w23, w24, w25, w26))) else (if p1 = 1 then (some (w19, (x0_refused, w20, w21, w22, w23, w24, w25, w26))) else ((rd 20 w20 (p1 - 10)).bind fun v27 => some (v27, (x0_refused, w20, w21, w22, w23, w24, w25, w26))))))
def fX7_turn (n : Nat) (X0 : MdT) (p1 : Int32) : Option (Int32 × ((Nat → Int32) × (Nat → Int32) × (Nat → Int32) × Int32 × (Nat → Int32) × Int32 × Int64 × (Nat → Int32))) :=
  u35 (fun (x0_shelf : (Nat → Int32)) (x0_rowSort : (Nat → Int32)) (x0_rowSize : (Nat → Int32)) (x0_rows : (Nat → Nat → Int64)) (x0_moved : (Nat → Int64)) (x0_shown : (Nat → Int32)) (x0_tape : (Nat → Int32)) (x0_tapeSize : Int32) (x0_refused : (Nat → Int32)) (x0_lines : Int32) (x0_line : (Nat → Nat → Int32)) (x0_changes : (Nat → Int32)) (x0_coins : (Nat → Int32)) (x0_goods : Int32) (x0_good : (Nat → Nat → Int32)) (x0_works : Int32) (x0_work : (Nat → Nat → Int32)) (x0_years : Int32) (x0_gone : Int32) (x0_spent : Int32) (x0_at : Int32) (x0_token : Int32) (x0_from : Int32) (x0_figures : Int64) (x0_fault : Int32) (x0_numbers : (Nat → Int32)) (x0_statements : Int32) (x0_left : (Nat → Int32)) (x0_far : (Nat → Int32)) (x0_tons : Int32) (x0_way : (Nat → Int32)) (x0_steps : Int32) (x0_met : Int64) (x0_queue : (Nat → Int32)) (x0_totals : (Nat → Int32)) => if p1 < 0 then ((fX7_refuse (x0_shelf, x0_rowSort, x0_rowSize, x0_rows, x0_moved, x0_shown, x0_tape, x0_tapeSize, x0_refused, x0_lines, x0_line, x0_changes, x0_coins, x0_goods, x0_good, x0_works, x0_work, x0_years, x0_gone, x0_spent, x0_at, x0_token, x0_from, x0_figures, x0_fault, x0_numbers, x0_statements, x0_left, x0_far, x0_tons, x0_way, x0_steps, x0_met, x0_queue, x0_totals) (-2)).bind (u2 fun v1 g2 => some (v1, (g2, x0_left, x0_far, x0_tons, x0_way, x0_steps, x0_met, x0_queue)))) else (if p1 ≤ 1 then (fX7_turn_j35 n p1 x0_shelf x0_rowSort x0_rowSize x0_rows x0_moved x0_shown x0_tape x0_tapeSize x0_refused x0_lines x0_line x0_changes x0_coins x0_goods x0_good x0_works x0_work x0_years x0_gone x0_spent x0_at x0_token x0_from x0_figures x0_fault x0_numbers x0_statements x0_left x0_far x0_tons x0_way x0_steps x0_met x0_queue x0_totals) else ((fX7_in ((p1).toInt64) (10 : Int64) (((9 + x0_lines)).toInt64)).bind (fun v60 => if v60 = 0 then ((fX7_refuse (x0_shelf, x0_rowSort, x0_rowSize, x0_rows, x0_moved, x0_shown, x0_tape, x0_tapeSize, x0_refused, x0_lines, x0_line, x0_changes, x0_coins, x0_goods, x0_good, x0_works, x0_work, x0_years, x0_gone, x0_spent, x0_at, x0_token, x0_from, x0_figures, x0_fault, x0_numbers, x0_statements, x0_left, x0_far, x0_tons, x0_way, x0_steps, x0_met, x0_queue, x0_totals) (-2)).bind (u2 fun v62 g63 => some (v62, (g63, x0_left, x0_far, x0_tons, x0_way, x0_steps, x0_met, x0_queue)))) else (fX7_turn_j35 n p1 x0_shelf x0_rowSort x0_rowSize x0_rows x0_moved x0_shown x0_tape x0_tapeSize x0_refused x0_lines x0_line x0_changes x0_coins x0_goods x0_good x0_works x0_work x0_years x0_gone x0_spent x0_at x0_token x0_from x0_figures x0_fault x0_numbers x0_statements x0_left x0_far x0_tons x0_way x0_steps x0_met x0_queue x0_totals))))) X0
set_option maxHeartbeats 4000000 in
set_option maxRecDepth 100000 in
theorem kX7_turn (l : Launch) (d : DT) (h0 : Nat → Nat) (r0_rows : Nat → Nat) (r0_line : Nat → Nat) (r0_good : Nat → Nat) (r0_work : Nat → Nat) (a0_kept : Option Nat) (a0_tried : Option Nat) (a0_chosen : Option Nat) (n : Nat) (x0_shelf : (Nat → Int32)) (x0_rowSort : (Nat → Int32)) (x0_rowSize : (Nat → Int32)) (x0_rows : (Nat → Nat → Int64)) (x0_moved : (Nat → Int64)) (x0_shown : (Nat → Int32)) (x0_tape : (Nat → Int32)) (x0_tapeSize : Int32) (x0_refused : (Nat → Int32)) (x0_lines : Int32) (x0_line : (Nat → Nat → Int32)) (x0_changes : (Nat → Int32)) (x0_coins : (Nat → Int32)) (x0_goods : Int32) (x0_good : (Nat → Nat → Int32)) (x0_works : Int32) (x0_work : (Nat → Nat → Int32)) (x0_years : Int32) (x0_gone : Int32) (x0_spent : Int32) (x0_at : Int32) (x0_token : Int32) (x0_from : Int32) (x0_figures : Int64) (x0_fault : Int32) (x0_numbers : (Nat → Int32)) (x0_statements : Int32) (x0_left : (Nat → Int32)) (x0_far : (Nat → Int32)) (x0_tons : Int32) (x0_way : (Nat → Int32)) (x0_steps : Int32) (x0_met : Int64) (x0_queue : (Nat → Int32)) (x0_totals : (Nat → Int32)) (p1 : Int32)  {out : Int32 × ((Nat → Int32) × (Nat → Int32) × (Nat → Int32) × Int32 × (Nat → Int32) × Int32 × Int64 × (Nat → Int32))} (hf : fX7_turn n (x0_shelf, x0_rowSort, x0_rowSize, x0_rows, x0_moved, x0_shown, x0_tape, x0_tapeSize, x0_refused, x0_lines, x0_line, x0_changes, x0_coins, x0_goods, x0_good, x0_works, x0_work, x0_years, x0_gone, x0_spent, x0_at, x0_token, x0_from, x0_figures, x0_fault, x0_numbers, x0_statements, x0_left, x0_far, x0_tons, x0_way, x0_steps, x0_met, x0_queue, x0_totals) p1 = some out) : Ct l d yX7_turn cX7_turn 7 (some .int) { frames := 4, cells := 0, slots := 0, locals := 102 } [.ref (h0 0), .int p1] [gMd d h0 a0_kept a0_tried a0_chosen r0_rows r0_line r0_good r0_work x0_shelf x0_rowSort x0_rowSize x0_moved x0_shown x0_tape x0_tapeSize x0_refused x0_lines x0_changes x0_coins x0_goods x0_works x0_years x0_gone x0_spent x0_at x0_token x0_from x0_figures x0_fault x0_numbers x0_statements x0_left x0_far x0_tons x0_way x0_steps x0_met x0_queue x0_totals, gridI d r0_line 20 7 x0_line, gridI d r0_good 8 3 x0_good] (fun _ : Unit => (some (.int out.1), [gMd d h0 a0_kept a0_tried a0_chosen r0_rows r0_line r0_good r0_work x0_shelf x0_rowSort x0_rowSize x0_moved x0_shown x0_tape x0_tapeSize (out.2.1) x0_lines x0_changes x0_coins x0_goods x0_works x0_years x0_gone x0_spent x0_at x0_token x0_from x0_figures x0_fault x0_numbers x0_statements (out.2.2.1) (out.2.2.2.1) (out.2.2.2.2.1) (out.2.2.2.2.2.1) (out.2.2.2.2.2.2.1) (out.2.2.2.2.2.2.2.1) (out.2.2.2.2.2.2.2.2) x0_totals, gridI d r0_line 20 7 x0_line, gridI d r0_good 8 3 x0_good])) := by
  refine Ct.of (by decide) (Nat.le_of_ble_eq_true rfl) ?_
  intro Φ hl hK hR
  subst hl
  have hK : Ok d Φ RX7 "turn" cX7_turn 7 (some .int) { frames := 4, cells := 0, slots := 0, locals := 102 } := hK
  unfold fX7_turn at hf
  have hf := un35 hf
  show J d Φ 7 [gMd d h0 a0_kept a0_tried a0_chosen r0_rows r0_line r0_good r0_work x0_shelf x0_rowSort x0_rowSize x0_moved x0_shown x0_tape x0_tapeSize x0_refused x0_lines x0_changes x0_coins x0_goods x0_works x0_years x0_gone x0_spent x0_at x0_token x0_from x0_figures x0_fault x0_numbers x0_statements x0_left x0_far x0_tons x0_way x0_steps x0_met x0_queue x0_totals, gridI d r0_line 20 7 x0_line, gridI d r0_good 8 3 x0_good] 0 0 0 [(0, .ref (h0 0)), (1, .int p1)] []
  refine J_iload_n hK dX7_turn_0 rfl 1 rfl rfl ?_
  refine J_if_lt (tg := 28) hK dX7_turn_1 rfl rfl (fun hc1 => ?_) (fun hc1 => ?_)
  · have hf := ip hc1 hf
    refine J_aload_n hK dX7_turn_28 rfl 0 rfl rfl ?_
    refine J_bipush (v := (-2)) hK dX7_turn_29 rfl (by decide) ?_
    obtain ⟨⟨v1, g2⟩, e3, hf⟩ := bs hf
    have hf := un2 hf
    refine J_callV (m' := 3) (ce' := 0) (sl' := 0) (gr := [gridI d r0_line 20 7 x0_line, gridI d r0_good 8 3 x0_good]) (gs' := fun _ => [gMd d h0 a0_kept a0_tried a0_chosen r0_rows r0_line r0_good r0_work x0_shelf x0_rowSort x0_rowSize x0_moved x0_shown x0_tape x0_tapeSize g2 x0_lines x0_changes x0_coins x0_goods x0_works x0_years x0_gone x0_spent x0_at x0_token x0_from x0_figures x0_fault x0_numbers x0_statements x0_left x0_far x0_tons x0_way x0_steps x0_met x0_queue x0_totals, gridI d r0_line 20 7 x0_line, gridI d r0_good 8 3 x0_good]) (st' := fun _ => [.int v1]) (st := []) hK dX7_turn_31 cv_RX7_94 iv_yX7_refuse (As := [.int (-2)]) (kX7_refuse _ d h0 r0_rows r0_line r0_good r0_work a0_kept a0_tried a0_chosen x0_shelf x0_rowSort x0_rowSize x0_rows x0_moved x0_shown x0_tape x0_tapeSize x0_refused x0_lines x0_line x0_changes x0_coins x0_goods x0_good x0_works x0_work x0_years x0_gone x0_spent x0_at x0_token x0_from x0_figures x0_fault x0_numbers x0_statements x0_left x0_far x0_tons x0_way x0_steps x0_met x0_queue x0_totals (-2) e3) rfl rfl (Nat.le_of_ble_eq_true rfl) (by decide) 0 0 rfl rfl rfl [0] [1, 2] rfl rfl rfl rfl [2, 0, 1] rfl (fun _ => rfl) (fun _ => rfl) rfl rfl rfl (fun _ => rfl) (fun _ => ?_)
    obtain rfl := Option.some.inj hf
    exact J_iret hK hR dX7_turn_34 () rfl (by decide) (by decide)
  · have hf := iq hc1 hf
    refine J_iload_n hK dX7_turn_4 rfl 1 rfl rfl ?_
    refine J_iconst (v := 1) hK dX7_turn_5 rfl (by decide) ?_
    have j35 : fX7_turn_j35 n p1 x0_shelf x0_rowSort x0_rowSize x0_rows x0_moved x0_shown x0_tape x0_tapeSize x0_refused x0_lines x0_line x0_changes x0_coins x0_goods x0_good x0_works x0_work x0_years x0_gone x0_spent x0_at x0_token x0_from x0_figures x0_fault x0_numbers x0_statements x0_left x0_far x0_tons x0_way x0_steps x0_met x0_queue x0_totals = some out → J d Φ 7 [gMd d h0 a0_kept a0_tried a0_chosen r0_rows r0_line r0_good r0_work x0_shelf x0_rowSort x0_rowSize x0_moved x0_shown x0_tape x0_tapeSize x0_refused x0_lines x0_changes x0_coins x0_goods x0_works x0_years x0_gone x0_spent x0_at x0_token x0_from x0_figures x0_fault x0_numbers x0_statements x0_left x0_far x0_tons x0_way x0_steps x0_met x0_queue x0_totals, gridI d r0_line 20 7 x0_line, gridI d r0_good 8 3 x0_good] 0 0 35 [(0, .ref (h0 0)), (1, .int p1)] [] := by
      intro  hf
      unfold fX7_turn_j35 at hf
      refine J_aload_n hK dX7_turn_35 rfl 0 rfl rfl ?_
      obtain ⟨g4, e5, hf⟩ := bs hf
      refine J_callV (m' := 3) (ce' := 0) (sl' := 0) (gr := [gridI d r0_good 8 3 x0_good]) (gs' := fun _ => [gMd d h0 a0_kept a0_tried a0_chosen r0_rows r0_line r0_good r0_work x0_shelf x0_rowSort x0_rowSize x0_moved x0_shown x0_tape x0_tapeSize x0_refused x0_lines x0_changes x0_coins x0_goods x0_works x0_years x0_gone x0_spent x0_at x0_token x0_from x0_figures x0_fault x0_numbers x0_statements g4 x0_far x0_tons x0_way x0_steps x0_met x0_queue x0_totals, gridI d r0_line 20 7 x0_line, gridI d r0_good 8 3 x0_good]) (st' := fun _ => []) (st := []) hK dX7_turn_36 cv_RX7_276 iv_yX7_refill (As := []) (kX7_refill _ d h0 r0_rows r0_line r0_good r0_work a0_kept a0_tried a0_chosen n x0_shelf x0_rowSort x0_rowSize x0_rows x0_moved x0_shown x0_tape x0_tapeSize x0_refused x0_lines x0_line x0_changes x0_coins x0_goods x0_good x0_works x0_work x0_years x0_gone x0_spent x0_at x0_token x0_from x0_figures x0_fault x0_numbers x0_statements x0_left x0_far x0_tons x0_way x0_steps x0_met x0_queue x0_totals e5) rfl rfl (Nat.le_of_ble_eq_true rfl) (by decide) 0 0 rfl rfl rfl [0, 1] [2] rfl rfl rfl rfl [1, 2, 0] rfl (fun _ => rfl) (fun _ => rfl) rfl rfl rfl (fun _ => rfl) (fun _ => ?_)
      refine J_iconst (v := 0) hK dX7_turn_39 rfl (by decide) ?_
      refine J_istore_n (L' := [(2, .int (0)), (0, .ref (h0 0)), (1, .int p1)]) hK dX7_turn_40 rfl rfl (by decide) rfl ?_
      refine J_iconst (v := 0) hK dX7_turn_41 rfl (by decide) ?_
      refine J_istore_n (L' := [(3, .int (0)), (2, .int (0)), (0, .ref (h0 0)), (1, .int p1)]) hK dX7_turn_42 rfl rfl (by decide) rfl ?_
      refine J_iconst (v := 0) hK dX7_turn_43 rfl (by decide) ?_
      refine J_istore (L' := [(4, .int (0)), (3, .int (0)), (2, .int (0)), (0, .ref (h0 0)), (1, .int p1)]) hK dX7_turn_44 rfl (by decide) rfl ?_
      obtain ⟨e17, hl6, hf⟩ := bs hf
      have hx6_218 : ∀ (w18 : Int32) (w19 : Int32) (w20 : (Nat → Int32)) (w21 : (Nat → Int32)) (w22 : Int32) (w23 : (Nat → Int32)) (w24 : Int32) (w25 : Int64) (w26 : (Nat → Int32)), (w18, w19, w20, w21, w22, w23, w24, w25, w26) = e17 → J d Φ 7 [gMd d h0 a0_kept a0_tried a0_chosen r0_rows r0_line r0_good r0_work x0_shelf x0_rowSort x0_rowSize x0_moved x0_shown x0_tape x0_tapeSize x0_refused x0_lines x0_changes x0_coins x0_goods x0_works x0_years x0_gone x0_spent x0_at x0_token x0_from x0_figures x0_fault x0_numbers x0_statements w20 w21 w22 w23 w24 w25 w26 x0_totals, gridI d r0_line 20 7 x0_line, gridI d r0_good 8 3 x0_good] 0 0 218 [(0, .ref (h0 0)), (1, .int p1), (2, .int w18), (3, .int w19)] [] := by
        intro w18 w19 w20 w21 w22 w23 w24 w25 w26 he
        rw [← he] at hf
        have hf := un9 hf
        refine J_iload_n hK dX7_turn_218 rfl 1 rfl rfl ?_
        refine J_if_ne (tg := 226) hK dX7_turn_219 rfl rfl (fun hc219 => ?_) (fun hc219 => ?_)
        · have hf := iq hc219 hf
          refine J_iload_n hK dX7_turn_226 rfl 1 rfl rfl ?_
          refine J_iconst (v := 1) hK dX7_turn_227 rfl (by decide) ?_
          refine J_icmp_ne (tg := 235) hK dX7_turn_228 rfl rfl (fun hc228 => ?_) (fun hc228 => ?_)
          · have hf := iq hc228 hf
            refine J_aload_n hK dX7_turn_235 rfl 0 rfl rfl ?_
            refine J_get hK fo_RX7_61 dX7_turn_236 rfl 0 0 rfl rfl rfl ?_
            refine J_iload_n hK dX7_turn_239 rfl 1 rfl rfl ?_
            refine J_bipush (v := 10) hK dX7_turn_240 rfl (by decide) ?_
            refine J_isub hK dX7_turn_242 rfl ?_
            obtain ⟨v27, ev27, hf⟩ := bs hf
            refine J_iald hK dX7_turn_243 rfl 0 15 rfl rfl ev27 ?_
            obtain rfl := Option.some.inj hf
            exact J_iret hK hR dX7_turn_244 () rfl (by decide) (by decide)
          · have hf := ip hc228 hf
            refine J_iload_n hK dX7_turn_231 rfl 3 rfl rfl ?_
            refine J_goto hK dX7_turn_232 (n := 244) rfl ?_
            obtain rfl := Option.some.inj hf
            exact J_iret hK hR dX7_turn_244 () rfl (by decide) (by decide)
        · have hf := ip hc219 hf
          refine J_iload_n hK dX7_turn_222 rfl 2 rfl rfl ?_
          refine J_goto hK dX7_turn_223 (n := 244) rfl ?_
          obtain rfl := Option.some.inj hf
          exact J_iret hK hR dX7_turn_244 () rfl (by decide) (by decide)
      have lo6 : ∀ (k : Nat) (z7 : Int32) (z8 : Int32) (z9 : Int32) (z10 : (Nat → Int32)) (z11 : (Nat → Int32)) (z12 : Int32) (z13 : (Nat → Int32)) (z14 : Int32) (z15 : Int64) (z16 : (Nat → Int32)), lp (u10 (fX7_turn_s46 n x0_shelf x0_rowSort x0_rowSize x0_rows x0_moved x0_shown x0_tape x0_tapeSize x0_refused x0_lines x0_line x0_changes x0_coins x0_goods x0_good x0_works x0_work x0_years x0_gone x0_spent x0_at x0_token x0_from x0_figures x0_fault x0_numbers x0_statements x0_totals)) k (z7, z8, z9, z10, z11, z12, z13, z14, z15, z16) = some e17 → J d Φ 7 [gMd d h0 a0_kept a0_tried a0_chosen r0_rows r0_line r0_good r0_work x0_shelf x0_rowSort x0_rowSize x0_moved x0_shown x0_tape x0_tapeSize x0_refused x0_lines x0_changes x0_coins x0_goods x0_works x0_years x0_gone x0_spent x0_at x0_token x0_from x0_figures x0_fault x0_numbers x0_statements z10 z11 z12 z13 z14 z15 z16 x0_totals, gridI d r0_line 20 7 x0_line, gridI d r0_good 8 3 x0_good] 0 0 46 [(0, .ref (h0 0)), (1, .int p1), (2, .int z7), (3, .int z8), (4, .int z9)] [] := by
        intro k
        induction k with
        | zero => intro z7 z8 z9 z10 z11 z12 z13 z14 z15 z16 h; cases h
        | succ k ih6 =>
          intro z7 z8 z9 z10 z11 z12 z13 z14 z15 z16 h
          obtain ⟨k2, rr6, hk2, hs6, hr6⟩ := lp_ok h
          cases hk2
          have hs6 : fX7_turn_s46 n x0_shelf x0_rowSort x0_rowSize x0_rows x0_moved x0_shown x0_tape x0_tapeSize x0_refused x0_lines x0_line x0_changes x0_coins x0_goods x0_good x0_works x0_work x0_years x0_gone x0_spent x0_at x0_token x0_from x0_figures x0_fault x0_numbers x0_statements x0_totals z7 z8 z9 z10 z11 z12 z13 z14 z15 z16 = some rr6 := hs6
          unfold fX7_turn_s46 at hs6
          refine J_iload hK dX7_turn_46 rfl 4 rfl ?_
          refine J_aload_n hK dX7_turn_48 rfl 0 rfl rfl ?_
          refine J_get hK fo_RX7_125 dX7_turn_49 rfl 0 0 rfl rfl rfl ?_
          refine J_icmp_ge (tg := 218) hK dX7_turn_52 rfl rfl (fun hc52 => ?_) (fun hc52 => ?_)
          · have hs6 := ip hc52 hs6
            exact J_loc [0, 1, 2, 3] rfl (hx6_218 z7 z8 z10 z11 z12 z13 z14 z15 z16 (lpx hs6 hr6))
          · have hs6 := iq hc52 hs6
            refine J_aload_n hK dX7_turn_55 rfl 0 rfl rfl ?_
            refine J_get hK fo_RX7_48 dX7_turn_56 rfl 0 0 rfl rfl rfl ?_
            refine J_iload hK dX7_turn_59 rfl 4 rfl ?_
            obtain ⟨q28, eq28, hs6⟩ := bs hs6
            refine J_aald hK dX7_turn_61 rfl 0 12 rfl rfl rfl eq28 ?_
            refine J_iconst (v := 2) hK dX7_turn_62 rfl (by decide) ?_
            obtain ⟨v29, ev29, hs6⟩ := bs hs6
            refine J_iald hK dX7_turn_63 rfl 2 q28 rfl (gridI_at (ck_ok eq28).2.2) ev29 ?_
            refine J_istore (L' := [(5, .int v29), (0, .ref (h0 0)), (1, .int p1), (2, .int z7), (3, .int z8), (4, .int z9)]) hK dX7_turn_64 rfl (by decide) rfl ?_
            refine J_aload_n hK dX7_turn_66 rfl 1 rfl rfl ?_
            refine J_aload_n hK dX7_turn_67 rfl 1 rfl rfl ?_
            refine J_get hK fo_RX7_48 dX7_turn_68 rfl 0 0 rfl rfl rfl ?_
            refine J_iload hK dX7_turn_71 rfl 5 rfl ?_
            obtain ⟨q30, eq30, hs6⟩ := bs hs6
            refine J_aald hK dX7_turn_73 rfl 0 12 rfl rfl rfl eq30 ?_
            refine J_iconst (v := 0) hK dX7_turn_74 rfl (by decide) ?_
            obtain ⟨v31, ev31, hs6⟩ := bs hs6
            refine J_iald hK dX7_turn_75 rfl 2 q30 rfl (gridI_at (ck_ok eq30).2.2) ev31 ?_
            refine J_aload_n hK dX7_turn_76 rfl 1 rfl rfl ?_
            refine J_get hK fo_RX7_48 dX7_turn_77 rfl 0 0 rfl rfl rfl ?_
            refine J_iload hK dX7_turn_80 rfl 5 rfl ?_
            obtain ⟨q32, eq32, hs6⟩ := bs hs6
            refine J_aald hK dX7_turn_82 rfl 0 12 rfl rfl rfl eq32 ?_
            refine J_iconst (v := 1) hK dX7_turn_83 rfl (by decide) ?_
            obtain ⟨v33, ev33, hs6⟩ := bs hs6
            refine J_iald hK dX7_turn_84 rfl 2 q32 rfl (gridI_at (ck_ok eq32).2.2) ev33 ?_
            refine J_iload hK dX7_turn_85 rfl 0 rfl ?_
            obtain ⟨⟨v34, ⟨g36, g37, g38, g39, g40, g41⟩⟩, e42, hs6⟩ := bs hs6
            have hs6 := un2 hs6
            have hs6 := un6 hs6
            refine J_callV (m' := 3) (ce' := 0) (sl' := 0) (gr := [gridI d r0_good 8 3 x0_good]) (gs' := fun _ => [gMd d h0 a0_kept a0_tried a0_chosen r0_rows r0_line r0_good r0_work x0_shelf x0_rowSort x0_rowSize x0_moved x0_shown x0_tape x0_tapeSize x0_refused x0_lines x0_changes x0_coins x0_goods x0_works x0_years x0_gone x0_spent x0_at x0_token x0_from x0_figures x0_fault x0_numbers x0_statements z10 g36 g37 g38 g39 g40 g41 x0_totals, gridI d r0_line 20 7 x0_line, gridI d r0_good 8 3 x0_good]) (st' := fun _ => [.int v34]) (st := []) hK dX7_turn_87 cv_RX7_279 iv_yX7_findWay (As := [.int v31, .int v33, .int v29]) (kX7_findWay _ d h0 r0_rows r0_line r0_good r0_work a0_kept a0_tried a0_chosen n x0_shelf x0_rowSort x0_rowSize x0_rows x0_moved x0_shown x0_tape x0_tapeSize x0_refused x0_lines x0_line x0_changes x0_coins x0_goods x0_good x0_works x0_work x0_years x0_gone x0_spent x0_at x0_token x0_from x0_figures x0_fault x0_numbers x0_statements z10 z11 z12 z13 z14 z15 z16 x0_totals v31 v33 v29 e42) rfl rfl (Nat.le_of_ble_eq_true rfl) (by decide) 0 0 rfl rfl rfl [0, 1] [2] rfl rfl rfl rfl [1, 2, 0] rfl (fun _ => rfl) (fun _ => rfl) rfl rfl rfl (fun _ => rfl) (fun _ => ?_)
            refine J_if_ne (tg := 110) hK dX7_turn_90 rfl rfl (fun hc90 => ?_) (fun hc90 => ?_)
            · have hs6 := iq hc90 hs6
              refine J_iload_n hK dX7_turn_110 rfl 3 rfl rfl ?_
              refine J_iload hK dX7_turn_111 rfl 0 rfl ?_
              refine J_aload_n hK dX7_turn_113 rfl 1 rfl rfl ?_
              refine J_aload_n hK dX7_turn_114 rfl 1 rfl rfl ?_
              refine J_get hK fo_RX7_48 dX7_turn_115 rfl 0 0 rfl rfl rfl ?_
              refine J_iload hK dX7_turn_118 rfl 5 rfl ?_
              obtain ⟨q43, eq43, hs6⟩ := bs hs6
              refine J_aald hK dX7_turn_120 rfl 0 12 rfl rfl rfl eq43 ?_
              refine J_iconst (v := 0) hK dX7_turn_121 rfl (by decide) ?_
              obtain ⟨v44, ev44, hs6⟩ := bs hs6
              refine J_iald hK dX7_turn_122 rfl 2 q43 rfl (gridI_at (ck_ok eq43).2.2) ev44 ?_
              obtain ⟨v45, e46, hs6⟩ := bs hs6
              refine J_callV (m' := 3) (ce' := 0) (sl' := 0) (gr := [gridI d r0_line 20 7 x0_line, gridI d r0_good 8 3 x0_good]) (gs' := fun _ => [gMd d h0 a0_kept a0_tried a0_chosen r0_rows r0_line r0_good r0_work x0_shelf x0_rowSort x0_rowSize x0_moved x0_shown x0_tape x0_tapeSize x0_refused x0_lines x0_changes x0_coins x0_goods x0_works x0_years x0_gone x0_spent x0_at x0_token x0_from x0_figures x0_fault x0_numbers x0_statements z10 g36 g37 g38 g39 g40 g41 x0_totals, gridI d r0_line 20 7 x0_line, gridI d r0_good 8 3 x0_good]) (st' := fun _ => [.int v45, .int v29, .int z7]) (st := [.int v29, .int z7]) hK dX7_turn_123 cv_RX7_270 iv_yX7_least (As := [.int v44]) (kX7_least _ d h0 r0_rows r0_line r0_good r0_work a0_kept a0_tried a0_chosen n x0_shelf x0_rowSort x0_rowSize x0_rows x0_moved x0_shown x0_tape x0_tapeSize x0_refused x0_lines x0_line x0_changes x0_coins x0_goods x0_good x0_works x0_work x0_years x0_gone x0_spent x0_at x0_token x0_from x0_figures x0_fault x0_numbers x0_statements z10 g36 g37 g38 g39 g40 g41 x0_totals v44 e46) rfl rfl (Nat.le_of_ble_eq_true rfl) (by decide) 0 0 rfl rfl rfl [0] [1, 2] rfl rfl rfl rfl [2, 0, 1] rfl (fun _ => rfl) (fun _ => rfl) rfl rfl rfl (fun _ => rfl) (fun _ => ?_)
              refine J_imul hK dX7_turn_126 rfl ?_
              refine J_iadd hK dX7_turn_127 rfl ?_
              refine J_istore_n (L' := [(2, .int (z7 + (v29 * v45))), (5, .int v29), (0, .ref (h0 0)), (1, .int p1), (3, .int z8), (4, .int z9)]) hK dX7_turn_128 rfl rfl (by decide) rfl ?_
              refine J_iconst (v := 1) hK dX7_turn_129 rfl (by decide) ?_
              refine J_istore (L' := [(6, .int (1)), (2, .int (z7 + (v29 * v45))), (5, .int v29), (0, .ref (h0 0)), (1, .int p1), (3, .int z8), (4, .int z9)]) hK dX7_turn_130 rfl (by decide) rfl ?_
              obtain ⟨e50, hl47, hs6⟩ := bs hs6
              have hx47_212 : ∀ (w51 : (Nat → Int32)), w51 = e50 → J d Φ 7 [gMd d h0 a0_kept a0_tried a0_chosen r0_rows r0_line r0_good r0_work x0_shelf x0_rowSort x0_rowSize x0_moved x0_shown x0_tape x0_tapeSize x0_refused x0_lines x0_changes x0_coins x0_goods x0_works x0_years x0_gone x0_spent x0_at x0_token x0_from x0_figures x0_fault x0_numbers x0_statements w51 g36 g37 g38 g39 g40 g41 x0_totals, gridI d r0_line 20 7 x0_line, gridI d r0_good 8 3 x0_good] 0 0 212 [(0, .ref (h0 0)), (1, .int p1), (2, .int (z7 + (v29 * v45))), (3, .int z8), (4, .int z9)] [] := by
                intro w51 he
                rw [← he] at hs6
                refine J_iinc (L' := [(4, .int (z9 + 1)), (0, .ref (h0 0)), (1, .int p1), (2, .int (z7 + (v29 * v45))), (3, .int z8)]) (v := (z9 + 1)) hK dX7_turn_212 rfl 4 rfl rfl (by decide) rfl ?_
                refine J_goto hK dX7_turn_215 (n := 46) rfl ?_
                exact J_loc [1, 2, 3, 4, 0] rfl (ih6 (z7 + (v29 * v45)) z8 (z9 + 1) w51 g36 g37 g38 g39 g40 g41 (lpc hs6 hr6))
              have lo47 : ∀ (k : Nat) (z48 : Int32) (z49 : (Nat → Int32)), lp (u2 (fX7_turn_s132 v29 g38 g39)) k (z48, z49) = some e50 → J d Φ 7 [gMd d h0 a0_kept a0_tried a0_chosen r0_rows r0_line r0_good r0_work x0_shelf x0_rowSort x0_rowSize x0_moved x0_shown x0_tape x0_tapeSize x0_refused x0_lines x0_changes x0_coins x0_goods x0_works x0_years x0_gone x0_spent x0_at x0_token x0_from x0_figures x0_fault x0_numbers x0_statements z49 g36 g37 g38 g39 g40 g41 x0_totals, gridI d r0_line 20 7 x0_line, gridI d r0_good 8 3 x0_good] 0 0 132 [(0, .ref (h0 0)), (1, .int p1), (2, .int (z7 + (v29 * v45))), (3, .int z8), (4, .int z9), (5, .int v29), (6, .int z48)] [] := by
                intro k
                induction k with
                | zero => intro z48 z49 h; cases h
                | succ k ih47 =>
                  intro z48 z49 h
                  obtain ⟨k2, rr47, hk2, hs47, hr47⟩ := lp_ok h
                  cases hk2
                  have hs47 : fX7_turn_s132 v29 g38 g39 z48 z49 = some rr47 := hs47
                  unfold fX7_turn_s132 at hs47
                  refine J_iload hK dX7_turn_132 rfl 6 rfl ?_
                  refine J_aload_n hK dX7_turn_134 rfl 0 rfl rfl ?_
                  refine J_get hK fo_RX7_267 dX7_turn_135 rfl 0 0 rfl rfl rfl ?_
                  refine J_icmp_ge (tg := 212) hK dX7_turn_138 rfl rfl (fun hc138 => ?_) (fun hc138 => ?_)
                  · have hs47 := ip hc138 hs47
                    exact J_loc [0, 1, 2, 3, 4] rfl (hx47_212 z49 (lpx hs47 hr47))
                  · have hs47 := iq hc138 hs47
                    refine J_aload_n hK dX7_turn_141 rfl 0 rfl rfl ?_
                    refine J_get hK fo_RX7_67 dX7_turn_142 rfl 0 0 rfl rfl rfl ?_
                    refine J_iload hK dX7_turn_145 rfl 6 rfl ?_
                    obtain ⟨v52, ev52, hs47⟩ := bs hs47
                    refine J_iald hK dX7_turn_147 rfl 0 17 rfl rfl ev52 ?_
                    refine J_iconst (v := 3) hK dX7_turn_148 rfl (by decide) ?_
                    refine J_icmp_lt (tg := 206) hK dX7_turn_149 rfl rfl (fun hc149 => ?_) (fun hc149 => ?_)
                    · have hs47 := ip hc149 hs47
                      refine J_iinc (L' := [(6, .int (z48 + 1)), (0, .ref (h0 0)), (1, .int p1), (2, .int (z7 + (v29 * v45))), (3, .int z8), (4, .int z9), (5, .int v29)]) (v := (z48 + 1)) hK dX7_turn_206 rfl 6 rfl rfl (by decide) rfl ?_
                      refine J_goto hK dX7_turn_209 (n := 132) rfl ?_
                      exact J_loc [1, 2, 3, 4, 5, 6, 0] rfl (ih47 (z48 + 1) z49 (lpc hs47 hr47))
                    · have hs47 := iq hc149 hs47
                      refine J_aload_n hK dX7_turn_152 rfl 0 rfl rfl ?_
                      refine J_get hK fo_RX7_61 dX7_turn_153 rfl 0 0 rfl rfl rfl ?_
                      refine J_aload_n hK dX7_turn_156 rfl 0 rfl rfl ?_
                      refine J_get hK fo_RX7_67 dX7_turn_157 rfl 0 0 rfl rfl rfl ?_
                      refine J_iload hK dX7_turn_160 rfl 6 rfl ?_
                      obtain ⟨v53, ev53, hs47⟩ := bs hs47
                      refine J_iald hK dX7_turn_162 rfl 0 17 rfl rfl ev53 ?_
                      refine J_iconst (v := 3) hK dX7_turn_163 rfl (by decide) ?_
                      refine J_isub hK dX7_turn_164 rfl ?_
                      refine J_aload_n hK dX7_turn_165 rfl 0 rfl rfl ?_
                      refine J_get hK fo_RX7_61 dX7_turn_166 rfl 0 0 rfl rfl rfl ?_
                      refine J_aload_n hK dX7_turn_169 rfl 0 rfl rfl ?_
                      refine J_get hK fo_RX7_67 dX7_turn_170 rfl 0 0 rfl rfl rfl ?_
                      refine J_iload hK dX7_turn_173 rfl 6 rfl ?_
                      obtain ⟨v54, ev54, hs47⟩ := bs hs47
                      refine J_iald hK dX7_turn_175 rfl 0 17 rfl rfl ev54 ?_
                      refine J_iconst (v := 3) hK dX7_turn_176 rfl (by decide) ?_
                      refine J_isub hK dX7_turn_177 rfl ?_
                      obtain ⟨v55, ev55, hs47⟩ := bs hs47
                      refine J_iald hK dX7_turn_178 rfl 0 15 rfl rfl ev55 ?_
                      refine J_iload hK dX7_turn_179 rfl 5 rfl ?_
                      refine J_icmp_ge (tg := 188) hK dX7_turn_181 rfl rfl (fun hc181 => ?_) (fun hc181 => ?_)
                      · have hs47 := ip hc181 hs47
                        refine J_aload_n hK dX7_turn_188 rfl 0 rfl rfl ?_
                        refine J_get hK fo_RX7_61 dX7_turn_189 rfl 0 0 rfl rfl rfl ?_
                        refine J_aload_n hK dX7_turn_192 rfl 0 rfl rfl ?_
                        refine J_get hK fo_RX7_67 dX7_turn_193 rfl 0 0 rfl rfl rfl ?_
                        refine J_iload hK dX7_turn_196 rfl 6 rfl ?_
                        obtain ⟨v56, ev56, hs47⟩ := bs hs47
                        refine J_iald hK dX7_turn_198 rfl 0 17 rfl rfl ev56 ?_
                        refine J_iconst (v := 3) hK dX7_turn_199 rfl (by decide) ?_
                        refine J_isub hK dX7_turn_200 rfl ?_
                        obtain ⟨v57, ev57, hs47⟩ := bs hs47
                        refine J_iald hK dX7_turn_201 rfl 0 15 rfl rfl ev57 ?_
                        refine J_iload hK dX7_turn_202 rfl 5 rfl ?_
                        refine J_isub hK dX7_turn_204 rfl ?_
                        obtain ⟨f58, ef58, hs47⟩ := bs hs47
                        refine J_iast (g' := gMd d h0 a0_kept a0_tried a0_chosen r0_rows r0_line r0_good r0_work x0_shelf x0_rowSort x0_rowSize x0_moved x0_shown x0_tape x0_tapeSize x0_refused x0_lines x0_changes x0_coins x0_goods x0_works x0_years x0_gone x0_spent x0_at x0_token x0_from x0_figures x0_fault x0_numbers x0_statements f58 g36 g37 g38 g39 g40 g41 x0_totals) (gs' := [gMd d h0 a0_kept a0_tried a0_chosen r0_rows r0_line r0_good r0_work x0_shelf x0_rowSort x0_rowSize x0_moved x0_shown x0_tape x0_tapeSize x0_refused x0_lines x0_changes x0_coins x0_goods x0_works x0_years x0_gone x0_spent x0_at x0_token x0_from x0_figures x0_fault x0_numbers x0_statements f58 g36 g37 g38 g39 g40 g41 x0_totals, gridI d r0_line 20 7 x0_line, gridI d r0_good 8 3 x0_good]) hK dX7_turn_205 rfl 0 15 rfl rfl ef58 rfl rfl ?_
                        refine J_iinc (L' := [(6, .int (z48 + 1)), (0, .ref (h0 0)), (1, .int p1), (2, .int (z7 + (v29 * v45))), (3, .int z8), (4, .int z9), (5, .int v29)]) (v := (z48 + 1)) hK dX7_turn_206 rfl 6 rfl rfl (by decide) rfl ?_
                        refine J_goto hK dX7_turn_209 (n := 132) rfl ?_
                        exact J_loc [1, 2, 3, 4, 5, 6, 0] rfl (ih47 (z48 + 1) f58 (lpc hs47 hr47))
                      · have hs47 := iq hc181 hs47
                        refine J_iconst (v := 0) hK dX7_turn_184 rfl (by decide) ?_
                        refine J_goto hK dX7_turn_185 (n := 205) rfl ?_
                        obtain ⟨f59, ef59, hs47⟩ := bs hs47
                        refine J_iast (g' := gMd d h0 a0_kept a0_tried a0_chosen r0_rows r0_line r0_good r0_work x0_shelf x0_rowSort x0_rowSize x0_moved x0_shown x0_tape x0_tapeSize x0_refused x0_lines x0_changes x0_coins x0_goods x0_works x0_years x0_gone x0_spent x0_at x0_token x0_from x0_figures x0_fault x0_numbers x0_statements f59 g36 g37 g38 g39 g40 g41 x0_totals) (gs' := [gMd d h0 a0_kept a0_tried a0_chosen r0_rows r0_line r0_good r0_work x0_shelf x0_rowSort x0_rowSize x0_moved x0_shown x0_tape x0_tapeSize x0_refused x0_lines x0_changes x0_coins x0_goods x0_works x0_years x0_gone x0_spent x0_at x0_token x0_from x0_figures x0_fault x0_numbers x0_statements f59 g36 g37 g38 g39 g40 g41 x0_totals, gridI d r0_line 20 7 x0_line, gridI d r0_good 8 3 x0_good]) hK dX7_turn_205 rfl 0 15 rfl rfl ef59 rfl rfl ?_
                        refine J_iinc (L' := [(6, .int (z48 + 1)), (0, .ref (h0 0)), (1, .int p1), (2, .int (z7 + (v29 * v45))), (3, .int z8), (4, .int z9), (5, .int v29)]) (v := (z48 + 1)) hK dX7_turn_206 rfl 6 rfl rfl (by decide) rfl ?_
                        refine J_goto hK dX7_turn_209 (n := 132) rfl ?_
                        exact J_loc [1, 2, 3, 4, 5, 6, 0] rfl (ih47 (z48 + 1) f59 (lpc hs47 hr47))
              exact J_loc [3, 4, 1, 5, 6, 2, 0] rfl (lo47 n (1) z10 hl47)
            · have hs6 := ip hc90 hs6
              refine J_iload_n hK dX7_turn_93 rfl 3 rfl rfl ?_
              refine J_sipush (v := 999) hK dX7_turn_94 rfl (by decide) ?_
              refine J_iload hK dX7_turn_97 rfl 0 rfl ?_
              refine J_imul hK dX7_turn_99 rfl ?_
              refine J_iadd hK dX7_turn_100 rfl ?_
              refine J_istore_n (L' := [(2, .int (z7 + (999 * v29))), (5, .int v29), (0, .ref (h0 0)), (1, .int p1), (3, .int z8), (4, .int z9)]) hK dX7_turn_101 rfl rfl (by decide) rfl ?_
              refine J_iload_n hK dX7_turn_102 rfl 4 rfl rfl ?_
              refine J_iload hK dX7_turn_103 rfl 1 rfl ?_
              refine J_iadd hK dX7_turn_105 rfl ?_
              refine J_istore_n (L' := [(3, .int (z8 + v29)), (2, .int (z7 + (999 * v29))), (5, .int v29), (0, .ref (h0 0)), (1, .int p1), (4, .int z9)]) hK dX7_turn_106 rfl rfl (by decide) rfl ?_
              refine J_goto hK dX7_turn_107 (n := 212) rfl ?_
              refine J_iinc (L' := [(4, .int (z9 + 1)), (3, .int (z8 + v29)), (2, .int (z7 + (999 * v29))), (5, .int v29), (0, .ref (h0 0)), (1, .int p1)]) (v := (z9 + 1)) hK dX7_turn_212 rfl 5 rfl rfl (by decide) rfl ?_
              refine J_goto hK dX7_turn_215 (n := 46) rfl ?_
              exact J_loc [4, 5, 2, 1, 0] rfl (ih6 (z7 + (999 * v29)) (z8 + v29) (z9 + 1) z10 g36 g37 g38 g39 g40 g41 (lpc hs6 hr6))
      exact J_loc [3, 4, 2, 1, 0] rfl (lo6 n (0) (0) (0) g4 x0_far x0_tons x0_way x0_steps x0_met x0_queue hl6)
    refine J_icmp_le (tg := 35) hK dX7_turn_6 rfl rfl (fun hc6 => ?_) (fun hc6 => ?_)
    · have hf := ip hc6 hf
      exact (j35  hf)
    · have hf := iq hc6 hf
      refine J_iload_n hK dX7_turn_9 rfl 1 rfl rfl ?_
      refine J_i2l hK dX7_turn_10 rfl ?_
      refine J_ldc2 (v := (10 : Int64)) hK dX7_turn_11 rfl wk_RX7_168 ?_
      refine J_bipush (v := 9) hK dX7_turn_14 rfl (by decide) ?_
      refine J_aload_n hK dX7_turn_16 rfl 0 rfl rfl ?_
      refine J_get hK fo_RX7_82 dX7_turn_17 rfl 0 0 rfl rfl rfl ?_
      refine J_iadd hK dX7_turn_20 rfl ?_
      refine J_i2l hK dX7_turn_21 rfl ?_
      obtain ⟨v60, e61, hf⟩ := bs hf
      refine J_callS (m' := 3) (ce' := 0) (sl' := 0) (gr := [gMd d h0 a0_kept a0_tried a0_chosen r0_rows r0_line r0_good r0_work x0_shelf x0_rowSort x0_rowSize x0_moved x0_shown x0_tape x0_tapeSize x0_refused x0_lines x0_changes x0_coins x0_goods x0_works x0_years x0_gone x0_spent x0_at x0_token x0_from x0_figures x0_fault x0_numbers x0_statements x0_left x0_far x0_tons x0_way x0_steps x0_met x0_queue x0_totals, gridI d r0_line 20 7 x0_line, gridI d r0_good 8 3 x0_good]) (gs' := fun _ => [gMd d h0 a0_kept a0_tried a0_chosen r0_rows r0_line r0_good r0_work x0_shelf x0_rowSort x0_rowSize x0_moved x0_shown x0_tape x0_tapeSize x0_refused x0_lines x0_changes x0_coins x0_goods x0_works x0_years x0_gone x0_spent x0_at x0_token x0_from x0_figures x0_fault x0_numbers x0_statements x0_left x0_far x0_tons x0_way x0_steps x0_met x0_queue x0_totals, gridI d r0_line 20 7 x0_line, gridI d r0_good 8 3 x0_good]) (st' := fun _ => [.int v60]) (st := []) hK dX7_turn_22 cv_RX7_78 ws_yX7_in (As := [.long ((p1).toInt64), .long (10 : Int64), .long (((9 + x0_lines)).toInt64)]) (kX7_in _ d ((p1).toInt64) (10 : Int64) (((9 + x0_lines)).toInt64) e61) rfl rfl (Nat.le_of_ble_eq_true rfl) (by decide) [] [0, 1, 2] rfl rfl rfl rfl [0, 1, 2] rfl (fun _ => rfl) (fun _ => rfl) rfl rfl rfl (fun _ => rfl) (fun _ => ?_)
      refine J_if_ne (tg := 35) hK dX7_turn_25 rfl rfl (fun hc25 => ?_) (fun hc25 => ?_)
      · have hf := iq hc25 hf
        exact (j35  hf)
      · have hf := ip hc25 hf
        refine J_aload_n hK dX7_turn_28 rfl 0 rfl rfl ?_
        refine J_bipush (v := (-2)) hK dX7_turn_29 rfl (by decide) ?_
        obtain ⟨⟨v62, g63⟩, e64, hf⟩ := bs hf
        have hf := un2 hf
        refine J_callV (m' := 3) (ce' := 0) (sl' := 0) (gr := [gridI d r0_line 20 7 x0_line, gridI d r0_good 8 3 x0_good]) (gs' := fun _ => [gMd d h0 a0_kept a0_tried a0_chosen r0_rows r0_line r0_good r0_work x0_shelf x0_rowSort x0_rowSize x0_moved x0_shown x0_tape x0_tapeSize g63 x0_lines x0_changes x0_coins x0_goods x0_works x0_years x0_gone x0_spent x0_at x0_token x0_from x0_figures x0_fault x0_numbers x0_statements x0_left x0_far x0_tons x0_way x0_steps x0_met x0_queue x0_totals, gridI d r0_line 20 7 x0_line, gridI d r0_good 8 3 x0_good]) (st' := fun _ => [.int v62]) (st := []) hK dX7_turn_31 cv_RX7_94 iv_yX7_refuse (As := [.int (-2)]) (kX7_refuse _ d h0 r0_rows r0_line r0_good r0_work a0_kept a0_tried a0_chosen x0_shelf x0_rowSort x0_rowSize x0_rows x0_moved x0_shown x0_tape x0_tapeSize x0_refused x0_lines x0_line x0_changes x0_coins x0_goods x0_good x0_works x0_work x0_years x0_gone x0_spent x0_at x0_token x0_from x0_figures x0_fault x0_numbers x0_statements x0_left x0_far x0_tons x0_way x0_steps x0_met x0_queue x0_totals (-2) e64) rfl rfl (Nat.le_of_ble_eq_true rfl) (by decide) 0 0 rfl rfl rfl [0] [1, 2] rfl rfl rfl rfl [2, 0, 1] rfl (fun _ => rfl) (fun _ => rfl) rfl rfl rfl (fun _ => rfl) (fun _ => ?_)
        obtain rfl := Option.some.inj hf
        exact J_iret hK hR dX7_turn_34 () rfl (by decide) (by decide)


set_option maxHeartbeats 4000000 in
set_option maxRecDepth 100000 in
theorem kX7_neverNt (l : Launch) (d : DT) (h0 : Nat → Nat) (r0_rows : Nat → Nat) (r0_line : Nat → Nat) (r0_good : Nat → Nat) (r0_work : Nat → Nat) (a0_kept : Option Nat) (a0_chosen : Option Nat) (n : Nat) (x0_shelf : (Nat → Int32)) (x0_rowSort : (Nat → Int32)) (x0_rowSize : (Nat → Int32)) (x0_rows : (Nat → Nat → Int64)) (x0_moved : (Nat → Int64)) (x0_shown : (Nat → Int32)) (x0_tape : (Nat → Int32)) (x0_tapeSize : Int32) (x0_refused : (Nat → Int32)) (x0_lines : Int32) (x0_line : (Nat → Nat → Int32)) (x0_changes : (Nat → Int32)) (x0_coins : (Nat → Int32)) (x0_goods : Int32) (x0_good : (Nat → Nat → Int32)) (x0_works : Int32) (x0_work : (Nat → Nat → Int32)) (x0_years : Int32) (x0_gone : Int32) (x0_spent : Int32) (x0_at : Int32) (x0_token : Int32) (x0_from : Int32) (x0_figures : Int64) (x0_fault : Int32) (x0_numbers : (Nat → Int32)) (x0_statements : Int32) (x0_left : (Nat → Int32)) (x0_far : (Nat → Int32)) (x0_tons : Int32) (x0_way : (Nat → Int32)) (x0_steps : Int32) (x0_met : Int64) (x0_queue : (Nat → Int32)) (x0_totals : (Nat → Int32))  {out : Int32 × (Nat → Int32) × (Int32 × (Nat → Nat → Int32) × (Nat → Int32) × (Nat → Int32) × Int32 × (Nat → Nat → Int32) × Int32 × (Nat → Nat → Int32) × Int32 × Int32 × Int32 × (Nat → Int32) × (Nat → Int32) × Int32)} (hf : fX7_never n (x0_shelf, x0_rowSort, x0_rowSize, x0_rows, x0_moved, x0_shown, x0_tape, x0_tapeSize, x0_refused, x0_lines, x0_line, x0_changes, x0_coins, x0_goods, x0_good, x0_works, x0_work, x0_years, x0_gone, x0_spent, x0_at, x0_token, x0_from, x0_figures, x0_fault, x0_numbers, x0_statements, x0_left, x0_far, x0_tons, x0_way, x0_steps, x0_met, x0_queue, x0_totals) ((fun _ => 0), (fun _ => 0), (fun _ => 0), (fun _ _ => 0), (fun _ => 0), (fun _ => 0), (fun _ => 0), 0, (fun _ => 0), 0, (fun _ _ => 0), (fillV 12 9 (fun _ => 0)), (va_up (va_up (va_up (fun _ => 0) 0 1) 1 1) 2 1), 0, (fun _ _ => 0), 0, (fun _ _ => 0), 10, 0, 0, 0, 0, 0, 0, 0, (fun _ => 0), 0, (fun _ => 0), (fun _ => 0), 0, (fun _ => 0), 0, 0, (fun _ => 0), (fun _ => 0)) = some out) : Ct l d yX7_never cX7_never 7 (some .int) { frames := 5, cells := 63, slots := 1204, locals := 109 } [.ref (h0 0)] [gMd d h0 a0_kept none a0_chosen r0_rows r0_line r0_good r0_work x0_shelf x0_rowSort x0_rowSize x0_moved x0_shown x0_tape x0_tapeSize x0_refused x0_lines x0_changes x0_coins x0_goods x0_works x0_years x0_gone x0_spent x0_at x0_token x0_from x0_figures x0_fault x0_numbers x0_statements x0_left x0_far x0_tons x0_way x0_steps x0_met x0_queue x0_totals, gridI d r0_line 20 7 x0_line, gridI d r0_good 8 3 x0_good, gridI d r0_work 7 5 x0_work] (fun u : {q : Option AdM // q = none → ((fun _ => 0), (fun _ => 0), (fun _ => 0), (fun _ _ => 0), (fun _ => 0), (fun _ => 0), (fun _ => 0), 0, (fun _ => 0), out.2.2.1, out.2.2.2.1, out.2.2.2.2.1, out.2.2.2.2.2.1, out.2.2.2.2.2.2.1, out.2.2.2.2.2.2.2.1, out.2.2.2.2.2.2.2.2.1, out.2.2.2.2.2.2.2.2.2.1, out.2.2.2.2.2.2.2.2.2.2.1, out.2.2.2.2.2.2.2.2.2.2.2.1, out.2.2.2.2.2.2.2.2.2.2.2.2.1, 0, 0, 0, 0, 0, (fun _ => 0), 0, out.2.2.2.2.2.2.2.2.2.2.2.2.2.1, out.2.2.2.2.2.2.2.2.2.2.2.2.2.2.1, out.2.2.2.2.2.2.2.2.2.2.2.2.2.2.2, (fun _ => 0), 0, 0, (fun _ => 0), (fun _ => 0)) = M0} => (some (.int out.1), [gMd d h0 a0_kept (bs_ u.1) a0_chosen r0_rows r0_line r0_good r0_work x0_shelf x0_rowSort x0_rowSize x0_moved x0_shown x0_tape x0_tapeSize x0_refused x0_lines x0_changes x0_coins x0_goods x0_works x0_years x0_gone x0_spent x0_at x0_token x0_from x0_figures x0_fault x0_numbers x0_statements x0_left x0_far x0_tons x0_way x0_steps x0_met x0_queue (out.2.1), gridI d r0_line 20 7 x0_line, gridI d r0_good 8 3 x0_good, gridI d r0_work 7 5 x0_work, oMd d (u.1) none none none (fun _ => 0) (fun _ => 0) (fun _ => 0) (fun _ _ => 0) (fun _ => 0) (fun _ => 0) (fun _ => 0) (0) (fun _ => 0) (out.2.2.1) (out.2.2.2.1) (out.2.2.2.2.1) (out.2.2.2.2.2.1) (out.2.2.2.2.2.2.1) (out.2.2.2.2.2.2.2.1) (out.2.2.2.2.2.2.2.2.1) (out.2.2.2.2.2.2.2.2.2.1) (out.2.2.2.2.2.2.2.2.2.2.1) (out.2.2.2.2.2.2.2.2.2.2.2.1) (out.2.2.2.2.2.2.2.2.2.2.2.2.1) (0) (0) (0) (0) (0) (fun _ => 0) (0) (out.2.2.2.2.2.2.2.2.2.2.2.2.2.1) (out.2.2.2.2.2.2.2.2.2.2.2.2.2.2.1) (out.2.2.2.2.2.2.2.2.2.2.2.2.2.2.2) (fun _ => 0) (0) (0) (fun _ => 0) (fun _ => 0)])) := by
  refine Ct.of (by decide) (Nat.le_of_ble_eq_true rfl) ?_
  intro Φ hl hK hR
  subst hl
  have hK : Ok d Φ RX7 "never" cX7_never 7 (some .int) { frames := 5, cells := 63, slots := 1204, locals := 109 } := hK
  unfold fX7_never at hf
  have hf := un35 hf
  have hf := un35 hf
  show J d Φ 7 [gMd d h0 a0_kept none a0_chosen r0_rows r0_line r0_good r0_work x0_shelf x0_rowSort x0_rowSize x0_moved x0_shown x0_tape x0_tapeSize x0_refused x0_lines x0_changes x0_coins x0_goods x0_works x0_years x0_gone x0_spent x0_at x0_token x0_from x0_figures x0_fault x0_numbers x0_statements x0_left x0_far x0_tons x0_way x0_steps x0_met x0_queue x0_totals, gridI d r0_line 20 7 x0_line, gridI d r0_good 8 3 x0_good, gridI d r0_work 7 5 x0_work] 0 0 0 [(0, .ref (h0 0))] []
  refine J_iconst (v := 0) hK dX7_never_0 rfl (by decide) ?_
  refine J_istore_n (L' := [(1, .int (0)), (0, .ref (h0 0))]) hK dX7_never_1 rfl rfl (by decide) rfl ?_
  refine J_iconst (v := 0) hK dX7_never_2 rfl (by decide) ?_
  refine J_istore_n (L' := [(2, .int (0)), (1, .int (0)), (0, .ref (h0 0))]) hK dX7_never_3 rfl rfl (by decide) rfl ?_
  obtain ⟨e4, hl1, hf⟩ := bs hf
  have hx1_40 : ∀ (w5 : Int32), w5 = e4 → J d Φ 7 [gMd d h0 a0_kept none a0_chosen r0_rows r0_line r0_good r0_work x0_shelf x0_rowSort x0_rowSize x0_moved x0_shown x0_tape x0_tapeSize x0_refused x0_lines x0_changes x0_coins x0_goods x0_works x0_years x0_gone x0_spent x0_at x0_token x0_from x0_figures x0_fault x0_numbers x0_statements x0_left x0_far x0_tons x0_way x0_steps x0_met x0_queue x0_totals, gridI d r0_line 20 7 x0_line, gridI d r0_good 8 3 x0_good, gridI d r0_work 7 5 x0_work] 0 0 40 [(0, .ref (h0 0)), (1, .int w5)] [] := by
    intro w5 he
    rw [← he] at hf
    refine J_iconst (v := 0) hK dX7_never_40 rfl (by decide) ?_
    refine J_istore_n (L' := [(2, .int (0)), (0, .ref (h0 0)), (1, .int w5)]) hK dX7_never_41 rfl rfl (by decide) rfl ?_
    obtain ⟨e23, hl6, hf⟩ := bs hf
    have hx6_79P : ∀ (uL5 : AdM) (w24 : (Nat → Int32)) (w25 : Int32) (w26 : (Nat → Nat → Int32)) (w27 : (Nat → Int32)) (w28 : (Nat → Int32)) (w29 : Int32) (w30 : (Nat → Nat → Int32)) (w31 : Int32) (w32 : (Nat → Nat → Int32)) (w33 : Int32) (w34 : Int32) (w35 : Int32) (w36 : (Nat → Int32)) (w37 : (Nat → Int32)) (w38 : Int32), (w24, w25, w26, w27, w28, w29, w30, w31, w32, w33, w34, w35, w36, w37, w38) = e23 → J d Φ 7 [gMd d h0 a0_kept (some (uL5.1 0)) a0_chosen r0_rows r0_line r0_good r0_work x0_shelf x0_rowSort x0_rowSize x0_moved x0_shown x0_tape x0_tapeSize x0_refused x0_lines x0_changes x0_coins x0_goods x0_works x0_years x0_gone x0_spent x0_at x0_token x0_from x0_figures x0_fault x0_numbers x0_statements x0_left x0_far x0_tons x0_way x0_steps x0_met x0_queue w24, gridI d r0_line 20 7 x0_line, gridI d r0_good 8 3 x0_good, gridI d r0_work 7 5 x0_work, gMd d uL5.1 none none none uL5.2.1 uL5.2.2.1 uL5.2.2.2.1 uL5.2.2.2.2 (fun _ => 0) (fun _ => 0) (fun _ => 0) (fun _ => 0) (fun _ => 0) (fun _ => 0) (0) (fun _ => 0) w25 w27 w28 w29 w31 w33 w34 w35 (0) (0) (0) (0) (0) (fun _ => 0) (0) w36 w37 w38 (fun _ => 0) (0) (0) (fun _ => 0) (fun _ => 0), gridJ d uL5.2.1 8 40 (fun _ _ => 0), gridI d uL5.2.2.1 20 7 w26, gridI d uL5.2.2.2.1 8 3 w30, gridI d uL5.2.2.2.2 7 5 w32] 63 1204 79 [(0, .ref (h0 0)), (1, .int w5)] [] := by
      intro uL5 w24 w25 w26 w27 w28 w29 w30 w31 w32 w33 w34 w35 w36 w37 w38 he
      rw [← he] at hf
      have hf := un15 hf
      refine J_iconst (v := 0) hK dX7_never_79 rfl (by decide) ?_
      refine J_istore_n (L' := [(2, .int (0)), (0, .ref (h0 0)), (1, .int w5)]) hK dX7_never_80 rfl rfl (by decide) rfl ?_
      refine J_iconst (v := 0) hK dX7_never_81 rfl (by decide) ?_
      refine J_istore_n (L' := [(3, .int (0)), (2, .int (0)), (0, .ref (h0 0)), (1, .int w5)]) hK dX7_never_82 rfl rfl (by decide) rfl ?_
      obtain ⟨e42, hl39, hf⟩ := bs hf
      have hx39_221 : ∀ (w43 : Int32), w43 = e42 → J d Φ 7 [gMd d h0 a0_kept (some (uL5.1 0)) a0_chosen r0_rows r0_line r0_good r0_work x0_shelf x0_rowSort x0_rowSize x0_moved x0_shown x0_tape x0_tapeSize x0_refused x0_lines x0_changes x0_coins x0_goods x0_works x0_years x0_gone x0_spent x0_at x0_token x0_from x0_figures x0_fault x0_numbers x0_statements x0_left x0_far x0_tons x0_way x0_steps x0_met x0_queue w24, gridI d r0_line 20 7 x0_line, gridI d r0_good 8 3 x0_good, gridI d r0_work 7 5 x0_work, gMd d uL5.1 none none none uL5.2.1 uL5.2.2.1 uL5.2.2.2.1 uL5.2.2.2.2 (fun _ => 0) (fun _ => 0) (fun _ => 0) (fun _ => 0) (fun _ => 0) (fun _ => 0) (0) (fun _ => 0) w25 w27 w28 w29 w31 w33 w34 w35 (0) (0) (0) (0) (0) (fun _ => 0) (0) w36 w37 w38 (fun _ => 0) (0) (0) (fun _ => 0) (fun _ => 0), gridJ d uL5.2.1 8 40 (fun _ _ => 0), gridI d uL5.2.2.1 20 7 w26, gridI d uL5.2.2.2.1 8 3 w30, gridI d uL5.2.2.2.2 7 5 w32] 63 1204 221 [(2, .int w43)] [] := by
        intro w43 he
        rw [← he] at hf
        refine J_iload_n hK dX7_never_221 rfl 0 rfl rfl ?_
        obtain rfl := Option.some.inj hf
        refine J_close (l := sMd d uL5 none none none (fun _ => 0) (fun _ => 0) (fun _ => 0) (fun _ _ => 0) (fun _ => 0) (fun _ => 0) (fun _ => 0) (0) (fun _ => 0) w25 w26 w27 w28 w29 w30 w31 w32 w33 w34 w35 (0) (0) (0) (0) (0) (fun _ => 0) (0) w36 w37 w38 (fun _ => 0) (0) (0) (fun _ => 0) (fun _ => 0)) (gs2 := [gMd d h0 a0_kept (some (uL5.1 0)) a0_chosen r0_rows r0_line r0_good r0_work x0_shelf x0_rowSort x0_rowSize x0_moved x0_shown x0_tape x0_tapeSize x0_refused x0_lines x0_changes x0_coins x0_goods x0_works x0_years x0_gone x0_spent x0_at x0_token x0_from x0_figures x0_fault x0_numbers x0_statements x0_left x0_far x0_tons x0_way x0_steps x0_met x0_queue w24, gridI d r0_line 20 7 x0_line, gridI d r0_good 8 3 x0_good, gridI d r0_work 7 5 x0_work, oMd d (some uL5) none none none (fun _ => 0) (fun _ => 0) (fun _ => 0) (fun _ _ => 0) (fun _ => 0) (fun _ => 0) (fun _ => 0) (0) (fun _ => 0) w25 w26 w27 w28 w29 w30 w31 w32 w33 w34 w35 (0) (0) (0) (0) (0) (fun _ => 0) (0) w36 w37 w38 (fun _ => 0) (0) (0) (fun _ => 0) (fun _ => 0)]) 4 rfl rfl ?_
        exact J_iret hK hR dX7_never_222 ⟨some uL5, fun h => by cases h⟩ rfl (by decide) (by decide)
      have lo39 : ∀ (k : Nat) (z40 : Int32) (z41 : Int32), lp (u2 (fX7_never_s83 n x0_works x0_work w5 w24)) k (z40, z41) = some e42 → J d Φ 7 [gMd d h0 a0_kept (some (uL5.1 0)) a0_chosen r0_rows r0_line r0_good r0_work x0_shelf x0_rowSort x0_rowSize x0_moved x0_shown x0_tape x0_tapeSize x0_refused x0_lines x0_changes x0_coins x0_goods x0_works x0_years x0_gone x0_spent x0_at x0_token x0_from x0_figures x0_fault x0_numbers x0_statements x0_left x0_far x0_tons x0_way x0_steps x0_met x0_queue w24, gridI d r0_line 20 7 x0_line, gridI d r0_good 8 3 x0_good, gridI d r0_work 7 5 x0_work, gMd d uL5.1 none none none uL5.2.1 uL5.2.2.1 uL5.2.2.2.1 uL5.2.2.2.2 (fun _ => 0) (fun _ => 0) (fun _ => 0) (fun _ => 0) (fun _ => 0) (fun _ => 0) (0) (fun _ => 0) w25 w27 w28 w29 w31 w33 w34 w35 (0) (0) (0) (0) (0) (fun _ => 0) (0) w36 w37 w38 (fun _ => 0) (0) (0) (fun _ => 0) (fun _ => 0), gridJ d uL5.2.1 8 40 (fun _ _ => 0), gridI d uL5.2.2.1 20 7 w26, gridI d uL5.2.2.2.1 8 3 w30, gridI d uL5.2.2.2.2 7 5 w32] 63 1204 83 [(0, .ref (h0 0)), (1, .int w5), (2, .int z40), (3, .int z41)] [] := by
        intro k
        induction k with
        | zero => intro z40 z41 h; cases h
        | succ k ih39 =>
          intro z40 z41 h
          obtain ⟨k2, rr39, hk2, hs39, hr39⟩ := lp_ok h
          cases hk2
          have hs39 : fX7_never_s83 n x0_works x0_work w5 w24 z40 z41 = some rr39 := hs39
          unfold fX7_never_s83 at hs39
          refine J_iload_n hK dX7_never_83 rfl 3 rfl rfl ?_
          refine J_aload_n hK dX7_never_84 rfl 0 rfl rfl ?_
          refine J_get hK fo_RX7_85 dX7_never_85 rfl 0 0 rfl rfl rfl ?_
          refine J_icmp_ge (tg := 221) hK dX7_never_88 rfl rfl (fun hc88 => ?_) (fun hc88 => ?_)
          · have hs39 := ip hc88 hs39
            exact J_loc [2] rfl (hx39_221 z40 (lpx hs39 hr39))
          · have hs39 := iq hc88 hs39
            refine J_aload_n hK dX7_never_91 rfl 0 rfl rfl ?_
            refine J_get hK fo_RX7_51 dX7_never_92 rfl 0 0 rfl rfl rfl ?_
            refine J_iload_n hK dX7_never_95 rfl 3 rfl rfl ?_
            obtain ⟨q44, eq44, hs39⟩ := bs hs39
            refine J_aald hK dX7_never_96 rfl 0 13 rfl rfl rfl eq44 ?_
            refine J_iconst (v := 4) hK dX7_never_97 rfl (by decide) ?_
            obtain ⟨v45, ev45, hs39⟩ := bs hs39
            refine J_iald hK dX7_never_98 rfl 3 q44 rfl (gridI_at (ck_ok eq44).2.2) ev45 ?_
            have j107 : ∀ (y46 : Int32), fX7_never_j107 n x0_works x0_work w5 w24 z40 z41 y46 = some rr39 → J d Φ 7 [gMd d h0 a0_kept (some (uL5.1 0)) a0_chosen r0_rows r0_line r0_good r0_work x0_shelf x0_rowSort x0_rowSize x0_moved x0_shown x0_tape x0_tapeSize x0_refused x0_lines x0_changes x0_coins x0_goods x0_works x0_years x0_gone x0_spent x0_at x0_token x0_from x0_figures x0_fault x0_numbers x0_statements x0_left x0_far x0_tons x0_way x0_steps x0_met x0_queue w24, gridI d r0_line 20 7 x0_line, gridI d r0_good 8 3 x0_good, gridI d r0_work 7 5 x0_work, gMd d uL5.1 none none none uL5.2.1 uL5.2.2.1 uL5.2.2.2.1 uL5.2.2.2.2 (fun _ => 0) (fun _ => 0) (fun _ => 0) (fun _ => 0) (fun _ => 0) (fun _ => 0) (0) (fun _ => 0) w25 w27 w28 w29 w31 w33 w34 w35 (0) (0) (0) (0) (0) (fun _ => 0) (0) w36 w37 w38 (fun _ => 0) (0) (0) (fun _ => 0) (fun _ => 0), gridJ d uL5.2.1 8 40 (fun _ _ => 0), gridI d uL5.2.2.1 20 7 w26, gridI d uL5.2.2.2.1 8 3 w30, gridI d uL5.2.2.2.2 7 5 w32] 63 1204 107 [(0, .ref (h0 0)), (1, .int w5), (2, .int z40), (3, .int z41)] [.int y46] := by
              intro y46 hs39
              unfold fX7_never_j107 at hs39
              refine J_istore (L' := [(4, .int y46), (0, .ref (h0 0)), (1, .int w5), (2, .int z40), (3, .int z41)]) hK dX7_never_107 rfl (by decide) rfl ?_
              refine J_iconst (v := 0) hK dX7_never_109 rfl (by decide) ?_
              refine J_istore (L' := [(5, .int (0)), (4, .int y46), (0, .ref (h0 0)), (1, .int w5), (2, .int z40), (3, .int z41)]) hK dX7_never_110 rfl (by decide) rfl ?_
              obtain ⟨e50, hl47, hs39⟩ := bs hs39
              have hx47_200 : ∀ (w51 : Int32), w51 = e50 → J d Φ 7 [gMd d h0 a0_kept (some (uL5.1 0)) a0_chosen r0_rows r0_line r0_good r0_work x0_shelf x0_rowSort x0_rowSize x0_moved x0_shown x0_tape x0_tapeSize x0_refused x0_lines x0_changes x0_coins x0_goods x0_works x0_years x0_gone x0_spent x0_at x0_token x0_from x0_figures x0_fault x0_numbers x0_statements x0_left x0_far x0_tons x0_way x0_steps x0_met x0_queue w24, gridI d r0_line 20 7 x0_line, gridI d r0_good 8 3 x0_good, gridI d r0_work 7 5 x0_work, gMd d uL5.1 none none none uL5.2.1 uL5.2.2.1 uL5.2.2.2.1 uL5.2.2.2.2 (fun _ => 0) (fun _ => 0) (fun _ => 0) (fun _ => 0) (fun _ => 0) (fun _ => 0) (0) (fun _ => 0) w25 w27 w28 w29 w31 w33 w34 w35 (0) (0) (0) (0) (0) (fun _ => 0) (0) w36 w37 w38 (fun _ => 0) (0) (0) (fun _ => 0) (fun _ => 0), gridJ d uL5.2.1 8 40 (fun _ _ => 0), gridI d uL5.2.2.1 20 7 w26, gridI d uL5.2.2.2.1 8 3 w30, gridI d uL5.2.2.2.2 7 5 w32] 63 1204 200 [(0, .ref (h0 0)), (1, .int w5), (2, .int z40), (3, .int z41), (4, .int w51)] [] := by
                intro w51 he
                rw [← he] at hs39
                refine J_iload_n hK dX7_never_200 rfl 2 rfl rfl ?_
                refine J_iload hK dX7_never_201 rfl 4 rfl ?_
                refine J_if_eq (tg := 212) hK dX7_never_203 rfl rfl (fun hc203 => ?_) (fun hc203 => ?_)
                · have hs39 := ip hc203 hs39
                  refine J_iconst (v := 0) hK dX7_never_212 rfl (by decide) ?_
                  refine J_ior hK dX7_never_213 rfl ?_
                  refine J_istore_n (L' := [(2, .int (z40 ||| 0)), (0, .ref (h0 0)), (1, .int w5), (3, .int z41), (4, .int w51)]) hK dX7_never_214 rfl rfl (by decide) rfl ?_
                  refine J_iinc (L' := [(3, .int (z41 + 1)), (2, .int (z40 ||| 0)), (0, .ref (h0 0)), (1, .int w5), (4, .int w51)]) (v := (z41 + 1)) hK dX7_never_215 rfl 3 rfl rfl (by decide) rfl ?_
                  refine J_goto hK dX7_never_218 (n := 83) rfl ?_
                  exact J_loc [2, 3, 1, 0] rfl (ih39 (z40 ||| 0) (z41 + 1) (lpc hs39 hr39))
                · have hs39 := iq hc203 hs39
                  refine J_iconst (v := 1) hK dX7_never_206 rfl (by decide) ?_
                  refine J_iload_n hK dX7_never_207 rfl 3 rfl rfl ?_
                  refine J_ishl hK dX7_never_208 rfl ?_
                  refine J_goto hK dX7_never_209 (n := 213) rfl ?_
                  refine J_ior hK dX7_never_213 rfl ?_
                  obtain ⟨t52, et52, hs39⟩ := bs hs39
                  refine J_nmi et52 ?_
                  refine J_istore_n (L' := [(2, .int t52), (0, .ref (h0 0)), (1, .int w5), (3, .int z41), (4, .int w51)]) hK dX7_never_214 rfl rfl (by decide) rfl ?_
                  refine J_iinc (L' := [(3, .int (z41 + 1)), (2, .int t52), (0, .ref (h0 0)), (1, .int w5), (4, .int w51)]) (v := (z41 + 1)) hK dX7_never_215 rfl 3 rfl rfl (by decide) rfl ?_
                  refine J_goto hK dX7_never_218 (n := 83) rfl ?_
                  exact J_loc [2, 3, 1, 0] rfl (ih39 t52 (z41 + 1) (lpc hs39 hr39))
              have lo47 : ∀ (k : Nat) (z48 : Int32) (z49 : Int32), lp (u2 (fX7_never_s112 x0_works x0_work w5 w24 z41)) k (z48, z49) = some e50 → J d Φ 7 [gMd d h0 a0_kept (some (uL5.1 0)) a0_chosen r0_rows r0_line r0_good r0_work x0_shelf x0_rowSort x0_rowSize x0_moved x0_shown x0_tape x0_tapeSize x0_refused x0_lines x0_changes x0_coins x0_goods x0_works x0_years x0_gone x0_spent x0_at x0_token x0_from x0_figures x0_fault x0_numbers x0_statements x0_left x0_far x0_tons x0_way x0_steps x0_met x0_queue w24, gridI d r0_line 20 7 x0_line, gridI d r0_good 8 3 x0_good, gridI d r0_work 7 5 x0_work, gMd d uL5.1 none none none uL5.2.1 uL5.2.2.1 uL5.2.2.2.1 uL5.2.2.2.2 (fun _ => 0) (fun _ => 0) (fun _ => 0) (fun _ => 0) (fun _ => 0) (fun _ => 0) (0) (fun _ => 0) w25 w27 w28 w29 w31 w33 w34 w35 (0) (0) (0) (0) (0) (fun _ => 0) (0) w36 w37 w38 (fun _ => 0) (0) (0) (fun _ => 0) (fun _ => 0), gridJ d uL5.2.1 8 40 (fun _ _ => 0), gridI d uL5.2.2.1 20 7 w26, gridI d uL5.2.2.2.1 8 3 w30, gridI d uL5.2.2.2.2 7 5 w32] 63 1204 112 [(0, .ref (h0 0)), (1, .int w5), (2, .int z40), (3, .int z41), (4, .int z48), (5, .int z49)] [] := by
                intro k
                induction k with
                | zero => intro z48 z49 h; cases h
                | succ k ih47 =>
                  intro z48 z49 h
                  obtain ⟨k2, rr47, hk2, hs47, hr47⟩ := lp_ok h
                  cases hk2
                  have hs47 : fX7_never_s112 x0_works x0_work w5 w24 z41 z48 z49 = some rr47 := hs47
                  unfold fX7_never_s112 at hs47
                  refine J_iload hK dX7_never_112 rfl 5 rfl ?_
                  refine J_iconst (v := 1) hK dX7_never_114 rfl (by decide) ?_
                  refine J_aload_n hK dX7_never_115 rfl 0 rfl rfl ?_
                  refine J_get hK fo_RX7_85 dX7_never_116 rfl 0 0 rfl rfl rfl ?_
                  refine J_ishl hK dX7_never_119 rfl ?_
                  refine J_icmp_ge (tg := 200) hK dX7_never_120 rfl rfl (fun hc120 => ?_) (fun hc120 => ?_)
                  · have hs47 := ip hc120 hs47
                    exact J_loc [0, 1, 2, 3, 4] rfl (hx47_200 z48 (lpx hs47 hr47))
                  · have hs47 := iq hc120 hs47
                    refine J_iload hK dX7_never_123 rfl 5 rfl ?_
                    refine J_iload_n hK dX7_never_125 rfl 1 rfl rfl ?_
                    refine J_iand hK dX7_never_126 rfl ?_
                    have j144 : ∀ (y53 : Int32), fX7_never_j144 x0_work w24 z41 z48 z49 y53 = some rr47 → J d Φ 7 [gMd d h0 a0_kept (some (uL5.1 0)) a0_chosen r0_rows r0_line r0_good r0_work x0_shelf x0_rowSort x0_rowSize x0_moved x0_shown x0_tape x0_tapeSize x0_refused x0_lines x0_changes x0_coins x0_goods x0_works x0_years x0_gone x0_spent x0_at x0_token x0_from x0_figures x0_fault x0_numbers x0_statements x0_left x0_far x0_tons x0_way x0_steps x0_met x0_queue w24, gridI d r0_line 20 7 x0_line, gridI d r0_good 8 3 x0_good, gridI d r0_work 7 5 x0_work, gMd d uL5.1 none none none uL5.2.1 uL5.2.2.1 uL5.2.2.2.1 uL5.2.2.2.2 (fun _ => 0) (fun _ => 0) (fun _ => 0) (fun _ => 0) (fun _ => 0) (fun _ => 0) (0) (fun _ => 0) w25 w27 w28 w29 w31 w33 w34 w35 (0) (0) (0) (0) (0) (fun _ => 0) (0) w36 w37 w38 (fun _ => 0) (0) (0) (fun _ => 0) (fun _ => 0), gridJ d uL5.2.1 8 40 (fun _ _ => 0), gridI d uL5.2.2.1 20 7 w26, gridI d uL5.2.2.2.1 8 3 w30, gridI d uL5.2.2.2.2 7 5 w32] 63 1204 144 [(0, .ref (h0 0)), (1, .int w5), (2, .int z40), (3, .int z41), (4, .int z48), (5, .int z49)] [.int y53] := by
                      intro y53 hs47
                      unfold fX7_never_j144 at hs47
                      refine J_istore (L' := [(6, .int y53), (0, .ref (h0 0)), (1, .int w5), (2, .int z40), (3, .int z41), (4, .int z48), (5, .int z49)]) hK dX7_never_144 rfl (by decide) rfl ?_
                      refine J_iload hK dX7_never_146 rfl 5 rfl ?_
                      refine J_iload hK dX7_never_148 rfl 0 rfl ?_
                      have j186 : fX7_never_j186 z48 z49 = some rr47 → J d Φ 7 [gMd d h0 a0_kept (some (uL5.1 0)) a0_chosen r0_rows r0_line r0_good r0_work x0_shelf x0_rowSort x0_rowSize x0_moved x0_shown x0_tape x0_tapeSize x0_refused x0_lines x0_changes x0_coins x0_goods x0_works x0_years x0_gone x0_spent x0_at x0_token x0_from x0_figures x0_fault x0_numbers x0_statements x0_left x0_far x0_tons x0_way x0_steps x0_met x0_queue w24, gridI d r0_line 20 7 x0_line, gridI d r0_good 8 3 x0_good, gridI d r0_work 7 5 x0_work, gMd d uL5.1 none none none uL5.2.1 uL5.2.2.1 uL5.2.2.2.1 uL5.2.2.2.2 (fun _ => 0) (fun _ => 0) (fun _ => 0) (fun _ => 0) (fun _ => 0) (fun _ => 0) (0) (fun _ => 0) w25 w27 w28 w29 w31 w33 w34 w35 (0) (0) (0) (0) (0) (fun _ => 0) (0) w36 w37 w38 (fun _ => 0) (0) (0) (fun _ => 0) (fun _ => 0), gridJ d uL5.2.1 8 40 (fun _ _ => 0), gridI d uL5.2.2.1 20 7 w26, gridI d uL5.2.2.2.1 8 3 w30, gridI d uL5.2.2.2.2 7 5 w32] 63 1204 186 [(0, .ref (h0 0)), (1, .int w5), (2, .int z40), (3, .int z41), (5, .int z49)] [.int z48] := by
                        intro  hs47
                        unfold fX7_never_j186 at hs47
                        refine J_iconst (v := 1) hK dX7_never_186 rfl (by decide) ?_
                        refine J_goto hK dX7_never_187 (n := 191) rfl ?_
                        refine J_iand hK dX7_never_191 rfl ?_
                        refine J_istore (L' := [(4, .int (z48 &&& 1)), (0, .ref (h0 0)), (1, .int w5), (2, .int z40), (3, .int z41), (5, .int z49)]) hK dX7_never_192 rfl (by decide) rfl ?_
                        refine J_iinc (L' := [(5, .int (z49 + 1)), (4, .int (z48 &&& 1)), (0, .ref (h0 0)), (1, .int w5), (2, .int z40), (3, .int z41)]) (v := (z49 + 1)) hK dX7_never_194 rfl 5 rfl rfl (by decide) rfl ?_
                        refine J_goto hK dX7_never_197 (n := 112) rfl ?_
                        exact J_loc [2, 3, 4, 5, 1, 0] rfl (ih47 (z48 &&& 1) (z49 + 1) (lpc hs47 hr47))
                      refine J_if_eq (tg := 186) hK dX7_never_150 rfl rfl (fun hc150 => ?_) (fun hc150 => ?_)
                      · have hs47 := ip hc150 hs47
                        exact J_loc [1, 2, 3, 4, 6] rfl (j186  hs47)
                      · have hs47 := iq hc150 hs47
                        refine J_aload_n hK dX7_never_153 rfl 1 rfl rfl ?_
                        refine J_get hK fo_RX7_51 dX7_never_154 rfl 0 0 rfl rfl rfl ?_
                        refine J_iload_n hK dX7_never_157 rfl 4 rfl rfl ?_
                        obtain ⟨q54, eq54, hs47⟩ := bs hs47
                        refine J_aald hK dX7_never_158 rfl 0 13 rfl rfl rfl eq54 ?_
                        refine J_iconst (v := 4) hK dX7_never_159 rfl (by decide) ?_
                        obtain ⟨v55, ev55, hs47⟩ := bs hs47
                        refine J_iald hK dX7_never_160 rfl 3 q54 rfl (gridI_at (ck_ok eq54).2.2) ev55 ?_
                        refine J_iconst (v := 1) hK dX7_never_161 rfl (by decide) ?_
                        refine J_icmp_eq (tg := 186) hK dX7_never_162 rfl rfl (fun hc162 => ?_) (fun hc162 => ?_)
                        · have hs47 := ip hc162 hs47
                          exact J_loc [1, 2, 3, 4, 6] rfl (j186  hs47)
                        · have hs47 := iq hc162 hs47
                          refine J_aload_n hK dX7_never_165 rfl 1 rfl rfl ?_
                          refine J_get hK fo_RX7_73 dX7_never_166 rfl 0 0 rfl rfl rfl ?_
                          refine J_iload hK dX7_never_169 rfl 6 rfl ?_
                          refine J_iconst (v := 1) hK dX7_never_171 rfl (by decide) ?_
                          refine J_iload_n hK dX7_never_172 rfl 4 rfl rfl ?_
                          refine J_ishl hK dX7_never_173 rfl ?_
                          refine J_ior hK dX7_never_174 rfl ?_
                          obtain ⟨v56, ev56, hs47⟩ := bs hs47
                          refine J_iald hK dX7_never_175 rfl 0 19 rfl rfl ev56 ?_
                          refine J_aload_n hK dX7_never_176 rfl 1 rfl rfl ?_
                          refine J_get hK fo_RX7_73 dX7_never_177 rfl 0 0 rfl rfl rfl ?_
                          refine J_iload hK dX7_never_180 rfl 6 rfl ?_
                          obtain ⟨v57, ev57, hs47⟩ := bs hs47
                          refine J_iald hK dX7_never_182 rfl 0 19 rfl rfl ev57 ?_
                          refine J_icmp_le (tg := 190) hK dX7_never_183 rfl rfl (fun hc183 => ?_) (fun hc183 => ?_)
                          · have hs47 := ip hc183 hs47
                            refine J_iconst (v := 0) hK dX7_never_190 rfl (by decide) ?_
                            refine J_iand hK dX7_never_191 rfl ?_
                            refine J_istore (L' := [(4, .int (z48 &&& 0)), (6, .int y53), (0, .ref (h0 0)), (1, .int w5), (2, .int z40), (3, .int z41), (5, .int z49)]) hK dX7_never_192 rfl (by decide) rfl ?_
                            refine J_iinc (L' := [(5, .int (z49 + 1)), (4, .int (z48 &&& 0)), (6, .int y53), (0, .ref (h0 0)), (1, .int w5), (2, .int z40), (3, .int z41)]) (v := (z49 + 1)) hK dX7_never_194 rfl 6 rfl rfl (by decide) rfl ?_
                            refine J_goto hK dX7_never_197 (n := 112) rfl ?_
                            exact J_loc [3, 4, 5, 6, 1, 0] rfl (ih47 (z48 &&& 0) (z49 + 1) (lpc hs47 hr47))
                          · have hs47 := iq hc183 hs47
                            exact J_loc [1, 2, 3, 4, 6] rfl (j186  hs47)
                    have j143 : fX7_never_j143 x0_work w24 z41 z48 z49 = some rr47 → J d Φ 7 [gMd d h0 a0_kept (some (uL5.1 0)) a0_chosen r0_rows r0_line r0_good r0_work x0_shelf x0_rowSort x0_rowSize x0_moved x0_shown x0_tape x0_tapeSize x0_refused x0_lines x0_changes x0_coins x0_goods x0_works x0_years x0_gone x0_spent x0_at x0_token x0_from x0_figures x0_fault x0_numbers x0_statements x0_left x0_far x0_tons x0_way x0_steps x0_met x0_queue w24, gridI d r0_line 20 7 x0_line, gridI d r0_good 8 3 x0_good, gridI d r0_work 7 5 x0_work, gMd d uL5.1 none none none uL5.2.1 uL5.2.2.1 uL5.2.2.2.1 uL5.2.2.2.2 (fun _ => 0) (fun _ => 0) (fun _ => 0) (fun _ => 0) (fun _ => 0) (fun _ => 0) (0) (fun _ => 0) w25 w27 w28 w29 w31 w33 w34 w35 (0) (0) (0) (0) (0) (fun _ => 0) (0) w36 w37 w38 (fun _ => 0) (0) (0) (fun _ => 0) (fun _ => 0), gridJ d uL5.2.1 8 40 (fun _ _ => 0), gridI d uL5.2.2.1 20 7 w26, gridI d uL5.2.2.2.1 8 3 w30, gridI d uL5.2.2.2.2 7 5 w32] 63 1204 143 [(0, .ref (h0 0)), (1, .int w5), (2, .int z40), (3, .int z41), (4, .int z48), (5, .int z49)] [] := by
                      intro  hs47
                      unfold fX7_never_j143 at hs47
                      refine J_iconst (v := 0) hK dX7_never_143 rfl (by decide) ?_
                      exact (j144 (0) hs47)
                    refine J_if_ne (tg := 143) hK dX7_never_127 rfl rfl (fun hc127 => ?_) (fun hc127 => ?_)
                    · have hs47 := iq hc127 hs47
                      exact (j143  hs47)
                    · have hs47 := ip hc127 hs47
                      refine J_iload hK dX7_never_130 rfl 5 rfl ?_
                      refine J_iload_n hK dX7_never_132 rfl 3 rfl rfl ?_
                      refine J_ishr hK dX7_never_133 rfl ?_
                      refine J_iconst (v := 1) hK dX7_never_134 rfl (by decide) ?_
                      refine J_iand hK dX7_never_135 rfl ?_
                      refine J_if_ne (tg := 143) hK dX7_never_136 rfl rfl (fun hc136 => ?_) (fun hc136 => ?_)
                      · have hs47 := iq hc136 hs47
                        exact (j143  hs47)
                      · have hs47 := ip hc136 hs47
                        refine J_iconst (v := 1) hK dX7_never_139 rfl (by decide) ?_
                        refine J_goto hK dX7_never_140 (n := 144) rfl ?_
                        exact (j144 (1) hs47)
              exact J_loc [2, 3, 4, 5, 1, 0] rfl (lo47 n y46 (0) hl47)
            refine J_if_ne (tg := 106) hK dX7_never_99 rfl rfl (fun hc99 => ?_) (fun hc99 => ?_)
            · have hs39 := iq hc99 hs39
              refine J_iconst (v := 0) hK dX7_never_106 rfl (by decide) ?_
              exact (j107 (0) hs39)
            · have hs39 := ip hc99 hs39
              refine J_iconst (v := 1) hK dX7_never_102 rfl (by decide) ?_
              refine J_goto hK dX7_never_103 (n := 107) rfl ?_
              exact (j107 (1) hs39)
      exact J_loc [2, 3, 1, 0] rfl (lo39 n (0) (0) hl39)
    have lo6P : ∀ (k : Nat) (uL5 : AdM) (z7 : Int32) (z8 : (Nat → Int32)) (z9 : Int32) (z10 : (Nat → Nat → Int32)) (z11 : (Nat → Int32)) (z12 : (Nat → Int32)) (z13 : Int32) (z14 : (Nat → Nat → Int32)) (z15 : Int32) (z16 : (Nat → Nat → Int32)) (z17 : Int32) (z18 : Int32) (z19 : Int32) (z20 : (Nat → Int32)) (z21 : (Nat → Int32)) (z22 : Int32), lp (u16 (fX7_never_s42 n x0_shelf x0_rowSort x0_rowSize x0_rows x0_moved x0_shown x0_tape x0_tapeSize x0_refused x0_lines x0_line x0_changes x0_coins x0_goods x0_good x0_works x0_work x0_years x0_gone x0_spent x0_at x0_token x0_from x0_figures x0_fault x0_numbers x0_statements x0_left x0_far x0_tons x0_way x0_steps x0_met x0_queue (fun _ => 0) (fun _ => 0) (fun _ => 0) (fun _ _ => 0) (fun _ => 0) (fun _ => 0) (fun _ => 0) (0) (fun _ => 0) (0) (0) (0) (0) (0) (fun _ => 0) (0) (fun _ => 0) (0) (0) (fun _ => 0) (fun _ => 0) w5)) k (z7, z8, z9, z10, z11, z12, z13, z14, z15, z16, z17, z18, z19, z20, z21, z22) = some e23 → J d Φ 7 [gMd d h0 a0_kept (some (uL5.1 0)) a0_chosen r0_rows r0_line r0_good r0_work x0_shelf x0_rowSort x0_rowSize x0_moved x0_shown x0_tape x0_tapeSize x0_refused x0_lines x0_changes x0_coins x0_goods x0_works x0_years x0_gone x0_spent x0_at x0_token x0_from x0_figures x0_fault x0_numbers x0_statements x0_left x0_far x0_tons x0_way x0_steps x0_met x0_queue z8, gridI d r0_line 20 7 x0_line, gridI d r0_good 8 3 x0_good, gridI d r0_work 7 5 x0_work, gMd d uL5.1 none none none uL5.2.1 uL5.2.2.1 uL5.2.2.2.1 uL5.2.2.2.2 (fun _ => 0) (fun _ => 0) (fun _ => 0) (fun _ => 0) (fun _ => 0) (fun _ => 0) (0) (fun _ => 0) z9 z11 z12 z13 z15 z17 z18 z19 (0) (0) (0) (0) (0) (fun _ => 0) (0) z20 z21 z22 (fun _ => 0) (0) (0) (fun _ => 0) (fun _ => 0), gridJ d uL5.2.1 8 40 (fun _ _ => 0), gridI d uL5.2.2.1 20 7 z10, gridI d uL5.2.2.2.1 8 3 z14, gridI d uL5.2.2.2.2 7 5 z16] 63 1204 42 [(0, .ref (h0 0)), (1, .int w5), (2, .int z7)] [] := by
      intro k
      induction k with
      | zero => intro uL5 z7 z8 z9 z10 z11 z12 z13 z14 z15 z16 z17 z18 z19 z20 z21 z22 h; cases h
      | succ k ih6P =>
        intro uL5 z7 z8 z9 z10 z11 z12 z13 z14 z15 z16 z17 z18 z19 z20 z21 z22 h
        obtain ⟨k2, rr6, hk2, hs6, hr6⟩ := lp_ok h
        cases hk2
        have hs6 : fX7_never_s42 n x0_shelf x0_rowSort x0_rowSize x0_rows x0_moved x0_shown x0_tape x0_tapeSize x0_refused x0_lines x0_line x0_changes x0_coins x0_goods x0_good x0_works x0_work x0_years x0_gone x0_spent x0_at x0_token x0_from x0_figures x0_fault x0_numbers x0_statements x0_left x0_far x0_tons x0_way x0_steps x0_met x0_queue (fun _ => 0) (fun _ => 0) (fun _ => 0) (fun _ _ => 0) (fun _ => 0) (fun _ => 0) (fun _ => 0) (0) (fun _ => 0) (0) (0) (0) (0) (0) (fun _ => 0) (0) (fun _ => 0) (0) (0) (fun _ => 0) (fun _ => 0) w5 z7 z8 z9 z10 z11 z12 z13 z14 z15 z16 z17 z18 z19 z20 z21 z22 = some rr6 := hs6
        unfold fX7_never_s42 at hs6
        refine J_iload_n hK dX7_never_42 rfl 2 rfl rfl ?_
        refine J_iconst (v := 1) hK dX7_never_43 rfl (by decide) ?_
        refine J_aload_n hK dX7_never_44 rfl 0 rfl rfl ?_
        refine J_get hK fo_RX7_85 dX7_never_45 rfl 0 0 rfl rfl rfl ?_
        refine J_ishl hK dX7_never_48 rfl ?_
        refine J_icmp_ge (tg := 79) hK dX7_never_49 rfl rfl (fun hc49 => ?_) (fun hc49 => ?_)
        · have hs6 := ip hc49 hs6
          exact J_loc [0, 1] rfl (hx6_79P uL5 z8 z9 z10 z11 z12 z13 z14 z15 z16 z17 z18 z19 z20 z21 z22 (lpx hs6 hr6))
        · have hs6 := iq hc49 hs6
          refine J_aload_n hK dX7_never_52 rfl 0 rfl rfl ?_
          refine J_get hK fo_RX7_73 dX7_never_53 rfl 0 0 rfl rfl rfl ?_
          refine J_iload_n hK dX7_never_56 rfl 2 rfl rfl ?_
          refine J_iload_n hK dX7_never_57 rfl 2 rfl rfl ?_
          refine J_iload_n hK dX7_never_58 rfl 1 rfl rfl ?_
          refine J_iand hK dX7_never_59 rfl ?_
          refine J_if_ne (tg := 71) hK dX7_never_60 rfl rfl (fun hc60 => ?_) (fun hc60 => ?_)
          · have hs6 := iq hc60 hs6
            refine J_iconst (v := 0) hK dX7_never_71 rfl (by decide) ?_
            obtain ⟨f58, ef58, hs6⟩ := bs hs6
            refine J_iast (g' := gMd d h0 a0_kept (some (uL5.1 0)) a0_chosen r0_rows r0_line r0_good r0_work x0_shelf x0_rowSort x0_rowSize x0_moved x0_shown x0_tape x0_tapeSize x0_refused x0_lines x0_changes x0_coins x0_goods x0_works x0_years x0_gone x0_spent x0_at x0_token x0_from x0_figures x0_fault x0_numbers x0_statements x0_left x0_far x0_tons x0_way x0_steps x0_met x0_queue f58) (gs' := [gMd d h0 a0_kept (some (uL5.1 0)) a0_chosen r0_rows r0_line r0_good r0_work x0_shelf x0_rowSort x0_rowSize x0_moved x0_shown x0_tape x0_tapeSize x0_refused x0_lines x0_changes x0_coins x0_goods x0_works x0_years x0_gone x0_spent x0_at x0_token x0_from x0_figures x0_fault x0_numbers x0_statements x0_left x0_far x0_tons x0_way x0_steps x0_met x0_queue f58, gridI d r0_line 20 7 x0_line, gridI d r0_good 8 3 x0_good, gridI d r0_work 7 5 x0_work, gMd d uL5.1 none none none uL5.2.1 uL5.2.2.1 uL5.2.2.2.1 uL5.2.2.2.2 (fun _ => 0) (fun _ => 0) (fun _ => 0) (fun _ => 0) (fun _ => 0) (fun _ => 0) (0) (fun _ => 0) z9 z11 z12 z13 z15 z17 z18 z19 (0) (0) (0) (0) (0) (fun _ => 0) (0) z20 z21 z22 (fun _ => 0) (0) (0) (fun _ => 0) (fun _ => 0), gridJ d uL5.2.1 8 40 (fun _ _ => 0), gridI d uL5.2.2.1 20 7 z10, gridI d uL5.2.2.2.1 8 3 z14, gridI d uL5.2.2.2.2 7 5 z16]) hK dX7_never_72 rfl 0 19 rfl rfl ef58 rfl rfl ?_
            refine J_iinc (L' := [(2, .int (z7 + 1)), (0, .ref (h0 0)), (1, .int w5)]) (v := (z7 + 1)) hK dX7_never_73 rfl 2 rfl rfl (by decide) rfl ?_
            refine J_goto hK dX7_never_76 (n := 42) rfl ?_
            exact J_loc [1, 2, 0] rfl (ih6P uL5 (z7 + 1) f58 z9 z10 z11 z12 z13 z14 z15 z16 z17 z18 z19 z20 z21 z22 (lpc hs6 hr6))
          · have hs6 := ip hc60 hs6
            refine J_aload_n hK dX7_never_63 rfl 0 rfl rfl ?_
            refine J_iload_n hK dX7_never_64 rfl 2 rfl rfl ?_
            obtain ⟨⟨v59, ⟨g61, g62, g63, g64, g65, g66, g67, g68, g69, g70, g71, g72, g73, g74⟩⟩, e75, hs6⟩ := bs hs6
            have hs6 := un2 hs6
            have hs6 := un14 hs6
            refine J_callV (m' := 9) (ce' := 63) (sl' := 1204) (gr := [gridJ d uL5.2.1 8 40 (fun _ _ => 0)]) (gs' := fun _ => [gMd d h0 a0_kept (some (uL5.1 0)) a0_chosen r0_rows r0_line r0_good r0_work x0_shelf x0_rowSort x0_rowSize x0_moved x0_shown x0_tape x0_tapeSize x0_refused x0_lines x0_changes x0_coins x0_goods x0_works x0_years x0_gone x0_spent x0_at x0_token x0_from x0_figures x0_fault x0_numbers x0_statements x0_left x0_far x0_tons x0_way x0_steps x0_met x0_queue z8, gridI d r0_line 20 7 x0_line, gridI d r0_good 8 3 x0_good, gridI d r0_work 7 5 x0_work, gMd d uL5.1 none none none uL5.2.1 uL5.2.2.1 uL5.2.2.2.1 uL5.2.2.2.2 (fun _ => 0) (fun _ => 0) (fun _ => 0) (fun _ => 0) (fun _ => 0) (fun _ => 0) (0) (fun _ => 0) g61 g63 g64 g65 g67 g69 g70 g71 (0) (0) (0) (0) (0) (fun _ => 0) (0) g72 g73 g74 (fun _ => 0) (0) (0) (fun _ => 0) (fun _ => 0), gridJ d uL5.2.1 8 40 (fun _ _ => 0), gridI d uL5.2.2.1 20 7 g62, gridI d uL5.2.2.2.1 8 3 g66, gridI d uL5.2.2.2.2 7 5 g68]) (st' := fun _ => [.int v59, .int z7, .ref (h0 19)]) (st := [.int z7, .ref (h0 19)]) hK dX7_never_65 cv_RX7_300 iv_yX7_totalOf (As := [.int z7]) (kX7_totalOf _ d h0 r0_rows r0_line r0_good r0_work a0_kept a0_chosen uL5.1 uL5.2.1 uL5.2.2.1 uL5.2.2.2.1 uL5.2.2.2.2 none none none n x0_shelf x0_rowSort x0_rowSize x0_rows x0_moved x0_shown x0_tape x0_tapeSize x0_refused x0_lines x0_line x0_changes x0_coins x0_goods x0_good x0_works x0_work x0_years x0_gone x0_spent x0_at x0_token x0_from x0_figures x0_fault x0_numbers x0_statements x0_left x0_far x0_tons x0_way x0_steps x0_met x0_queue z8 (fun _ => 0) (fun _ => 0) (fun _ => 0) (fun _ _ => 0) (fun _ => 0) (fun _ => 0) (fun _ => 0) (0) (fun _ => 0) z9 z10 z11 z12 z13 z14 z15 z16 z17 z18 z19 (0) (0) (0) (0) (0) (fun _ => 0) (0) z20 z21 z22 (fun _ => 0) (0) (0) (fun _ => 0) (fun _ => 0) z7 e75) rfl rfl (Nat.le_of_ble_eq_true rfl) (by decide) 0 0 rfl rfl rfl [0, 1, 2, 3, 4, 6, 7, 8] [5] rfl rfl rfl rfl [1, 2, 3, 4, 5, 0, 6, 7, 8] rfl (fun _ => rfl) (fun _ => rfl) rfl rfl rfl (fun _ => rfl) (fun _ => ?_)
            refine J_goto hK dX7_never_68 (n := 72) rfl ?_
            obtain ⟨f76, ef76, hs6⟩ := bs hs6
            refine J_iast (g' := gMd d h0 a0_kept (some (uL5.1 0)) a0_chosen r0_rows r0_line r0_good r0_work x0_shelf x0_rowSort x0_rowSize x0_moved x0_shown x0_tape x0_tapeSize x0_refused x0_lines x0_changes x0_coins x0_goods x0_works x0_years x0_gone x0_spent x0_at x0_token x0_from x0_figures x0_fault x0_numbers x0_statements x0_left x0_far x0_tons x0_way x0_steps x0_met x0_queue f76) (gs' := [gMd d h0 a0_kept (some (uL5.1 0)) a0_chosen r0_rows r0_line r0_good r0_work x0_shelf x0_rowSort x0_rowSize x0_moved x0_shown x0_tape x0_tapeSize x0_refused x0_lines x0_changes x0_coins x0_goods x0_works x0_years x0_gone x0_spent x0_at x0_token x0_from x0_figures x0_fault x0_numbers x0_statements x0_left x0_far x0_tons x0_way x0_steps x0_met x0_queue f76, gridI d r0_line 20 7 x0_line, gridI d r0_good 8 3 x0_good, gridI d r0_work 7 5 x0_work, gMd d uL5.1 none none none uL5.2.1 uL5.2.2.1 uL5.2.2.2.1 uL5.2.2.2.2 (fun _ => 0) (fun _ => 0) (fun _ => 0) (fun _ => 0) (fun _ => 0) (fun _ => 0) (0) (fun _ => 0) g61 g63 g64 g65 g67 g69 g70 g71 (0) (0) (0) (0) (0) (fun _ => 0) (0) g72 g73 g74 (fun _ => 0) (0) (0) (fun _ => 0) (fun _ => 0), gridJ d uL5.2.1 8 40 (fun _ _ => 0), gridI d uL5.2.2.1 20 7 g62, gridI d uL5.2.2.2.1 8 3 g66, gridI d uL5.2.2.2.2 7 5 g68]) hK dX7_never_72 rfl 0 19 rfl rfl ef76 rfl rfl ?_
            refine J_iinc (L' := [(2, .int (z7 + 1)), (0, .ref (h0 0)), (1, .int w5)]) (v := (z7 + 1)) hK dX7_never_73 rfl 2 rfl rfl (by decide) rfl ?_
            refine J_goto hK dX7_never_76 (n := 42) rfl ?_
            exact J_loc [1, 2, 0] rfl (ih6P uL5 (z7 + 1) f76 g61 g62 g63 g64 g65 g66 g67 g68 g69 g70 g71 g72 g73 g74 (lpc hs6 hr6))
    have hx6_79N : ∀ (w24 : (Nat → Int32)), (w24, 0, (fun _ _ => 0), (fillV 12 9 (fun _ => 0)), (va_up (va_up (va_up (fun _ => 0) 0 1) 1 1) 2 1), 0, (fun _ _ => 0), 0, (fun _ _ => 0), 10, 0, 0, (fun _ => 0), (fun _ => 0), 0) = e23 → J d Φ 7 [gMd d h0 a0_kept none a0_chosen r0_rows r0_line r0_good r0_work x0_shelf x0_rowSort x0_rowSize x0_moved x0_shown x0_tape x0_tapeSize x0_refused x0_lines x0_changes x0_coins x0_goods x0_works x0_years x0_gone x0_spent x0_at x0_token x0_from x0_figures x0_fault x0_numbers x0_statements x0_left x0_far x0_tons x0_way x0_steps x0_met x0_queue w24, gridI d r0_line 20 7 x0_line, gridI d r0_good 8 3 x0_good, gridI d r0_work 7 5 x0_work] 0 0 79 [(0, .ref (h0 0)), (1, .int w5)] [] := by
      intro w24 he
      rw [← he] at hf
      have hf := un15 hf
      refine J_iconst (v := 0) hK dX7_never_79 rfl (by decide) ?_
      refine J_istore_n (L' := [(2, .int (0)), (0, .ref (h0 0)), (1, .int w5)]) hK dX7_never_80 rfl rfl (by decide) rfl ?_
      refine J_iconst (v := 0) hK dX7_never_81 rfl (by decide) ?_
      refine J_istore_n (L' := [(3, .int (0)), (2, .int (0)), (0, .ref (h0 0)), (1, .int w5)]) hK dX7_never_82 rfl rfl (by decide) rfl ?_
      obtain ⟨e42, hl39, hf⟩ := bs hf
      have hx39_221 : ∀ (w43 : Int32), w43 = e42 → J d Φ 7 [gMd d h0 a0_kept none a0_chosen r0_rows r0_line r0_good r0_work x0_shelf x0_rowSort x0_rowSize x0_moved x0_shown x0_tape x0_tapeSize x0_refused x0_lines x0_changes x0_coins x0_goods x0_works x0_years x0_gone x0_spent x0_at x0_token x0_from x0_figures x0_fault x0_numbers x0_statements x0_left x0_far x0_tons x0_way x0_steps x0_met x0_queue w24, gridI d r0_line 20 7 x0_line, gridI d r0_good 8 3 x0_good, gridI d r0_work 7 5 x0_work] 0 0 221 [(2, .int w43)] [] := by
        intro w43 he
        rw [← he] at hf
        refine J_iload_n hK dX7_never_221 rfl 0 rfl rfl ?_
        obtain rfl := Option.some.inj hf
        refine J_fl (gs2 := [gMd d h0 a0_kept none a0_chosen r0_rows r0_line r0_good r0_work x0_shelf x0_rowSort x0_rowSize x0_moved x0_shown x0_tape x0_tapeSize x0_refused x0_lines x0_changes x0_coins x0_goods x0_works x0_years x0_gone x0_spent x0_at x0_token x0_from x0_figures x0_fault x0_numbers x0_statements x0_left x0_far x0_tons x0_way x0_steps x0_met x0_queue w24, gridI d r0_line 20 7 x0_line, gridI d r0_good 8 3 x0_good, gridI d r0_work 7 5 x0_work, oMd d none none none none (fun _ => 0) (fun _ => 0) (fun _ => 0) (fun _ _ => 0) (fun _ => 0) (fun _ => 0) (fun _ => 0) (0) (fun _ => 0) (0) (fun _ _ => 0) (fillV 12 9 (fun _ => 0)) (va_up (va_up (va_up (fun _ => 0) 0 1) 1 1) 2 1) (0) (fun _ _ => 0) (0) (fun _ _ => 0) (10) (0) (0) (0) (0) (0) (0) (0) (fun _ => 0) (0) (fun _ => 0) (fun _ => 0) (0) (fun _ => 0) (0) (0) (fun _ => 0) (fun _ => 0)]) rfl ?_
        exact J_iret hK hR dX7_never_222 ⟨none, fun _ => rfl⟩ rfl (by decide) (by decide)
      have lo39 : ∀ (k : Nat) (z40 : Int32) (z41 : Int32), lp (u2 (fX7_never_s83 n x0_works x0_work w5 w24)) k (z40, z41) = some e42 → J d Φ 7 [gMd d h0 a0_kept none a0_chosen r0_rows r0_line r0_good r0_work x0_shelf x0_rowSort x0_rowSize x0_moved x0_shown x0_tape x0_tapeSize x0_refused x0_lines x0_changes x0_coins x0_goods x0_works x0_years x0_gone x0_spent x0_at x0_token x0_from x0_figures x0_fault x0_numbers x0_statements x0_left x0_far x0_tons x0_way x0_steps x0_met x0_queue w24, gridI d r0_line 20 7 x0_line, gridI d r0_good 8 3 x0_good, gridI d r0_work 7 5 x0_work] 0 0 83 [(0, .ref (h0 0)), (1, .int w5), (2, .int z40), (3, .int z41)] [] := by
        intro k
        induction k with
        | zero => intro z40 z41 h; cases h
        | succ k ih39 =>
          intro z40 z41 h
          obtain ⟨k2, rr39, hk2, hs39, hr39⟩ := lp_ok h
          cases hk2
          have hs39 : fX7_never_s83 n x0_works x0_work w5 w24 z40 z41 = some rr39 := hs39
          unfold fX7_never_s83 at hs39
          refine J_iload_n hK dX7_never_83 rfl 3 rfl rfl ?_
          refine J_aload_n hK dX7_never_84 rfl 0 rfl rfl ?_
          refine J_get hK fo_RX7_85 dX7_never_85 rfl 0 0 rfl rfl rfl ?_
          refine J_icmp_ge (tg := 221) hK dX7_never_88 rfl rfl (fun hc88 => ?_) (fun hc88 => ?_)
          · have hs39 := ip hc88 hs39
            exact J_loc [2] rfl (hx39_221 z40 (lpx hs39 hr39))
          · have hs39 := iq hc88 hs39
            refine J_aload_n hK dX7_never_91 rfl 0 rfl rfl ?_
            refine J_get hK fo_RX7_51 dX7_never_92 rfl 0 0 rfl rfl rfl ?_
            refine J_iload_n hK dX7_never_95 rfl 3 rfl rfl ?_
            obtain ⟨q44, eq44, hs39⟩ := bs hs39
            refine J_aald hK dX7_never_96 rfl 0 13 rfl rfl rfl eq44 ?_
            refine J_iconst (v := 4) hK dX7_never_97 rfl (by decide) ?_
            obtain ⟨v45, ev45, hs39⟩ := bs hs39
            refine J_iald hK dX7_never_98 rfl 3 q44 rfl (gridI_at (ck_ok eq44).2.2) ev45 ?_
            have j107 : ∀ (y46 : Int32), fX7_never_j107 n x0_works x0_work w5 w24 z40 z41 y46 = some rr39 → J d Φ 7 [gMd d h0 a0_kept none a0_chosen r0_rows r0_line r0_good r0_work x0_shelf x0_rowSort x0_rowSize x0_moved x0_shown x0_tape x0_tapeSize x0_refused x0_lines x0_changes x0_coins x0_goods x0_works x0_years x0_gone x0_spent x0_at x0_token x0_from x0_figures x0_fault x0_numbers x0_statements x0_left x0_far x0_tons x0_way x0_steps x0_met x0_queue w24, gridI d r0_line 20 7 x0_line, gridI d r0_good 8 3 x0_good, gridI d r0_work 7 5 x0_work] 0 0 107 [(0, .ref (h0 0)), (1, .int w5), (2, .int z40), (3, .int z41)] [.int y46] := by
              intro y46 hs39
              unfold fX7_never_j107 at hs39
              refine J_istore (L' := [(4, .int y46), (0, .ref (h0 0)), (1, .int w5), (2, .int z40), (3, .int z41)]) hK dX7_never_107 rfl (by decide) rfl ?_
              refine J_iconst (v := 0) hK dX7_never_109 rfl (by decide) ?_
              refine J_istore (L' := [(5, .int (0)), (4, .int y46), (0, .ref (h0 0)), (1, .int w5), (2, .int z40), (3, .int z41)]) hK dX7_never_110 rfl (by decide) rfl ?_
              obtain ⟨e50, hl47, hs39⟩ := bs hs39
              have hx47_200 : ∀ (w51 : Int32), w51 = e50 → J d Φ 7 [gMd d h0 a0_kept none a0_chosen r0_rows r0_line r0_good r0_work x0_shelf x0_rowSort x0_rowSize x0_moved x0_shown x0_tape x0_tapeSize x0_refused x0_lines x0_changes x0_coins x0_goods x0_works x0_years x0_gone x0_spent x0_at x0_token x0_from x0_figures x0_fault x0_numbers x0_statements x0_left x0_far x0_tons x0_way x0_steps x0_met x0_queue w24, gridI d r0_line 20 7 x0_line, gridI d r0_good 8 3 x0_good, gridI d r0_work 7 5 x0_work] 0 0 200 [(0, .ref (h0 0)), (1, .int w5), (2, .int z40), (3, .int z41), (4, .int w51)] [] := by
                intro w51 he
                rw [← he] at hs39
                refine J_iload_n hK dX7_never_200 rfl 2 rfl rfl ?_
                refine J_iload hK dX7_never_201 rfl 4 rfl ?_
                refine J_if_eq (tg := 212) hK dX7_never_203 rfl rfl (fun hc203 => ?_) (fun hc203 => ?_)
                · have hs39 := ip hc203 hs39
                  refine J_iconst (v := 0) hK dX7_never_212 rfl (by decide) ?_
                  refine J_ior hK dX7_never_213 rfl ?_
                  refine J_istore_n (L' := [(2, .int (z40 ||| 0)), (0, .ref (h0 0)), (1, .int w5), (3, .int z41), (4, .int w51)]) hK dX7_never_214 rfl rfl (by decide) rfl ?_
                  refine J_iinc (L' := [(3, .int (z41 + 1)), (2, .int (z40 ||| 0)), (0, .ref (h0 0)), (1, .int w5), (4, .int w51)]) (v := (z41 + 1)) hK dX7_never_215 rfl 3 rfl rfl (by decide) rfl ?_
                  refine J_goto hK dX7_never_218 (n := 83) rfl ?_
                  exact J_loc [2, 3, 1, 0] rfl (ih39 (z40 ||| 0) (z41 + 1) (lpc hs39 hr39))
                · have hs39 := iq hc203 hs39
                  refine J_iconst (v := 1) hK dX7_never_206 rfl (by decide) ?_
                  refine J_iload_n hK dX7_never_207 rfl 3 rfl rfl ?_
                  refine J_ishl hK dX7_never_208 rfl ?_
                  refine J_goto hK dX7_never_209 (n := 213) rfl ?_
                  refine J_ior hK dX7_never_213 rfl ?_
                  obtain ⟨t52, et52, hs39⟩ := bs hs39
                  refine J_nmi et52 ?_
                  refine J_istore_n (L' := [(2, .int t52), (0, .ref (h0 0)), (1, .int w5), (3, .int z41), (4, .int w51)]) hK dX7_never_214 rfl rfl (by decide) rfl ?_
                  refine J_iinc (L' := [(3, .int (z41 + 1)), (2, .int t52), (0, .ref (h0 0)), (1, .int w5), (4, .int w51)]) (v := (z41 + 1)) hK dX7_never_215 rfl 3 rfl rfl (by decide) rfl ?_
                  refine J_goto hK dX7_never_218 (n := 83) rfl ?_
                  exact J_loc [2, 3, 1, 0] rfl (ih39 t52 (z41 + 1) (lpc hs39 hr39))
              have lo47 : ∀ (k : Nat) (z48 : Int32) (z49 : Int32), lp (u2 (fX7_never_s112 x0_works x0_work w5 w24 z41)) k (z48, z49) = some e50 → J d Φ 7 [gMd d h0 a0_kept none a0_chosen r0_rows r0_line r0_good r0_work x0_shelf x0_rowSort x0_rowSize x0_moved x0_shown x0_tape x0_tapeSize x0_refused x0_lines x0_changes x0_coins x0_goods x0_works x0_years x0_gone x0_spent x0_at x0_token x0_from x0_figures x0_fault x0_numbers x0_statements x0_left x0_far x0_tons x0_way x0_steps x0_met x0_queue w24, gridI d r0_line 20 7 x0_line, gridI d r0_good 8 3 x0_good, gridI d r0_work 7 5 x0_work] 0 0 112 [(0, .ref (h0 0)), (1, .int w5), (2, .int z40), (3, .int z41), (4, .int z48), (5, .int z49)] [] := by
                intro k
                induction k with
                | zero => intro z48 z49 h; cases h
                | succ k ih47 =>
                  intro z48 z49 h
                  obtain ⟨k2, rr47, hk2, hs47, hr47⟩ := lp_ok h
                  cases hk2
                  have hs47 : fX7_never_s112 x0_works x0_work w5 w24 z41 z48 z49 = some rr47 := hs47
                  unfold fX7_never_s112 at hs47
                  refine J_iload hK dX7_never_112 rfl 5 rfl ?_
                  refine J_iconst (v := 1) hK dX7_never_114 rfl (by decide) ?_
                  refine J_aload_n hK dX7_never_115 rfl 0 rfl rfl ?_
                  refine J_get hK fo_RX7_85 dX7_never_116 rfl 0 0 rfl rfl rfl ?_
                  refine J_ishl hK dX7_never_119 rfl ?_
                  refine J_icmp_ge (tg := 200) hK dX7_never_120 rfl rfl (fun hc120 => ?_) (fun hc120 => ?_)
                  · have hs47 := ip hc120 hs47
                    exact J_loc [0, 1, 2, 3, 4] rfl (hx47_200 z48 (lpx hs47 hr47))
                  · have hs47 := iq hc120 hs47
                    refine J_iload hK dX7_never_123 rfl 5 rfl ?_
                    refine J_iload_n hK dX7_never_125 rfl 1 rfl rfl ?_
                    refine J_iand hK dX7_never_126 rfl ?_
                    have j144 : ∀ (y53 : Int32), fX7_never_j144 x0_work w24 z41 z48 z49 y53 = some rr47 → J d Φ 7 [gMd d h0 a0_kept none a0_chosen r0_rows r0_line r0_good r0_work x0_shelf x0_rowSort x0_rowSize x0_moved x0_shown x0_tape x0_tapeSize x0_refused x0_lines x0_changes x0_coins x0_goods x0_works x0_years x0_gone x0_spent x0_at x0_token x0_from x0_figures x0_fault x0_numbers x0_statements x0_left x0_far x0_tons x0_way x0_steps x0_met x0_queue w24, gridI d r0_line 20 7 x0_line, gridI d r0_good 8 3 x0_good, gridI d r0_work 7 5 x0_work] 0 0 144 [(0, .ref (h0 0)), (1, .int w5), (2, .int z40), (3, .int z41), (4, .int z48), (5, .int z49)] [.int y53] := by
                      intro y53 hs47
                      unfold fX7_never_j144 at hs47
                      refine J_istore (L' := [(6, .int y53), (0, .ref (h0 0)), (1, .int w5), (2, .int z40), (3, .int z41), (4, .int z48), (5, .int z49)]) hK dX7_never_144 rfl (by decide) rfl ?_
                      refine J_iload hK dX7_never_146 rfl 5 rfl ?_
                      refine J_iload hK dX7_never_148 rfl 0 rfl ?_
                      have j186 : fX7_never_j186 z48 z49 = some rr47 → J d Φ 7 [gMd d h0 a0_kept none a0_chosen r0_rows r0_line r0_good r0_work x0_shelf x0_rowSort x0_rowSize x0_moved x0_shown x0_tape x0_tapeSize x0_refused x0_lines x0_changes x0_coins x0_goods x0_works x0_years x0_gone x0_spent x0_at x0_token x0_from x0_figures x0_fault x0_numbers x0_statements x0_left x0_far x0_tons x0_way x0_steps x0_met x0_queue w24, gridI d r0_line 20 7 x0_line, gridI d r0_good 8 3 x0_good, gridI d r0_work 7 5 x0_work] 0 0 186 [(0, .ref (h0 0)), (1, .int w5), (2, .int z40), (3, .int z41), (5, .int z49)] [.int z48] := by
                        intro  hs47
                        unfold fX7_never_j186 at hs47
                        refine J_iconst (v := 1) hK dX7_never_186 rfl (by decide) ?_
                        refine J_goto hK dX7_never_187 (n := 191) rfl ?_
                        refine J_iand hK dX7_never_191 rfl ?_
                        refine J_istore (L' := [(4, .int (z48 &&& 1)), (0, .ref (h0 0)), (1, .int w5), (2, .int z40), (3, .int z41), (5, .int z49)]) hK dX7_never_192 rfl (by decide) rfl ?_
                        refine J_iinc (L' := [(5, .int (z49 + 1)), (4, .int (z48 &&& 1)), (0, .ref (h0 0)), (1, .int w5), (2, .int z40), (3, .int z41)]) (v := (z49 + 1)) hK dX7_never_194 rfl 5 rfl rfl (by decide) rfl ?_
                        refine J_goto hK dX7_never_197 (n := 112) rfl ?_
                        exact J_loc [2, 3, 4, 5, 1, 0] rfl (ih47 (z48 &&& 1) (z49 + 1) (lpc hs47 hr47))
                      refine J_if_eq (tg := 186) hK dX7_never_150 rfl rfl (fun hc150 => ?_) (fun hc150 => ?_)
                      · have hs47 := ip hc150 hs47
                        exact J_loc [1, 2, 3, 4, 6] rfl (j186  hs47)
                      · have hs47 := iq hc150 hs47
                        refine J_aload_n hK dX7_never_153 rfl 1 rfl rfl ?_
                        refine J_get hK fo_RX7_51 dX7_never_154 rfl 0 0 rfl rfl rfl ?_
                        refine J_iload_n hK dX7_never_157 rfl 4 rfl rfl ?_
                        obtain ⟨q54, eq54, hs47⟩ := bs hs47
                        refine J_aald hK dX7_never_158 rfl 0 13 rfl rfl rfl eq54 ?_
                        refine J_iconst (v := 4) hK dX7_never_159 rfl (by decide) ?_
                        obtain ⟨v55, ev55, hs47⟩ := bs hs47
                        refine J_iald hK dX7_never_160 rfl 3 q54 rfl (gridI_at (ck_ok eq54).2.2) ev55 ?_
                        refine J_iconst (v := 1) hK dX7_never_161 rfl (by decide) ?_
                        refine J_icmp_eq (tg := 186) hK dX7_never_162 rfl rfl (fun hc162 => ?_) (fun hc162 => ?_)
                        · have hs47 := ip hc162 hs47
                          exact J_loc [1, 2, 3, 4, 6] rfl (j186  hs47)
                        · have hs47 := iq hc162 hs47
                          refine J_aload_n hK dX7_never_165 rfl 1 rfl rfl ?_
                          refine J_get hK fo_RX7_73 dX7_never_166 rfl 0 0 rfl rfl rfl ?_
                          refine J_iload hK dX7_never_169 rfl 6 rfl ?_
                          refine J_iconst (v := 1) hK dX7_never_171 rfl (by decide) ?_
                          refine J_iload_n hK dX7_never_172 rfl 4 rfl rfl ?_
                          refine J_ishl hK dX7_never_173 rfl ?_
                          refine J_ior hK dX7_never_174 rfl ?_
                          obtain ⟨v56, ev56, hs47⟩ := bs hs47
                          refine J_iald hK dX7_never_175 rfl 0 19 rfl rfl ev56 ?_
                          refine J_aload_n hK dX7_never_176 rfl 1 rfl rfl ?_
                          refine J_get hK fo_RX7_73 dX7_never_177 rfl 0 0 rfl rfl rfl ?_
                          refine J_iload hK dX7_never_180 rfl 6 rfl ?_
                          obtain ⟨v57, ev57, hs47⟩ := bs hs47
                          refine J_iald hK dX7_never_182 rfl 0 19 rfl rfl ev57 ?_
                          refine J_icmp_le (tg := 190) hK dX7_never_183 rfl rfl (fun hc183 => ?_) (fun hc183 => ?_)
                          · have hs47 := ip hc183 hs47
                            refine J_iconst (v := 0) hK dX7_never_190 rfl (by decide) ?_
                            refine J_iand hK dX7_never_191 rfl ?_
                            refine J_istore (L' := [(4, .int (z48 &&& 0)), (6, .int y53), (0, .ref (h0 0)), (1, .int w5), (2, .int z40), (3, .int z41), (5, .int z49)]) hK dX7_never_192 rfl (by decide) rfl ?_
                            refine J_iinc (L' := [(5, .int (z49 + 1)), (4, .int (z48 &&& 0)), (6, .int y53), (0, .ref (h0 0)), (1, .int w5), (2, .int z40), (3, .int z41)]) (v := (z49 + 1)) hK dX7_never_194 rfl 6 rfl rfl (by decide) rfl ?_
                            refine J_goto hK dX7_never_197 (n := 112) rfl ?_
                            exact J_loc [3, 4, 5, 6, 1, 0] rfl (ih47 (z48 &&& 0) (z49 + 1) (lpc hs47 hr47))
                          · have hs47 := iq hc183 hs47
                            exact J_loc [1, 2, 3, 4, 6] rfl (j186  hs47)
                    have j143 : fX7_never_j143 x0_work w24 z41 z48 z49 = some rr47 → J d Φ 7 [gMd d h0 a0_kept none a0_chosen r0_rows r0_line r0_good r0_work x0_shelf x0_rowSort x0_rowSize x0_moved x0_shown x0_tape x0_tapeSize x0_refused x0_lines x0_changes x0_coins x0_goods x0_works x0_years x0_gone x0_spent x0_at x0_token x0_from x0_figures x0_fault x0_numbers x0_statements x0_left x0_far x0_tons x0_way x0_steps x0_met x0_queue w24, gridI d r0_line 20 7 x0_line, gridI d r0_good 8 3 x0_good, gridI d r0_work 7 5 x0_work] 0 0 143 [(0, .ref (h0 0)), (1, .int w5), (2, .int z40), (3, .int z41), (4, .int z48), (5, .int z49)] [] := by
                      intro  hs47
                      unfold fX7_never_j143 at hs47
                      refine J_iconst (v := 0) hK dX7_never_143 rfl (by decide) ?_
                      exact (j144 (0) hs47)
                    refine J_if_ne (tg := 143) hK dX7_never_127 rfl rfl (fun hc127 => ?_) (fun hc127 => ?_)
                    · have hs47 := iq hc127 hs47
                      exact (j143  hs47)
                    · have hs47 := ip hc127 hs47
                      refine J_iload hK dX7_never_130 rfl 5 rfl ?_
                      refine J_iload_n hK dX7_never_132 rfl 3 rfl rfl ?_
                      refine J_ishr hK dX7_never_133 rfl ?_
                      refine J_iconst (v := 1) hK dX7_never_134 rfl (by decide) ?_
                      refine J_iand hK dX7_never_135 rfl ?_
                      refine J_if_ne (tg := 143) hK dX7_never_136 rfl rfl (fun hc136 => ?_) (fun hc136 => ?_)
                      · have hs47 := iq hc136 hs47
                        exact (j143  hs47)
                      · have hs47 := ip hc136 hs47
                        refine J_iconst (v := 1) hK dX7_never_139 rfl (by decide) ?_
                        refine J_goto hK dX7_never_140 (n := 144) rfl ?_
                        exact (j144 (1) hs47)
              exact J_loc [2, 3, 4, 5, 1, 0] rfl (lo47 n y46 (0) hl47)
            refine J_if_ne (tg := 106) hK dX7_never_99 rfl rfl (fun hc99 => ?_) (fun hc99 => ?_)
            · have hs39 := iq hc99 hs39
              refine J_iconst (v := 0) hK dX7_never_106 rfl (by decide) ?_
              exact (j107 (0) hs39)
            · have hs39 := ip hc99 hs39
              refine J_iconst (v := 1) hK dX7_never_102 rfl (by decide) ?_
              refine J_goto hK dX7_never_103 (n := 107) rfl ?_
              exact (j107 (1) hs39)
      exact J_loc [2, 3, 1, 0] rfl (lo39 n (0) (0) hl39)
    have lo6N : ∀ (k : Nat) (z7 : Int32) (z8 : (Nat → Int32)), lp (u16 (fX7_never_s42 n x0_shelf x0_rowSort x0_rowSize x0_rows x0_moved x0_shown x0_tape x0_tapeSize x0_refused x0_lines x0_line x0_changes x0_coins x0_goods x0_good x0_works x0_work x0_years x0_gone x0_spent x0_at x0_token x0_from x0_figures x0_fault x0_numbers x0_statements x0_left x0_far x0_tons x0_way x0_steps x0_met x0_queue (fun _ => 0) (fun _ => 0) (fun _ => 0) (fun _ _ => 0) (fun _ => 0) (fun _ => 0) (fun _ => 0) (0) (fun _ => 0) (0) (0) (0) (0) (0) (fun _ => 0) (0) (fun _ => 0) (0) (0) (fun _ => 0) (fun _ => 0) w5)) k (z7, z8, 0, (fun _ _ => 0), (fillV 12 9 (fun _ => 0)), (va_up (va_up (va_up (fun _ => 0) 0 1) 1 1) 2 1), 0, (fun _ _ => 0), 0, (fun _ _ => 0), 10, 0, 0, (fun _ => 0), (fun _ => 0), 0) = some e23 → J d Φ 7 [gMd d h0 a0_kept none a0_chosen r0_rows r0_line r0_good r0_work x0_shelf x0_rowSort x0_rowSize x0_moved x0_shown x0_tape x0_tapeSize x0_refused x0_lines x0_changes x0_coins x0_goods x0_works x0_years x0_gone x0_spent x0_at x0_token x0_from x0_figures x0_fault x0_numbers x0_statements x0_left x0_far x0_tons x0_way x0_steps x0_met x0_queue z8, gridI d r0_line 20 7 x0_line, gridI d r0_good 8 3 x0_good, gridI d r0_work 7 5 x0_work] 0 0 42 [(0, .ref (h0 0)), (1, .int w5), (2, .int z7)] [] := by
      intro k
      induction k with
      | zero => intro z7 z8 h; cases h
      | succ k ih6N =>
        intro z7 z8 h
        obtain ⟨k2, rr6, hk2, hs6, hr6⟩ := lp_ok h
        cases hk2
        have hs6 : fX7_never_s42 n x0_shelf x0_rowSort x0_rowSize x0_rows x0_moved x0_shown x0_tape x0_tapeSize x0_refused x0_lines x0_line x0_changes x0_coins x0_goods x0_good x0_works x0_work x0_years x0_gone x0_spent x0_at x0_token x0_from x0_figures x0_fault x0_numbers x0_statements x0_left x0_far x0_tons x0_way x0_steps x0_met x0_queue (fun _ => 0) (fun _ => 0) (fun _ => 0) (fun _ _ => 0) (fun _ => 0) (fun _ => 0) (fun _ => 0) (0) (fun _ => 0) (0) (0) (0) (0) (0) (fun _ => 0) (0) (fun _ => 0) (0) (0) (fun _ => 0) (fun _ => 0) w5 z7 z8 (0) (fun _ _ => 0) (fillV 12 9 (fun _ => 0)) (va_up (va_up (va_up (fun _ => 0) 0 1) 1 1) 2 1) (0) (fun _ _ => 0) (0) (fun _ _ => 0) (10) (0) (0) (fun _ => 0) (fun _ => 0) (0) = some rr6 := hs6
        unfold fX7_never_s42 at hs6
        refine J_iload_n hK dX7_never_42 rfl 2 rfl rfl ?_
        refine J_iconst (v := 1) hK dX7_never_43 rfl (by decide) ?_
        refine J_aload_n hK dX7_never_44 rfl 0 rfl rfl ?_
        refine J_get hK fo_RX7_85 dX7_never_45 rfl 0 0 rfl rfl rfl ?_
        refine J_ishl hK dX7_never_48 rfl ?_
        refine J_icmp_ge (tg := 79) hK dX7_never_49 rfl rfl (fun hc49 => ?_) (fun hc49 => ?_)
        · have hs6 := ip hc49 hs6
          exact J_loc [0, 1] rfl (hx6_79N z8 (lpx hs6 hr6))
        · have hs6 := iq hc49 hs6
          refine J_aload_n hK dX7_never_52 rfl 0 rfl rfl ?_
          refine J_get hK fo_RX7_73 dX7_never_53 rfl 0 0 rfl rfl rfl ?_
          refine J_iload_n hK dX7_never_56 rfl 2 rfl rfl ?_
          refine J_iload_n hK dX7_never_57 rfl 2 rfl rfl ?_
          refine J_iload_n hK dX7_never_58 rfl 1 rfl rfl ?_
          refine J_iand hK dX7_never_59 rfl ?_
          refine J_if_ne (tg := 71) hK dX7_never_60 rfl rfl (fun hc60 => ?_) (fun hc60 => ?_)
          · have hs6 := iq hc60 hs6
            refine J_iconst (v := 0) hK dX7_never_71 rfl (by decide) ?_
            obtain ⟨f58, ef58, hs6⟩ := bs hs6
            refine J_iast (g' := gMd d h0 a0_kept none a0_chosen r0_rows r0_line r0_good r0_work x0_shelf x0_rowSort x0_rowSize x0_moved x0_shown x0_tape x0_tapeSize x0_refused x0_lines x0_changes x0_coins x0_goods x0_works x0_years x0_gone x0_spent x0_at x0_token x0_from x0_figures x0_fault x0_numbers x0_statements x0_left x0_far x0_tons x0_way x0_steps x0_met x0_queue f58) (gs' := [gMd d h0 a0_kept none a0_chosen r0_rows r0_line r0_good r0_work x0_shelf x0_rowSort x0_rowSize x0_moved x0_shown x0_tape x0_tapeSize x0_refused x0_lines x0_changes x0_coins x0_goods x0_works x0_years x0_gone x0_spent x0_at x0_token x0_from x0_figures x0_fault x0_numbers x0_statements x0_left x0_far x0_tons x0_way x0_steps x0_met x0_queue f58, gridI d r0_line 20 7 x0_line, gridI d r0_good 8 3 x0_good, gridI d r0_work 7 5 x0_work]) hK dX7_never_72 rfl 0 19 rfl rfl ef58 rfl rfl ?_
            refine J_iinc (L' := [(2, .int (z7 + 1)), (0, .ref (h0 0)), (1, .int w5)]) (v := (z7 + 1)) hK dX7_never_73 rfl 2 rfl rfl (by decide) rfl ?_
            refine J_goto hK dX7_never_76 (n := 42) rfl ?_
            exact J_loc [1, 2, 0] rfl (ih6N (z7 + 1) f58 (lpc hs6 hr6))
          · have hs6 := ip hc60 hs6
            refine J_aload_n hK dX7_never_63 rfl 0 rfl rfl ?_
            refine J_iload_n hK dX7_never_64 rfl 2 rfl rfl ?_
            obtain ⟨⟨v59, ⟨g61, g62, g63, g64, g65, g66, g67, g68, g69, g70, g71, g72, g73, g74⟩⟩, e75, hs6⟩ := bs hs6
            have hs6 := un2 hs6
            have hs6 := un14 hs6
            refine J_callV (m' := 9) (ce' := 63) (sl' := 1204) (gr := []) (gs' := fun u1 => [gMd d h0 a0_kept (some (u1.1 0)) a0_chosen r0_rows r0_line r0_good r0_work x0_shelf x0_rowSort x0_rowSize x0_moved x0_shown x0_tape x0_tapeSize x0_refused x0_lines x0_changes x0_coins x0_goods x0_works x0_years x0_gone x0_spent x0_at x0_token x0_from x0_figures x0_fault x0_numbers x0_statements x0_left x0_far x0_tons x0_way x0_steps x0_met x0_queue z8, gridI d r0_line 20 7 x0_line, gridI d r0_good 8 3 x0_good, gridI d r0_work 7 5 x0_work, gMd d u1.1 none none none u1.2.1 u1.2.2.1 u1.2.2.2.1 u1.2.2.2.2 (fun _ => 0) (fun _ => 0) (fun _ => 0) (fun _ => 0) (fun _ => 0) (fun _ => 0) (0) (fun _ => 0) g61 g63 g64 g65 g67 g69 g70 g71 (0) (0) (0) (0) (0) (fun _ => 0) (0) g72 g73 g74 (fun _ => 0) (0) (0) (fun _ => 0) (fun _ => 0), gridJ d u1.2.1 8 40 (fun _ _ => 0), gridI d u1.2.2.1 20 7 g62, gridI d u1.2.2.2.1 8 3 g66, gridI d u1.2.2.2.2 7 5 g68]) (st' := fun u1 => [.int v59, .int z7, .ref (h0 19)]) (st := [.int z7, .ref (h0 19)]) hK dX7_never_65 cv_RX7_300 iv_yX7_totalOf (As := [.int z7]) (kX7_totalOfNt _ d h0 r0_rows r0_line r0_good r0_work a0_kept a0_chosen n x0_shelf x0_rowSort x0_rowSize x0_rows x0_moved x0_shown x0_tape x0_tapeSize x0_refused x0_lines x0_line x0_changes x0_coins x0_goods x0_good x0_works x0_work x0_years x0_gone x0_spent x0_at x0_token x0_from x0_figures x0_fault x0_numbers x0_statements x0_left x0_far x0_tons x0_way x0_steps x0_met x0_queue z8 z7 e75) rfl rfl (Nat.le_of_ble_eq_true rfl) (by decide) 0 0 rfl rfl rfl [0, 1, 2, 3] [] rfl rfl rfl rfl [0, 1, 2, 3, 4, 5, 6, 7, 8] rfl (fun _ => rfl) (fun _ => rfl) rfl rfl rfl (fun _ => rfl) (fun u1 => ?_)
            refine J_goto hK dX7_never_68 (n := 72) rfl ?_
            obtain ⟨f76, ef76, hs6⟩ := bs hs6
            refine J_iast (g' := gMd d h0 a0_kept (some (u1.1 0)) a0_chosen r0_rows r0_line r0_good r0_work x0_shelf x0_rowSort x0_rowSize x0_moved x0_shown x0_tape x0_tapeSize x0_refused x0_lines x0_changes x0_coins x0_goods x0_works x0_years x0_gone x0_spent x0_at x0_token x0_from x0_figures x0_fault x0_numbers x0_statements x0_left x0_far x0_tons x0_way x0_steps x0_met x0_queue f76) (gs' := [gMd d h0 a0_kept (some (u1.1 0)) a0_chosen r0_rows r0_line r0_good r0_work x0_shelf x0_rowSort x0_rowSize x0_moved x0_shown x0_tape x0_tapeSize x0_refused x0_lines x0_changes x0_coins x0_goods x0_works x0_years x0_gone x0_spent x0_at x0_token x0_from x0_figures x0_fault x0_numbers x0_statements x0_left x0_far x0_tons x0_way x0_steps x0_met x0_queue f76, gridI d r0_line 20 7 x0_line, gridI d r0_good 8 3 x0_good, gridI d r0_work 7 5 x0_work, gMd d u1.1 none none none u1.2.1 u1.2.2.1 u1.2.2.2.1 u1.2.2.2.2 (fun _ => 0) (fun _ => 0) (fun _ => 0) (fun _ => 0) (fun _ => 0) (fun _ => 0) (0) (fun _ => 0) g61 g63 g64 g65 g67 g69 g70 g71 (0) (0) (0) (0) (0) (fun _ => 0) (0) g72 g73 g74 (fun _ => 0) (0) (0) (fun _ => 0) (fun _ => 0), gridJ d u1.2.1 8 40 (fun _ _ => 0), gridI d u1.2.2.1 20 7 g62, gridI d u1.2.2.2.1 8 3 g66, gridI d u1.2.2.2.2 7 5 g68]) hK dX7_never_72 rfl 0 19 rfl rfl ef76 rfl rfl ?_
            refine J_iinc (L' := [(2, .int (z7 + 1)), (0, .ref (h0 0)), (1, .int w5)]) (v := (z7 + 1)) hK dX7_never_73 rfl 2 rfl rfl (by decide) rfl ?_
            refine J_goto hK dX7_never_76 (n := 42) rfl ?_
            exact J_loc [1, 2, 0] rfl (lo6P k u1 (z7 + 1) f76 g61 g62 g63 g64 g65 g66 g67 g68 g69 g70 g71 g72 g73 g74 (lpc hs6 hr6))
    exact J_loc [1, 2, 0] rfl (lo6N n (0) x0_totals hl6)
  have lo1 : ∀ (k : Nat) (z2 : Int32) (z3 : Int32), lp (u2 (fX7_never_s4 x0_works x0_work)) k (z2, z3) = some e4 → J d Φ 7 [gMd d h0 a0_kept none a0_chosen r0_rows r0_line r0_good r0_work x0_shelf x0_rowSort x0_rowSize x0_moved x0_shown x0_tape x0_tapeSize x0_refused x0_lines x0_changes x0_coins x0_goods x0_works x0_years x0_gone x0_spent x0_at x0_token x0_from x0_figures x0_fault x0_numbers x0_statements x0_left x0_far x0_tons x0_way x0_steps x0_met x0_queue x0_totals, gridI d r0_line 20 7 x0_line, gridI d r0_good 8 3 x0_good, gridI d r0_work 7 5 x0_work] 0 0 4 [(0, .ref (h0 0)), (1, .int z2), (2, .int z3)] [] := by
    intro k
    induction k with
    | zero => intro z2 z3 h; cases h
    | succ k ih1 =>
      intro z2 z3 h
      obtain ⟨k2, rr1, hk2, hs1, hr1⟩ := lp_ok h
      cases hk2
      have hs1 : fX7_never_s4 x0_works x0_work z2 z3 = some rr1 := hs1
      unfold fX7_never_s4 at hs1
      refine J_iload_n hK dX7_never_4 rfl 2 rfl rfl ?_
      refine J_aload_n hK dX7_never_5 rfl 0 rfl rfl ?_
      refine J_get hK fo_RX7_85 dX7_never_6 rfl 0 0 rfl rfl rfl ?_
      refine J_icmp_ge (tg := 40) hK dX7_never_9 rfl rfl (fun hc9 => ?_) (fun hc9 => ?_)
      · have hs1 := ip hc9 hs1
        exact J_loc [0, 1] rfl (hx1_40 z2 (lpx hs1 hr1))
      · have hs1 := iq hc9 hs1
        refine J_iload_n hK dX7_never_12 rfl 1 rfl rfl ?_
        refine J_aload_n hK dX7_never_13 rfl 0 rfl rfl ?_
        refine J_get hK fo_RX7_51 dX7_never_14 rfl 0 0 rfl rfl rfl ?_
        refine J_iload_n hK dX7_never_17 rfl 2 rfl rfl ?_
        obtain ⟨q77, eq77, hs1⟩ := bs hs1
        refine J_aald hK dX7_never_18 rfl 0 13 rfl rfl rfl eq77 ?_
        refine J_iconst (v := 4) hK dX7_never_19 rfl (by decide) ?_
        obtain ⟨v78, ev78, hs1⟩ := bs hs1
        refine J_iald hK dX7_never_20 rfl 3 q77 rfl (gridI_at (ck_ok eq77).2.2) ev78 ?_
        refine J_iconst (v := 1) hK dX7_never_21 rfl (by decide) ?_
        refine J_icmp_ne (tg := 31) hK dX7_never_22 rfl rfl (fun hc22 => ?_) (fun hc22 => ?_)
        · have hs1 := iq hc22 hs1
          refine J_iconst (v := 0) hK dX7_never_31 rfl (by decide) ?_
          refine J_ior hK dX7_never_32 rfl ?_
          refine J_istore_n (L' := [(1, .int (z2 ||| 0)), (0, .ref (h0 0)), (2, .int z3)]) hK dX7_never_33 rfl rfl (by decide) rfl ?_
          refine J_iinc (L' := [(2, .int (z3 + 1)), (1, .int (z2 ||| 0)), (0, .ref (h0 0))]) (v := (z3 + 1)) hK dX7_never_34 rfl 2 rfl rfl (by decide) rfl ?_
          refine J_goto hK dX7_never_37 (n := 4) rfl ?_
          exact J_loc [2, 1, 0] rfl (ih1 (z2 ||| 0) (z3 + 1) (lpc hs1 hr1))
        · have hs1 := ip hc22 hs1
          refine J_iconst (v := 1) hK dX7_never_25 rfl (by decide) ?_
          refine J_iload_n hK dX7_never_26 rfl 2 rfl rfl ?_
          refine J_ishl hK dX7_never_27 rfl ?_
          refine J_goto hK dX7_never_28 (n := 32) rfl ?_
          refine J_ior hK dX7_never_32 rfl ?_
          obtain ⟨t79, et79, hs1⟩ := bs hs1
          refine J_nmi et79 ?_
          refine J_istore_n (L' := [(1, .int t79), (0, .ref (h0 0)), (2, .int z3)]) hK dX7_never_33 rfl rfl (by decide) rfl ?_
          refine J_iinc (L' := [(2, .int (z3 + 1)), (1, .int t79), (0, .ref (h0 0))]) (v := (z3 + 1)) hK dX7_never_34 rfl 2 rfl rfl (by decide) rfl ?_
          refine J_goto hK dX7_never_37 (n := 4) rfl ?_
          exact J_loc [2, 1, 0] rfl (ih1 t79 (z3 + 1) (lpc hs1 hr1))
  exact J_loc [2, 1, 0] rfl (lo1 n (0) (0) hl1)


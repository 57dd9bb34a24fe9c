section

set_option maxHeartbeats 4000000 in
set_option maxRecDepth 100000 in
theorem kX7_edgeNt (l : Launch) (d : DT) (h0 : Nat → Nat) (r0_rows : Nat → Nat) (r0_line : Nat → Nat) (r0_good : Nat → Nat) (r0_work : Nat → Nat) (a0_kept : Option Nat) (a0_chosen : Option Nat) (n : Nat) (x0_shelf : (Nat → Int32)) (x0_rowSort : (Nat → Int32)) (x0_rowSize : (Nat → Int32)) (x0_rows : (Nat → Nat → Int64)) (x0_moved : (Nat → Int64)) (x0_shown : (Nat → Int32)) (x0_tape : (Nat → Int32)) (x0_tapeSize : Int32) (x0_refused : (Nat → Int32)) (x0_lines : Int32) (x0_line : (Nat → Nat → Int32)) (x0_changes : (Nat → Int32)) (x0_coins : (Nat → Int32)) (x0_goods : Int32) (x0_good : (Nat → Nat → Int32)) (x0_works : Int32) (x0_work : (Nat → Nat → Int32)) (x0_years : Int32) (x0_gone : Int32) (x0_spent : Int32) (x0_at : Int32) (x0_token : Int32) (x0_from : Int32) (x0_figures : Int64) (x0_fault : Int32) (x0_numbers : (Nat → Int32)) (x0_statements : Int32) (x0_left : (Nat → Int32)) (x0_far : (Nat → Int32)) (x0_tons : Int32) (x0_way : (Nat → Int32)) (x0_steps : Int32) (x0_met : Int64) (x0_queue : (Nat → Int32)) (x0_totals : (Nat → Int32)) (p1 : Int32)  {out : Int32 × (Nat → Int32) × (Int32 × (Nat → Nat → Int32) × (Nat → Int32) × (Nat → Int32) × Int32 × (Nat → Nat → Int32) × Int32 × (Nat → Nat → Int32) × Int32 × Int32 × Int32 × (Nat → Int32) × (Nat → Int32) × Int32)} (hf : fX7_edge n (x0_shelf, x0_rowSort, x0_rowSize, x0_rows, x0_moved, x0_shown, x0_tape, x0_tapeSize, x0_refused, x0_lines, x0_line, x0_changes, x0_coins, x0_goods, x0_good, x0_works, x0_work, x0_years, x0_gone, x0_spent, x0_at, x0_token, x0_from, x0_figures, x0_fault, x0_numbers, x0_statements, x0_left, x0_far, x0_tons, x0_way, x0_steps, x0_met, x0_queue, x0_totals) ((fun _ => 0), (fun _ => 0), (fun _ => 0), (fun _ _ => 0), (fun _ => 0), (fun _ => 0), (fun _ => 0), 0, (fun _ => 0), 0, (fun _ _ => 0), (fillV 12 9 (fun _ => 0)), (va_up (va_up (va_up (fun _ => 0) 0 1) 1 1) 2 1), 0, (fun _ _ => 0), 0, (fun _ _ => 0), 10, 0, 0, 0, 0, 0, 0, 0, (fun _ => 0), 0, (fun _ => 0), (fun _ => 0), 0, (fun _ => 0), 0, 0, (fun _ => 0), (fun _ => 0)) p1 = some out) : Ct l d yX7_edge cX7_edge 4 (some .int) { frames := 5, cells := 63, slots := 1204, locals := 108 } [.ref (h0 0), .int p1] [gMd d h0 a0_kept none a0_chosen r0_rows r0_line r0_good r0_work x0_shelf x0_rowSort x0_rowSize x0_moved x0_shown x0_tape x0_tapeSize x0_refused x0_lines x0_changes x0_coins x0_goods x0_works x0_years x0_gone x0_spent x0_at x0_token x0_from x0_figures x0_fault x0_numbers x0_statements x0_left x0_far x0_tons x0_way x0_steps x0_met x0_queue x0_totals, gridI d r0_line 20 7 x0_line, gridI d r0_good 8 3 x0_good, gridI d r0_work 7 5 x0_work] (fun u : {q : Option AdM // q = none → ((fun _ => 0), (fun _ => 0), (fun _ => 0), (fun _ _ => 0), (fun _ => 0), (fun _ => 0), (fun _ => 0), 0, (fun _ => 0), out.2.2.1, out.2.2.2.1, out.2.2.2.2.1, out.2.2.2.2.2.1, out.2.2.2.2.2.2.1, out.2.2.2.2.2.2.2.1, out.2.2.2.2.2.2.2.2.1, out.2.2.2.2.2.2.2.2.2.1, out.2.2.2.2.2.2.2.2.2.2.1, out.2.2.2.2.2.2.2.2.2.2.2.1, out.2.2.2.2.2.2.2.2.2.2.2.2.1, 0, 0, 0, 0, 0, (fun _ => 0), 0, out.2.2.2.2.2.2.2.2.2.2.2.2.2.1, out.2.2.2.2.2.2.2.2.2.2.2.2.2.2.1, out.2.2.2.2.2.2.2.2.2.2.2.2.2.2.2, (fun _ => 0), 0, 0, (fun _ => 0), (fun _ => 0)) = M0} => (some (.int out.1), [gMd d h0 a0_kept (bs_ u.1) a0_chosen r0_rows r0_line r0_good r0_work x0_shelf x0_rowSort x0_rowSize x0_moved x0_shown x0_tape x0_tapeSize (out.2.1) x0_lines x0_changes x0_coins x0_goods x0_works x0_years x0_gone x0_spent x0_at x0_token x0_from x0_figures x0_fault x0_numbers x0_statements x0_left x0_far x0_tons x0_way x0_steps x0_met x0_queue x0_totals, gridI d r0_line 20 7 x0_line, gridI d r0_good 8 3 x0_good, gridI d r0_work 7 5 x0_work, oMd d (u.1) none none none (fun _ => 0) (fun _ => 0) (fun _ => 0) (fun _ _ => 0) (fun _ => 0) (fun _ => 0) (fun _ => 0) (0) (fun _ => 0) (out.2.2.1) (out.2.2.2.1) (out.2.2.2.2.1) (out.2.2.2.2.2.1) (out.2.2.2.2.2.2.1) (out.2.2.2.2.2.2.2.1) (out.2.2.2.2.2.2.2.2.1) (out.2.2.2.2.2.2.2.2.2.1) (out.2.2.2.2.2.2.2.2.2.2.1) (out.2.2.2.2.2.2.2.2.2.2.2.1) (out.2.2.2.2.2.2.2.2.2.2.2.2.1) (0) (0) (0) (0) (0) (fun _ => 0) (0) (out.2.2.2.2.2.2.2.2.2.2.2.2.2.1) (out.2.2.2.2.2.2.2.2.2.2.2.2.2.2.1) (out.2.2.2.2.2.2.2.2.2.2.2.2.2.2.2) (fun _ => 0) (0) (0) (fun _ => 0) (fun _ => 0)])) := by
  refine Ct.of (by decide) (Nat.le_of_ble_eq_true rfl) ?_
  intro Φ hl hK hR
  subst hl
  have hK : Ok d Φ RX7 "edge" cX7_edge 4 (some .int) { frames := 5, cells := 63, slots := 1204, locals := 108 } := hK
  unfold fX7_edge at hf
  have hf := un35 hf
  have hf := un35 hf
  show J d Φ 4 [gMd d h0 a0_kept none a0_chosen r0_rows r0_line r0_good r0_work x0_shelf x0_rowSort x0_rowSize x0_moved x0_shown x0_tape x0_tapeSize x0_refused x0_lines x0_changes x0_coins x0_goods x0_works x0_years x0_gone x0_spent x0_at x0_token x0_from x0_figures x0_fault x0_numbers x0_statements x0_left x0_far x0_tons x0_way x0_steps x0_met x0_queue x0_totals, gridI d r0_line 20 7 x0_line, gridI d r0_good 8 3 x0_good, gridI d r0_work 7 5 x0_work] 0 0 0 [(0, .ref (h0 0)), (1, .int p1)] []
  refine J_aload_n hK qd4_55.1 rfl 0 rfl rfl ?_
  refine J_iload_n hK qd4_55.2.1 rfl 1 rfl rfl ?_
  obtain ⟨v1, e2, hf⟩ := bs hf
  refine J_callV (m := 4) (m' := 4) (ce' := 0) (sl' := 0) (gr := [gridI d r0_line 20 7 x0_line, gridI d r0_good 8 3 x0_good, gridI d r0_work 7 5 x0_work]) (gs' := fun _ => [gMd d h0 a0_kept none a0_chosen r0_rows r0_line r0_good r0_work x0_shelf x0_rowSort x0_rowSize x0_moved x0_shown x0_tape x0_tapeSize x0_refused x0_lines x0_changes x0_coins x0_goods x0_works x0_years x0_gone x0_spent x0_at x0_token x0_from x0_figures x0_fault x0_numbers x0_statements x0_left x0_far x0_tons x0_way x0_steps x0_met x0_queue x0_totals, gridI d r0_line 20 7 x0_line, gridI d r0_good 8 3 x0_good, gridI d r0_work 7 5 x0_work]) (st' := fun _ => [.int v1]) (st := []) hK qd4_55.2.2.1 cv_RX7_102 iv_yX7_isWork (As := [.int p1]) (kX7_isWork _ d h0 r0_rows r0_line r0_good r0_work a0_kept none a0_chosen x0_shelf x0_rowSort x0_rowSize x0_rows x0_moved x0_shown x0_tape x0_tapeSize x0_refused x0_lines x0_line x0_changes x0_coins x0_goods x0_good x0_works x0_work x0_years x0_gone x0_spent x0_at x0_token x0_from x0_figures x0_fault x0_numbers x0_statements x0_left x0_far x0_tons x0_way x0_steps x0_met x0_queue x0_totals p1 e2) rfl rfl (Nat.le_of_ble_eq_true rfl) (by decide) 0 0 rfl rfl rfl [0] [1, 2, 3] rfl (by decide +kernel) rfl rfl [3, 0, 1, 2] (by decide +kernel) (fun _ => rfl) (fun _ => rfl) rfl rfl rfl (fun _ => rfl) (fun _ => ?_)
  refine J_if_ne (tg := 15) hK qd4_55.2.2.2.1 rfl rfl (fun hc5 => ?_) (fun hc5 => ?_)
  · have hf := iq hc5 hf
    refine J_aload_n hK qd4_55.2.2.2.2.2.2.2.2.1 rfl 0 rfl rfl ?_
    refine J_get hK fo_RX7_51 qd4_55.2.2.2.2.2.2.2.2.2.1 rfl 0 0 rfl rfl rfl ?_
    refine J_iload_n hK qd4_55.2.2.2.2.2.2.2.2.2.2.1 rfl 1 rfl rfl ?_
    obtain ⟨q3, eq3, hf⟩ := bs hf
    refine J_aald hK qd4_55.2.2.2.2.2.2.2.2.2.2.2.1 rfl 0 13 rfl rfl rfl eq3 ?_
    refine J_iconst (v := 4) hK qd4_55.2.2.2.2.2.2.2.2.2.2.2.2.1 rfl (by decide) ?_
    obtain ⟨v4, ev4, hf⟩ := bs hf
    refine J_iald hK qd4_55.2.2.2.2.2.2.2.2.2.2.2.2.2.1 rfl 3 q3 rfl (gridI_at (ck_ok eq3).2.2) ev4 ?_
    refine J_iconst (v := 1) hK qd4_55.2.2.2.2.2.2.2.2.2.2.2.2.2.2.1 rfl (by decide) ?_
    refine J_icmp_ne (tg := 34) hK qd4_55.2.2.2.2.2.2.2.2.2.2.2.2.2.2.2.1 rfl rfl (fun hc24 => ?_) (fun hc24 => ?_)
    · have hf := iq hc24 hf
      refine J_aload_n hK qd4_56.2.2.2.2.1 rfl 0 rfl rfl ?_
      refine J_iload_n hK qd4_56.2.2.2.2.2.1 rfl 1 rfl rfl ?_
      obtain ⟨⟨v5, ⟨g7, g8, g9, g10, g11, g12, g13, g14, g15, g16, g17, g18, g19, g20⟩⟩, e21, hf⟩ := bs hf
      have hf := un2 hf
      have hf := un14 hf
      refine J_callV (m := 4) (m' := 9) (ce' := 63) (sl' := 1204) (gr := []) (gs' := fun u1 => [gMd d h0 a0_kept (some (u1.1 0)) a0_chosen r0_rows r0_line r0_good r0_work x0_shelf x0_rowSort x0_rowSize x0_moved x0_shown x0_tape x0_tapeSize x0_refused x0_lines x0_changes x0_coins x0_goods x0_works x0_years x0_gone x0_spent x0_at x0_token x0_from x0_figures x0_fault x0_numbers x0_statements x0_left x0_far x0_tons x0_way x0_steps x0_met x0_queue x0_totals, gridI d r0_line 20 7 x0_line, gridI d r0_good 8 3 x0_good, gridI d r0_work 7 5 x0_work, gMd d u1.1 none none none u1.2.1 u1.2.2.1 u1.2.2.2.1 u1.2.2.2.2 (fun _ => 0) (fun _ => 0) (fun _ => 0) (fun _ => 0) (fun _ => 0) (fun _ => 0) (0) (fun _ => 0) g7 g9 g10 g11 g13 g15 g16 g17 (0) (0) (0) (0) (0) (fun _ => 0) (0) g18 g19 g20 (fun _ => 0) (0) (0) (fun _ => 0) (fun _ => 0), gridJ d u1.2.1 8 40 (fun _ _ => 0), gridI d u1.2.2.1 20 7 g8, gridI d u1.2.2.2.1 8 3 g12, gridI d u1.2.2.2.2 7 5 g14]) (st' := fun u1 => [.int v5]) (st := []) hK qd4_56.2.2.2.2.2.2.1 cv_RX7_303 iv_yX7_saves (As := [.int p1]) (kX7_savesNt _ d h0 r0_rows r0_line r0_good r0_work a0_kept a0_chosen n x0_shelf x0_rowSort x0_rowSize x0_rows x0_moved x0_shown x0_tape x0_tapeSize x0_refused x0_lines x0_line x0_changes x0_coins x0_goods x0_good x0_works x0_work x0_years x0_gone x0_spent x0_at x0_token x0_from x0_figures x0_fault x0_numbers x0_statements x0_left x0_far x0_tons x0_way x0_steps x0_met x0_queue x0_totals p1 e21) rfl rfl (Nat.le_of_ble_eq_true rfl) (by decide) 0 0 rfl rfl rfl [0, 1, 2, 3] [] rfl (by decide +kernel) rfl rfl [0, 1, 2, 3, 4, 5, 6, 7, 8] (by decide +kernel) (fun _ => rfl) (fun _ => rfl) rfl rfl rfl (fun _ => rfl) (fun u1 => ?_)
      refine J_istore_n (L' := [(2, .int v5), (0, .ref (h0 0)), (1, .int p1)]) hK qd4_56.2.2.2.2.2.2.2.1 rfl rfl (by decide) rfl ?_
      refine J_iconst (v := 1) hK qd4_56.2.2.2.2.2.2.2.2.1 rfl (by decide) ?_
      refine J_istore_n (L' := [(3, .int (1)), (2, .int v5), (0, .ref (h0 0)), (1, .int p1)]) hK qd4_56.2.2.2.2.2.2.2.2.2.1 rfl rfl (by decide) rfl ?_
      obtain ⟨e24, hl22, hf⟩ := bs hf
      have hx22_62 : ∀ (w25 : Int32), (.inl w25) = e24 → J d Φ 4 [gMd d h0 a0_kept (some (u1.1 0)) a0_chosen r0_rows r0_line r0_good r0_work x0_shelf x0_rowSort x0_rowSize x0_moved x0_shown x0_tape x0_tapeSize x0_refused x0_lines x0_changes x0_coins x0_goods x0_works x0_years x0_gone x0_spent x0_at x0_token x0_from x0_figures x0_fault x0_numbers x0_statements x0_left x0_far x0_tons x0_way x0_steps x0_met x0_queue x0_totals, gridI d r0_line 20 7 x0_line, gridI d r0_good 8 3 x0_good, gridI d r0_work 7 5 x0_work, gMd d u1.1 none none none u1.2.1 u1.2.2.1 u1.2.2.2.1 u1.2.2.2.2 (fun _ => 0) (fun _ => 0) (fun _ => 0) (fun _ => 0) (fun _ => 0) (fun _ => 0) (0) (fun _ => 0) g7 g9 g10 g11 g13 g15 g16 g17 (0) (0) (0) (0) (0) (fun _ => 0) (0) g18 g19 g20 (fun _ => 0) (0) (0) (fun _ => 0) (fun _ => 0), gridJ d u1.2.1 8 40 (fun _ _ => 0), gridI d u1.2.2.1 20 7 g8, gridI d u1.2.2.2.1 8 3 g12, gridI d u1.2.2.2.2 7 5 g14] 63 1204 62 [(3, .int w25)] [] := by
        intro w25 he
        rw [← he] at hf
        simp only [Sum.elim_inl, Sum.elim_inr] at hf
        refine J_iload_n hK qd4_57.2.2.2.2.2.2.2.1 rfl 0 rfl rfl ?_
        obtain rfl := Option.some.inj hf
        refine J_close (l := sMd d u1 none none none (fun _ => 0) (fun _ => 0) (fun _ => 0) (fun _ _ => 0) (fun _ => 0) (fun _ => 0) (fun _ => 0) (0) (fun _ => 0) g7 g8 g9 g10 g11 g12 g13 g14 g15 g16 g17 (0) (0) (0) (0) (0) (fun _ => 0) (0) g18 g19 g20 (fun _ => 0) (0) (0) (fun _ => 0) (fun _ => 0)) (gs2 := [gMd d h0 a0_kept (some (u1.1 0)) a0_chosen r0_rows r0_line r0_good r0_work x0_shelf x0_rowSort x0_rowSize x0_moved x0_shown x0_tape x0_tapeSize x0_refused x0_lines x0_changes x0_coins x0_goods x0_works x0_years x0_gone x0_spent x0_at x0_token x0_from x0_figures x0_fault x0_numbers x0_statements x0_left x0_far x0_tons x0_way x0_steps x0_met x0_queue x0_totals, gridI d r0_line 20 7 x0_line, gridI d r0_good 8 3 x0_good, gridI d r0_work 7 5 x0_work, oMd d (some u1) none none none (fun _ => 0) (fun _ => 0) (fun _ => 0) (fun _ _ => 0) (fun _ => 0) (fun _ => 0) (fun _ => 0) (0) (fun _ => 0) g7 g8 g9 g10 g11 g12 g13 g14 g15 g16 g17 (0) (0) (0) (0) (0) (fun _ => 0) (0) g18 g19 g20 (fun _ => 0) (0) (0) (fun _ => 0) (fun _ => 0)]) 4 rfl rfl ?_
        exact J_iret hK hR qd4_57.2.2.2.2.2.2.2.2.1 ⟨some u1, fun h => by cases h⟩ rfl (by decide) (by decide)
      have hx22_70 : (.inr ()) = e24 → J d Φ 4 [gMd d h0 a0_kept (some (u1.1 0)) a0_chosen r0_rows r0_line r0_good r0_work x0_shelf x0_rowSort x0_rowSize x0_moved x0_shown x0_tape x0_tapeSize x0_refused x0_lines x0_changes x0_coins x0_goods x0_works x0_years x0_gone x0_spent x0_at x0_token x0_from x0_figures x0_fault x0_numbers x0_statements x0_left x0_far x0_tons x0_way x0_steps x0_met x0_queue x0_totals, gridI d r0_line 20 7 x0_line, gridI d r0_good 8 3 x0_good, gridI d r0_work 7 5 x0_work, gMd d u1.1 none none none u1.2.1 u1.2.2.1 u1.2.2.2.1 u1.2.2.2.2 (fun _ => 0) (fun _ => 0) (fun _ => 0) (fun _ => 0) (fun _ => 0) (fun _ => 0) (0) (fun _ => 0) g7 g9 g10 g11 g13 g15 g16 g17 (0) (0) (0) (0) (0) (fun _ => 0) (0) g18 g19 g20 (fun _ => 0) (0) (0) (fun _ => 0) (fun _ => 0), gridJ d u1.2.1 8 40 (fun _ _ => 0), gridI d u1.2.2.1 20 7 g8, gridI d u1.2.2.2.1 8 3 g12, gridI d u1.2.2.2.2 7 5 g14] 63 1204 70 [] [] := by
        intro  he
        rw [← he] at hf
        simp only [Sum.elim_inl, Sum.elim_inr] at hf
        refine J_iconst (v := (-1)) hK qd4_57.2.2.2.2.2.2.2.2.2.2.2.1 rfl (by decide) ?_
        obtain rfl := Option.some.inj hf
        refine J_close (l := sMd d u1 none none none (fun _ => 0) (fun _ => 0) (fun _ => 0) (fun _ _ => 0) (fun _ => 0) (fun _ => 0) (fun _ => 0) (0) (fun _ => 0) g7 g8 g9 g10 g11 g12 g13 g14 g15 g16 g17 (0) (0) (0) (0) (0) (fun _ => 0) (0) g18 g19 g20 (fun _ => 0) (0) (0) (fun _ => 0) (fun _ => 0)) (gs2 := [gMd d h0 a0_kept (some (u1.1 0)) a0_chosen r0_rows r0_line r0_good r0_work x0_shelf x0_rowSort x0_rowSize x0_moved x0_shown x0_tape x0_tapeSize x0_refused x0_lines x0_changes x0_coins x0_goods x0_works x0_years x0_gone x0_spent x0_at x0_token x0_from x0_figures x0_fault x0_numbers x0_statements x0_left x0_far x0_tons x0_way x0_steps x0_met x0_queue x0_totals, gridI d r0_line 20 7 x0_line, gridI d r0_good 8 3 x0_good, gridI d r0_work 7 5 x0_work, oMd d (some u1) none none none (fun _ => 0) (fun _ => 0) (fun _ => 0) (fun _ _ => 0) (fun _ => 0) (fun _ => 0) (fun _ => 0) (0) (fun _ => 0) g7 g8 g9 g10 g11 g12 g13 g14 g15 g16 g17 (0) (0) (0) (0) (0) (fun _ => 0) (0) g18 g19 g20 (fun _ => 0) (0) (0) (fun _ => 0) (fun _ => 0)]) 4 rfl rfl ?_
        exact J_iret hK hR qd4_57.2.2.2.2.2.2.2.2.2.2.2.2.1 ⟨some u1, fun h => by cases h⟩ rfl (by decide) (by decide)
      have lo22 : ∀ (k : Nat) (z23 : Int32), lp (fX7_edge_s42 p1 x0_work v5) k z23 = some e24 → J d Φ 4 [gMd d h0 a0_kept (some (u1.1 0)) a0_chosen r0_rows r0_line r0_good r0_work x0_shelf x0_rowSort x0_rowSize x0_moved x0_shown x0_tape x0_tapeSize x0_refused x0_lines x0_changes x0_coins x0_goods x0_works x0_years x0_gone x0_spent x0_at x0_token x0_from x0_figures x0_fault x0_numbers x0_statements x0_left x0_far x0_tons x0_way x0_steps x0_met x0_queue x0_totals, gridI d r0_line 20 7 x0_line, gridI d r0_good 8 3 x0_good, gridI d r0_work 7 5 x0_work, gMd d u1.1 none none none u1.2.1 u1.2.2.1 u1.2.2.2.1 u1.2.2.2.2 (fun _ => 0) (fun _ => 0) (fun _ => 0) (fun _ => 0) (fun _ => 0) (fun _ => 0) (0) (fun _ => 0) g7 g9 g10 g11 g13 g15 g16 g17 (0) (0) (0) (0) (0) (fun _ => 0) (0) g18 g19 g20 (fun _ => 0) (0) (0) (fun _ => 0) (fun _ => 0), gridJ d u1.2.1 8 40 (fun _ _ => 0), gridI d u1.2.2.1 20 7 g8, gridI d u1.2.2.2.1 8 3 g12, gridI d u1.2.2.2.2 7 5 g14] 63 1204 42 [(0, .ref (h0 0)), (1, .int p1), (2, .int v5), (3, .int z23)] [] := by
        intro k
        induction k with
        | zero => intro z23 h; cases h
        | succ k ih22 =>
          intro z23 h
          obtain ⟨k2, rr22, hk2, hs22, hr22⟩ := lp_ok h
          cases hk2
          have hs22 : fX7_edge_s42 p1 x0_work v5 z23 = some rr22 := hs22
          unfold fX7_edge_s42 at hs22
          refine J_iload_n hK qd4_56.2.2.2.2.2.2.2.2.2.2.1 rfl 3 rfl rfl ?_
          refine J_bipush (v := 30) hK qd4_56.2.2.2.2.2.2.2.2.2.2.2.1 rfl (by decide) ?_
          refine J_icmp_gt (tg := 70) hK qd4_56.2.2.2.2.2.2.2.2.2.2.2.2.1 rfl rfl (fun hc45 => ?_) (fun hc45 => ?_)
          · have hs22 := ip hc45 hs22
            exact J_loc [] rfl (hx22_70  (lpx hs22 hr22))
          · have hs22 := iq hc45 hs22
            refine J_iload_n hK qd4_56.2.2.2.2.2.2.2.2.2.2.2.2.2.1 rfl 3 rfl rfl ?_
            refine J_iload_n hK qd4_56.2.2.2.2.2.2.2.2.2.2.2.2.2.2.1 rfl 2 rfl rfl ?_
            refine J_imul hK qd4_56.2.2.2.2.2.2.2.2.2.2.2.2.2.2.2.1 rfl ?_
            refine J_aload_n hK qd4_57.1 rfl 0 rfl rfl ?_
            refine J_get hK fo_RX7_51 qd4_57.2.1 rfl 0 0 rfl rfl rfl ?_
            refine J_iload_n hK qd4_57.2.2.1 rfl 1 rfl rfl ?_
            obtain ⟨q26, eq26, hs22⟩ := bs hs22
            refine J_aald hK qd4_57.2.2.2.1 rfl 0 13 rfl rfl rfl eq26 ?_
            refine J_iconst (v := 3) hK qd4_57.2.2.2.2.1 rfl (by decide) ?_
            obtain ⟨v27, ev27, hs22⟩ := bs hs22
            refine J_iald hK qd4_57.2.2.2.2.2.1 rfl 3 q26 rfl (gridI_at (ck_ok eq26).2.2) ev27 ?_
            refine J_icmp_le (tg := 64) hK qd4_57.2.2.2.2.2.2.1 rfl rfl (fun hc59 => ?_) (fun hc59 => ?_)
            · have hs22 := ip hc59 hs22
              refine J_iinc (L' := [(3, .int (z23 + 1)), (0, .ref (h0 0)), (1, .int p1), (2, .int v5)]) (v := (z23 + 1)) hK qd4_57.2.2.2.2.2.2.2.2.2.1 rfl 3 rfl rfl (by decide) rfl ?_
              refine J_goto hK qd4_57.2.2.2.2.2.2.2.2.2.2.1 (n := 42) rfl ?_
              exact J_loc [1, 2, 3, 0] rfl (ih22 (z23 + 1) (lpc hs22 hr22))
            · have hs22 := iq hc59 hs22
              exact J_loc [3] rfl (hx22_62 z23 (lpx hs22 hr22))
      exact J_loc [2, 3, 1, 0] rfl (lo22 n (1) hl22)
    · have hf := ip hc24 hf
      refine J_aload_n hK qd4_56.1 rfl 0 rfl rfl ?_
      refine J_bipush (v := (-5)) hK qd4_56.2.1 rfl (by decide) ?_
      obtain ⟨⟨v28, g29⟩, e30, hf⟩ := bs hf
      have hf := un2 hf
      refine J_callV (m := 4) (m' := 4) (ce' := 0) (sl' := 0) (gr := [gridI d r0_line 20 7 x0_line, gridI d r0_good 8 3 x0_good, gridI d r0_work 7 5 x0_work]) (gs' := fun _ => [gMd d h0 a0_kept none a0_chosen r0_rows r0_line r0_good r0_work x0_shelf x0_rowSort x0_rowSize x0_moved x0_shown x0_tape x0_tapeSize g29 x0_lines x0_changes x0_coins x0_goods x0_works x0_years x0_gone x0_spent x0_at x0_token x0_from x0_figures x0_fault x0_numbers x0_statements x0_left x0_far x0_tons x0_way x0_steps x0_met x0_queue x0_totals, gridI d r0_line 20 7 x0_line, gridI d r0_good 8 3 x0_good, gridI d r0_work 7 5 x0_work]) (st' := fun _ => [.int v28]) (st := []) hK qd4_56.2.2.1 cv_RX7_94 iv_yX7_refuse (As := [.int (-5)]) (kX7_refuse _ d h0 r0_rows r0_line r0_good r0_work a0_kept none a0_chosen x0_shelf x0_rowSort x0_rowSize x0_rows x0_moved x0_shown x0_tape x0_tapeSize x0_refused x0_lines x0_line x0_changes x0_coins x0_goods x0_good x0_works x0_work x0_years x0_gone x0_spent x0_at x0_token x0_from x0_figures x0_fault x0_numbers x0_statements x0_left x0_far x0_tons x0_way x0_steps x0_met x0_queue x0_totals (-5) e30) rfl rfl (Nat.le_of_ble_eq_true rfl) (by decide) 0 0 rfl rfl rfl [0] [1, 2, 3] rfl (by decide +kernel) rfl rfl [3, 0, 1, 2] (by decide +kernel) (fun _ => rfl) (fun _ => rfl) rfl rfl rfl (fun _ => rfl) (fun _ => ?_)
      obtain rfl := Option.some.inj hf
      refine J_fl (gs2 := [gMd d h0 a0_kept none a0_chosen r0_rows r0_line r0_good r0_work x0_shelf x0_rowSort x0_rowSize x0_moved x0_shown x0_tape x0_tapeSize g29 x0_lines x0_changes x0_coins x0_goods x0_works x0_years x0_gone x0_spent x0_at x0_token x0_from x0_figures x0_fault x0_numbers x0_statements x0_left x0_far x0_tons x0_way x0_steps x0_met x0_queue x0_totals, gridI d r0_line 20 7 x0_line, gridI d r0_good 8 3 x0_good, gridI d r0_work 7 5 x0_work, oMd d none none none none (fun _ => 0) (fun _ => 0) (fun _ => 0) (fun _ _ => 0) (fun _ => 0) (fun _ => 0) (fun _ => 0) (0) (fun _ => 0) (0) (fun _ _ => 0) (fillV 12 9 (fun _ => 0)) (va_up (va_up (va_up (fun _ => 0) 0 1) 1 1) 2 1) (0) (fun _ _ => 0) (0) (fun _ _ => 0) (10) (0) (0) (0) (0) (0) (0) (0) (fun _ => 0) (0) (fun _ => 0) (fun _ => 0) (0) (fun _ => 0) (0) (0) (fun _ => 0) (fun _ => 0)]) rfl ?_
      exact J_iret hK hR qd4_56.2.2.2.1 ⟨none, fun _ => rfl⟩ rfl (by decide) (by decide)
  · have hf := ip hc5 hf
    refine J_aload_n hK qd4_55.2.2.2.2.1 rfl 0 rfl rfl ?_
    refine J_bipush (v := (-2)) hK qd4_55.2.2.2.2.2.1 rfl (by decide) ?_
    obtain ⟨⟨v31, g32⟩, e33, hf⟩ := bs hf
    have hf := un2 hf
    refine J_callV (m := 4) (m' := 4) (ce' := 0) (sl' := 0) (gr := [gridI d r0_line 20 7 x0_line, gridI d r0_good 8 3 x0_good, gridI d r0_work 7 5 x0_work]) (gs' := fun _ => [gMd d h0 a0_kept none a0_chosen r0_rows r0_line r0_good r0_work x0_shelf x0_rowSort x0_rowSize x0_moved x0_shown x0_tape x0_tapeSize g32 x0_lines x0_changes x0_coins x0_goods x0_works x0_years x0_gone x0_spent x0_at x0_token x0_from x0_figures x0_fault x0_numbers x0_statements x0_left x0_far x0_tons x0_way x0_steps x0_met x0_queue x0_totals, gridI d r0_line 20 7 x0_line, gridI d r0_good 8 3 x0_good, gridI d r0_work 7 5 x0_work]) (st' := fun _ => [.int v31]) (st := []) hK qd4_55.2.2.2.2.2.2.1 cv_RX7_94 iv_yX7_refuse (As := [.int (-2)]) (kX7_refuse _ d h0 r0_rows r0_line r0_good r0_work a0_kept none a0_chosen x0_shelf x0_rowSort x0_rowSize x0_rows x0_moved x0_shown x0_tape x0_tapeSize x0_refused x0_lines x0_line x0_changes x0_coins x0_goods x0_good x0_works x0_work x0_years x0_gone x0_spent x0_at x0_token x0_from x0_figures x0_fault x0_numbers x0_statements x0_left x0_far x0_tons x0_way x0_steps x0_met x0_queue x0_totals (-2) e33) rfl rfl (Nat.le_of_ble_eq_true rfl) (by decide) 0 0 rfl rfl rfl [0] [1, 2, 3] rfl (by decide +kernel) rfl rfl [3, 0, 1, 2] (by decide +kernel) (fun _ => rfl) (fun _ => rfl) rfl rfl rfl (fun _ => rfl) (fun _ => ?_)
    obtain rfl := Option.some.inj hf
    refine J_fl (gs2 := [gMd d h0 a0_kept none a0_chosen r0_rows r0_line r0_good r0_work x0_shelf x0_rowSort x0_rowSize x0_moved x0_shown x0_tape x0_tapeSize g32 x0_lines x0_changes x0_coins x0_goods x0_works x0_years x0_gone x0_spent x0_at x0_token x0_from x0_figures x0_fault x0_numbers x0_statements x0_left x0_far x0_tons x0_way x0_steps x0_met x0_queue x0_totals, gridI d r0_line 20 7 x0_line, gridI d r0_good 8 3 x0_good, gridI d r0_work 7 5 x0_work, oMd d none none none none (fun _ => 0) (fun _ => 0) (fun _ => 0) (fun _ _ => 0) (fun _ => 0) (fun _ => 0) (fun _ => 0) (0) (fun _ => 0) (0) (fun _ _ => 0) (fillV 12 9 (fun _ => 0)) (va_up (va_up (va_up (fun _ => 0) 0 1) 1 1) 2 1) (0) (fun _ _ => 0) (0) (fun _ _ => 0) (10) (0) (0) (0) (0) (0) (0) (0) (fun _ => 0) (0) (fun _ => 0) (fun _ => 0) (0) (fun _ => 0) (0) (0) (fun _ => 0) (fun _ => 0)]) rfl ?_
    exact J_iret hK hR qd4_55.2.2.2.2.2.2.2.1 ⟨none, fun _ => rfl⟩ rfl (by decide) (by decide)
end
section

set_option maxHeartbeats 4000000 in
set_option maxRecDepth 100000 in
theorem kX7_neverNt (l : Launch) (d : DT) (h0 : Nat → Nat) (r0_rows : Nat → Nat) (r0_line : Nat → Nat) (r0_good : Nat → Nat) (r0_work : Nat → Nat) (a0_kept : Option Nat) (a0_chosen : Option Nat) (n : Nat) (x0_shelf : (Nat → Int32)) (x0_rowSort : (Nat → Int32)) (x0_rowSize : (Nat → Int32)) (x0_rows : (Nat → Nat → Int64)) (x0_moved : (Nat → Int64)) (x0_shown : (Nat → Int32)) (x0_tape : (Nat → Int32)) (x0_tapeSize : Int32) (x0_refused : (Nat → Int32)) (x0_lines : Int32) (x0_line : (Nat → Nat → Int32)) (x0_changes : (Nat → Int32)) (x0_coins : (Nat → Int32)) (x0_goods : Int32) (x0_good : (Nat → Nat → Int32)) (x0_works : Int32) (x0_work : (Nat → Nat → Int32)) (x0_years : Int32) (x0_gone : Int32) (x0_spent : Int32) (x0_at : Int32) (x0_token : Int32) (x0_from : Int32) (x0_figures : Int64) (x0_fault : Int32) (x0_numbers : (Nat → Int32)) (x0_statements : Int32) (x0_left : (Nat → Int32)) (x0_far : (Nat → Int32)) (x0_tons : Int32) (x0_way : (Nat → Int32)) (x0_steps : Int32) (x0_met : Int64) (x0_queue : (Nat → Int32)) (x0_totals : (Nat → Int32))  {out : Int32 × (Nat → Int32) × (Int32 × (Nat → Nat → Int32) × (Nat → Int32) × (Nat → Int32) × Int32 × (Nat → Nat → Int32) × Int32 × (Nat → Nat → Int32) × Int32 × Int32 × Int32 × (Nat → Int32) × (Nat → Int32) × Int32)} (hf : fX7_never n (x0_shelf, x0_rowSort, x0_rowSize, x0_rows, x0_moved, x0_shown, x0_tape, x0_tapeSize, x0_refused, x0_lines, x0_line, x0_changes, x0_coins, x0_goods, x0_good, x0_works, x0_work, x0_years, x0_gone, x0_spent, x0_at, x0_token, x0_from, x0_figures, x0_fault, x0_numbers, x0_statements, x0_left, x0_far, x0_tons, x0_way, x0_steps, x0_met, x0_queue, x0_totals) ((fun _ => 0), (fun _ => 0), (fun _ => 0), (fun _ _ => 0), (fun _ => 0), (fun _ => 0), (fun _ => 0), 0, (fun _ => 0), 0, (fun _ _ => 0), (fillV 12 9 (fun _ => 0)), (va_up (va_up (va_up (fun _ => 0) 0 1) 1 1) 2 1), 0, (fun _ _ => 0), 0, (fun _ _ => 0), 10, 0, 0, 0, 0, 0, 0, 0, (fun _ => 0), 0, (fun _ => 0), (fun _ => 0), 0, (fun _ => 0), 0, 0, (fun _ => 0), (fun _ => 0)) = some out) : Ct l d yX7_never cX7_never 7 (some .int) { frames := 5, cells := 63, slots := 1204, locals := 109 } [.ref (h0 0)] [gMd d h0 a0_kept none a0_chosen r0_rows r0_line r0_good r0_work x0_shelf x0_rowSort x0_rowSize x0_moved x0_shown x0_tape x0_tapeSize x0_refused x0_lines x0_changes x0_coins x0_goods x0_works x0_years x0_gone x0_spent x0_at x0_token x0_from x0_figures x0_fault x0_numbers x0_statements x0_left x0_far x0_tons x0_way x0_steps x0_met x0_queue x0_totals, gridI d r0_line 20 7 x0_line, gridI d r0_good 8 3 x0_good, gridI d r0_work 7 5 x0_work] (fun u : {q : Option AdM // q = none → ((fun _ => 0), (fun _ => 0), (fun _ => 0), (fun _ _ => 0), (fun _ => 0), (fun _ => 0), (fun _ => 0), 0, (fun _ => 0), out.2.2.1, out.2.2.2.1, out.2.2.2.2.1, out.2.2.2.2.2.1, out.2.2.2.2.2.2.1, out.2.2.2.2.2.2.2.1, out.2.2.2.2.2.2.2.2.1, out.2.2.2.2.2.2.2.2.2.1, out.2.2.2.2.2.2.2.2.2.2.1, out.2.2.2.2.2.2.2.2.2.2.2.1, out.2.2.2.2.2.2.2.2.2.2.2.2.1, 0, 0, 0, 0, 0, (fun _ => 0), 0, out.2.2.2.2.2.2.2.2.2.2.2.2.2.1, out.2.2.2.2.2.2.2.2.2.2.2.2.2.2.1, out.2.2.2.2.2.2.2.2.2.2.2.2.2.2.2, (fun _ => 0), 0, 0, (fun _ => 0), (fun _ => 0)) = M0} => (some (.int out.1), [gMd d h0 a0_kept (bs_ u.1) a0_chosen r0_rows r0_line r0_good r0_work x0_shelf x0_rowSort x0_rowSize x0_moved x0_shown x0_tape x0_tapeSize x0_refused x0_lines x0_changes x0_coins x0_goods x0_works x0_years x0_gone x0_spent x0_at x0_token x0_from x0_figures x0_fault x0_numbers x0_statements x0_left x0_far x0_tons x0_way x0_steps x0_met x0_queue (out.2.1), gridI d r0_line 20 7 x0_line, gridI d r0_good 8 3 x0_good, gridI d r0_work 7 5 x0_work, oMd d (u.1) none none none (fun _ => 0) (fun _ => 0) (fun _ => 0) (fun _ _ => 0) (fun _ => 0) (fun _ => 0) (fun _ => 0) (0) (fun _ => 0) (out.2.2.1) (out.2.2.2.1) (out.2.2.2.2.1) (out.2.2.2.2.2.1) (out.2.2.2.2.2.2.1) (out.2.2.2.2.2.2.2.1) (out.2.2.2.2.2.2.2.2.1) (out.2.2.2.2.2.2.2.2.2.1) (out.2.2.2.2.2.2.2.2.2.2.1) (out.2.2.2.2.2.2.2.2.2.2.2.1) (out.2.2.2.2.2.2.2.2.2.2.2.2.1) (0) (0) (0) (0) (0) (fun _ => 0) (0) (out.2.2.2.2.2.2.2.2.2.2.2.2.2.1) (out.2.2.2.2.2.2.2.2.2.2.2.2.2.2.1) (out.2.2.2.2.2.2.2.2.2.2.2.2.2.2.2) (fun _ => 0) (0) (0) (fun _ => 0) (fun _ => 0)])) := by
  refine Ct.of (by decide) (Nat.le_of_ble_eq_true rfl) ?_
  intro Φ hl hK hR
  subst hl
  have hK : Ok d Φ RX7 "never" cX7_never 7 (some .int) { frames := 5, cells := 63, slots := 1204, locals := 109 } := hK
  unfold fX7_never at hf
  have hf := un35 hf
  have hf := un35 hf
  show J d Φ 7 [gMd d h0 a0_kept none a0_chosen r0_rows r0_line r0_good r0_work x0_shelf x0_rowSort x0_rowSize x0_moved x0_shown x0_tape x0_tapeSize x0_refused x0_lines x0_changes x0_coins x0_goods x0_works x0_years x0_gone x0_spent x0_at x0_token x0_from x0_figures x0_fault x0_numbers x0_statements x0_left x0_far x0_tons x0_way x0_steps x0_met x0_queue x0_totals, gridI d r0_line 20 7 x0_line, gridI d r0_good 8 3 x0_good, gridI d r0_work 7 5 x0_work] 0 0 0 [(0, .ref (h0 0))] []
  refine J_iconst (v := 0) hK qd4_58.1 rfl (by decide) ?_
  refine J_istore_n (L' := [(1, .int (0)), (0, .ref (h0 0))]) hK qd4_58.2.1 rfl rfl (by decide) rfl ?_
  refine J_iconst (v := 0) hK qd4_58.2.2.1 rfl (by decide) ?_
  refine J_istore_n (L' := [(2, .int (0)), (1, .int (0)), (0, .ref (h0 0))]) hK qd4_58.2.2.2.1 rfl rfl (by decide) rfl ?_
  obtain ⟨e4, hl1, hf⟩ := bs hf
  have hx1_40 : ∀ (w5 : Int32), w5 = e4 → J d Φ 7 [gMd d h0 a0_kept none a0_chosen r0_rows r0_line r0_good r0_work x0_shelf x0_rowSort x0_rowSize x0_moved x0_shown x0_tape x0_tapeSize x0_refused x0_lines x0_changes x0_coins x0_goods x0_works x0_years x0_gone x0_spent x0_at x0_token x0_from x0_figures x0_fault x0_numbers x0_statements x0_left x0_far x0_tons x0_way x0_steps x0_met x0_queue x0_totals, gridI d r0_line 20 7 x0_line, gridI d r0_good 8 3 x0_good, gridI d r0_work 7 5 x0_work] 0 0 40 [(0, .ref (h0 0)), (1, .int w5)] [] := by
    intro w5 he
    rw [← he] at hf
    refine J_iconst (v := 0) hK qd4_59.2.2.2.2.2.2.2.2.2.2.1 rfl (by decide) ?_
    refine J_istore_n (L' := [(2, .int (0)), (0, .ref (h0 0)), (1, .int w5)]) hK qd4_59.2.2.2.2.2.2.2.2.2.2.2.1 rfl rfl (by decide) rfl ?_
    obtain ⟨e23, hl6, hf⟩ := bs hf
    have hx6_79P : ∀ (uL5 : AdM) (w24 : (Nat → Int32)) (w25 : Int32) (w26 : (Nat → Nat → Int32)) (w27 : (Nat → Int32)) (w28 : (Nat → Int32)) (w29 : Int32) (w30 : (Nat → Nat → Int32)) (w31 : Int32) (w32 : (Nat → Nat → Int32)) (w33 : Int32) (w34 : Int32) (w35 : Int32) (w36 : (Nat → Int32)) (w37 : (Nat → Int32)) (w38 : Int32), (w24, w25, w26, w27, w28, w29, w30, w31, w32, w33, w34, w35, w36, w37, w38) = e23 → J d Φ 7 [gMd d h0 a0_kept (some (uL5.1 0)) a0_chosen r0_rows r0_line r0_good r0_work x0_shelf x0_rowSort x0_rowSize x0_moved x0_shown x0_tape x0_tapeSize x0_refused x0_lines x0_changes x0_coins x0_goods x0_works x0_years x0_gone x0_spent x0_at x0_token x0_from x0_figures x0_fault x0_numbers x0_statements x0_left x0_far x0_tons x0_way x0_steps x0_met x0_queue w24, gridI d r0_line 20 7 x0_line, gridI d r0_good 8 3 x0_good, gridI d r0_work 7 5 x0_work, gMd d uL5.1 none none none uL5.2.1 uL5.2.2.1 uL5.2.2.2.1 uL5.2.2.2.2 (fun _ => 0) (fun _ => 0) (fun _ => 0) (fun _ => 0) (fun _ => 0) (fun _ => 0) (0) (fun _ => 0) w25 w27 w28 w29 w31 w33 w34 w35 (0) (0) (0) (0) (0) (fun _ => 0) (0) w36 w37 w38 (fun _ => 0) (0) (0) (fun _ => 0) (fun _ => 0), gridJ d uL5.2.1 8 40 (fun _ _ => 0), gridI d uL5.2.2.1 20 7 w26, gridI d uL5.2.2.2.1 8 3 w30, gridI d uL5.2.2.2.2 7 5 w32] 63 1204 79 [(0, .ref (h0 0)), (1, .int w5)] [] := by
      intro uL5 w24 w25 w26 w27 w28 w29 w30 w31 w32 w33 w34 w35 w36 w37 w38 he
      rw [← he] at hf
      have hf := un15 hf
      refine J_iconst (v := 0) hK qd4_61.2.1 rfl (by decide) ?_
      refine J_istore_n (L' := [(2, .int (0)), (0, .ref (h0 0)), (1, .int w5)]) hK qd4_61.2.2.1 rfl rfl (by decide) rfl ?_
      refine J_iconst (v := 0) hK qd4_61.2.2.2.1 rfl (by decide) ?_
      refine J_istore_n (L' := [(3, .int (0)), (2, .int (0)), (0, .ref (h0 0)), (1, .int w5)]) hK qd4_61.2.2.2.2.1 rfl rfl (by decide) rfl ?_
      obtain ⟨e42, hl39, hf⟩ := bs hf
      have hx39_221 : ∀ (w43 : Int32), w43 = e42 → J d Φ 7 [gMd d h0 a0_kept (some (uL5.1 0)) a0_chosen r0_rows r0_line r0_good r0_work x0_shelf x0_rowSort x0_rowSize x0_moved x0_shown x0_tape x0_tapeSize x0_refused x0_lines x0_changes x0_coins x0_goods x0_works x0_years x0_gone x0_spent x0_at x0_token x0_from x0_figures x0_fault x0_numbers x0_statements x0_left x0_far x0_tons x0_way x0_steps x0_met x0_queue w24, gridI d r0_line 20 7 x0_line, gridI d r0_good 8 3 x0_good, gridI d r0_work 7 5 x0_work, gMd d uL5.1 none none none uL5.2.1 uL5.2.2.1 uL5.2.2.2.1 uL5.2.2.2.2 (fun _ => 0) (fun _ => 0) (fun _ => 0) (fun _ => 0) (fun _ => 0) (fun _ => 0) (0) (fun _ => 0) w25 w27 w28 w29 w31 w33 w34 w35 (0) (0) (0) (0) (0) (fun _ => 0) (0) w36 w37 w38 (fun _ => 0) (0) (0) (fun _ => 0) (fun _ => 0), gridJ d uL5.2.1 8 40 (fun _ _ => 0), gridI d uL5.2.2.1 20 7 w26, gridI d uL5.2.2.2.1 8 3 w30, gridI d uL5.2.2.2.2 7 5 w32] 63 1204 221 [(2, .int w43)] [] := by
        intro w43 he
        rw [← he] at hf
        refine J_iload_n hK qd4_66.2.2.2.2.2.1 rfl 0 rfl rfl ?_
        obtain rfl := Option.some.inj hf
        refine J_close (l := sMd d uL5 none none none (fun _ => 0) (fun _ => 0) (fun _ => 0) (fun _ _ => 0) (fun _ => 0) (fun _ => 0) (fun _ => 0) (0) (fun _ => 0) w25 w26 w27 w28 w29 w30 w31 w32 w33 w34 w35 (0) (0) (0) (0) (0) (fun _ => 0) (0) w36 w37 w38 (fun _ => 0) (0) (0) (fun _ => 0) (fun _ => 0)) (gs2 := [gMd d h0 a0_kept (some (uL5.1 0)) a0_chosen r0_rows r0_line r0_good r0_work x0_shelf x0_rowSort x0_rowSize x0_moved x0_shown x0_tape x0_tapeSize x0_refused x0_lines x0_changes x0_coins x0_goods x0_works x0_years x0_gone x0_spent x0_at x0_token x0_from x0_figures x0_fault x0_numbers x0_statements x0_left x0_far x0_tons x0_way x0_steps x0_met x0_queue w24, gridI d r0_line 20 7 x0_line, gridI d r0_good 8 3 x0_good, gridI d r0_work 7 5 x0_work, oMd d (some uL5) none none none (fun _ => 0) (fun _ => 0) (fun _ => 0) (fun _ _ => 0) (fun _ => 0) (fun _ => 0) (fun _ => 0) (0) (fun _ => 0) w25 w26 w27 w28 w29 w30 w31 w32 w33 w34 w35 (0) (0) (0) (0) (0) (fun _ => 0) (0) w36 w37 w38 (fun _ => 0) (0) (0) (fun _ => 0) (fun _ => 0)]) 4 rfl rfl ?_
        exact J_iret hK hR qd4_66.2.2.2.2.2.2.1 ⟨some uL5, fun h => by cases h⟩ rfl (by decide) (by decide)
      have lo39 : ∀ (k : Nat) (z40 : Int32) (z41 : Int32), lp (u2 (fX7_never_s83 n x0_works x0_work w5 w24)) k (z40, z41) = some e42 → J d Φ 7 [gMd d h0 a0_kept (some (uL5.1 0)) a0_chosen r0_rows r0_line r0_good r0_work x0_shelf x0_rowSort x0_rowSize x0_moved x0_shown x0_tape x0_tapeSize x0_refused x0_lines x0_changes x0_coins x0_goods x0_works x0_years x0_gone x0_spent x0_at x0_token x0_from x0_figures x0_fault x0_numbers x0_statements x0_left x0_far x0_tons x0_way x0_steps x0_met x0_queue w24, gridI d r0_line 20 7 x0_line, gridI d r0_good 8 3 x0_good, gridI d r0_work 7 5 x0_work, gMd d uL5.1 none none none uL5.2.1 uL5.2.2.1 uL5.2.2.2.1 uL5.2.2.2.2 (fun _ => 0) (fun _ => 0) (fun _ => 0) (fun _ => 0) (fun _ => 0) (fun _ => 0) (0) (fun _ => 0) w25 w27 w28 w29 w31 w33 w34 w35 (0) (0) (0) (0) (0) (fun _ => 0) (0) w36 w37 w38 (fun _ => 0) (0) (0) (fun _ => 0) (fun _ => 0), gridJ d uL5.2.1 8 40 (fun _ _ => 0), gridI d uL5.2.2.1 20 7 w26, gridI d uL5.2.2.2.1 8 3 w30, gridI d uL5.2.2.2.2 7 5 w32] 63 1204 83 [(0, .ref (h0 0)), (1, .int w5), (2, .int z40), (3, .int z41)] [] := by
        intro k
        induction k with
        | zero => intro z40 z41 h; cases h
        | succ k ih39 =>
          intro z40 z41 h
          obtain ⟨k2, rr39, hk2, hs39, hr39⟩ := lp_ok h
          cases hk2
          have hs39 : fX7_never_s83 n x0_works x0_work w5 w24 z40 z41 = some rr39 := hs39
          unfold fX7_never_s83 at hs39
          refine J_iload_n hK qd4_61.2.2.2.2.2.1 rfl 3 rfl rfl ?_
          refine J_aload_n hK qd4_61.2.2.2.2.2.2.1 rfl 0 rfl rfl ?_
          refine J_get hK fo_RX7_85 qd4_61.2.2.2.2.2.2.2.1 rfl 0 0 rfl rfl rfl ?_
          refine J_icmp_ge (tg := 221) hK qd4_61.2.2.2.2.2.2.2.2.1 rfl rfl (fun hc88 => ?_) (fun hc88 => ?_)
          · have hs39 := ip hc88 hs39
            exact J_loc [2] rfl (hx39_221 z40 (lpx hs39 hr39))
          · have hs39 := iq hc88 hs39
            refine J_aload_n hK qd4_61.2.2.2.2.2.2.2.2.2.1 rfl 0 rfl rfl ?_
            refine J_get hK fo_RX7_51 qd4_61.2.2.2.2.2.2.2.2.2.2.1 rfl 0 0 rfl rfl rfl ?_
            refine J_iload_n hK qd4_61.2.2.2.2.2.2.2.2.2.2.2.1 rfl 3 rfl rfl ?_
            obtain ⟨q44, eq44, hs39⟩ := bs hs39
            refine J_aald hK qd4_61.2.2.2.2.2.2.2.2.2.2.2.2.1 rfl 0 13 rfl rfl rfl eq44 ?_
            refine J_iconst (v := 4) hK qd4_61.2.2.2.2.2.2.2.2.2.2.2.2.2.1 rfl (by decide) ?_
            obtain ⟨v45, ev45, hs39⟩ := bs hs39
            refine J_iald hK qd4_61.2.2.2.2.2.2.2.2.2.2.2.2.2.2.1 rfl 3 q44 rfl (gridI_at (ck_ok eq44).2.2) ev45 ?_
            have j107 : ∀ (y46 : Int32), fX7_never_j107 n x0_works x0_work w5 w24 z40 z41 y46 = some rr39 → J d Φ 7 [gMd d h0 a0_kept (some (uL5.1 0)) a0_chosen r0_rows r0_line r0_good r0_work x0_shelf x0_rowSort x0_rowSize x0_moved x0_shown x0_tape x0_tapeSize x0_refused x0_lines x0_changes x0_coins x0_goods x0_works x0_years x0_gone x0_spent x0_at x0_token x0_from x0_figures x0_fault x0_numbers x0_statements x0_left x0_far x0_tons x0_way x0_steps x0_met x0_queue w24, gridI d r0_line 20 7 x0_line, gridI d r0_good 8 3 x0_good, gridI d r0_work 7 5 x0_work, gMd d uL5.1 none none none uL5.2.1 uL5.2.2.1 uL5.2.2.2.1 uL5.2.2.2.2 (fun _ => 0) (fun _ => 0) (fun _ => 0) (fun _ => 0) (fun _ => 0) (fun _ => 0) (0) (fun _ => 0) w25 w27 w28 w29 w31 w33 w34 w35 (0) (0) (0) (0) (0) (fun _ => 0) (0) w36 w37 w38 (fun _ => 0) (0) (0) (fun _ => 0) (fun _ => 0), gridJ d uL5.2.1 8 40 (fun _ _ => 0), gridI d uL5.2.2.1 20 7 w26, gridI d uL5.2.2.2.1 8 3 w30, gridI d uL5.2.2.2.2 7 5 w32] 63 1204 107 [(0, .ref (h0 0)), (1, .int w5), (2, .int z40), (3, .int z41)] [.int y46] := by
              intro y46 hs39
              unfold fX7_never_j107 at hs39
              refine J_istore (L' := [(4, .int y46), (0, .ref (h0 0)), (1, .int w5), (2, .int z40), (3, .int z41)]) hK qd4_62.2.2.2.1 rfl (by decide) rfl ?_
              refine J_iconst (v := 0) hK qd4_62.2.2.2.2.1 rfl (by decide) ?_
              refine J_istore (L' := [(5, .int (0)), (4, .int y46), (0, .ref (h0 0)), (1, .int w5), (2, .int z40), (3, .int z41)]) hK qd4_62.2.2.2.2.2.1 rfl (by decide) rfl ?_
              obtain ⟨e50, hl47, hs39⟩ := bs hs39
              have hx47_200 : ∀ (w51 : Int32), w51 = e50 → J d Φ 7 [gMd d h0 a0_kept (some (uL5.1 0)) a0_chosen r0_rows r0_line r0_good r0_work x0_shelf x0_rowSort x0_rowSize x0_moved x0_shown x0_tape x0_tapeSize x0_refused x0_lines x0_changes x0_coins x0_goods x0_works x0_years x0_gone x0_spent x0_at x0_token x0_from x0_figures x0_fault x0_numbers x0_statements x0_left x0_far x0_tons x0_way x0_steps x0_met x0_queue w24, gridI d r0_line 20 7 x0_line, gridI d r0_good 8 3 x0_good, gridI d r0_work 7 5 x0_work, gMd d uL5.1 none none none uL5.2.1 uL5.2.2.1 uL5.2.2.2.1 uL5.2.2.2.2 (fun _ => 0) (fun _ => 0) (fun _ => 0) (fun _ => 0) (fun _ => 0) (fun _ => 0) (0) (fun _ => 0) w25 w27 w28 w29 w31 w33 w34 w35 (0) (0) (0) (0) (0) (fun _ => 0) (0) w36 w37 w38 (fun _ => 0) (0) (0) (fun _ => 0) (fun _ => 0), gridJ d uL5.2.1 8 40 (fun _ _ => 0), gridI d uL5.2.2.1 20 7 w26, gridI d uL5.2.2.2.1 8 3 w30, gridI d uL5.2.2.2.2 7 5 w32] 63 1204 200 [(0, .ref (h0 0)), (1, .int w5), (2, .int z40), (3, .int z41), (4, .int w51)] [] := by
                intro w51 he
                rw [← he] at hs39
                refine J_iload_n hK qd4_65.2.2.2.2.2.2.2.2.2.1 rfl 2 rfl rfl ?_
                refine J_iload hK qd4_65.2.2.2.2.2.2.2.2.2.2.1 rfl 4 rfl ?_
                refine J_if_eq (tg := 212) hK qd4_65.2.2.2.2.2.2.2.2.2.2.2.1 rfl rfl (fun hc203 => ?_) (fun hc203 => ?_)
                · have hs39 := ip hc203 hs39
                  refine J_iconst (v := 0) hK qd4_66.1 rfl (by decide) ?_
                  refine J_ior hK qd4_66.2.1 rfl ?_
                  refine J_istore_n (L' := [(2, .int (z40 ||| 0)), (0, .ref (h0 0)), (1, .int w5), (3, .int z41), (4, .int w51)]) hK qd4_66.2.2.1 rfl rfl (by decide) rfl ?_
                  refine J_iinc (L' := [(3, .int (z41 + 1)), (2, .int (z40 ||| 0)), (0, .ref (h0 0)), (1, .int w5), (4, .int w51)]) (v := (z41 + 1)) hK qd4_66.2.2.2.1 rfl 3 rfl rfl (by decide) rfl ?_
                  refine J_goto hK qd4_66.2.2.2.2.1 (n := 83) rfl ?_
                  exact J_loc [2, 3, 1, 0] rfl (ih39 (z40 ||| 0) (z41 + 1) (lpc hs39 hr39))
                · have hs39 := iq hc203 hs39
                  refine J_iconst (v := 1) hK qd4_65.2.2.2.2.2.2.2.2.2.2.2.2.1 rfl (by decide) ?_
                  refine J_iload_n hK qd4_65.2.2.2.2.2.2.2.2.2.2.2.2.2.1 rfl 3 rfl rfl ?_
                  refine J_ishl hK qd4_65.2.2.2.2.2.2.2.2.2.2.2.2.2.2.1 rfl ?_
                  refine J_goto hK qd4_65.2.2.2.2.2.2.2.2.2.2.2.2.2.2.2.1 (n := 213) rfl ?_
                  refine J_ior hK qd4_66.2.1 rfl ?_
                  obtain ⟨t52, et52, hs39⟩ := bs hs39
                  refine J_nmi et52 ?_
                  refine J_istore_n (L' := [(2, .int t52), (0, .ref (h0 0)), (1, .int w5), (3, .int z41), (4, .int w51)]) hK qd4_66.2.2.1 rfl rfl (by decide) rfl ?_
                  refine J_iinc (L' := [(3, .int (z41 + 1)), (2, .int t52), (0, .ref (h0 0)), (1, .int w5), (4, .int w51)]) (v := (z41 + 1)) hK qd4_66.2.2.2.1 rfl 3 rfl rfl (by decide) rfl ?_
                  refine J_goto hK qd4_66.2.2.2.2.1 (n := 83) rfl ?_
                  exact J_loc [2, 3, 1, 0] rfl (ih39 t52 (z41 + 1) (lpc hs39 hr39))
              have lo47 : ∀ (k : Nat) (z48 : Int32) (z49 : Int32), lp (u2 (fX7_never_s112 x0_works x0_work w5 w24 z41)) k (z48, z49) = some e50 → J d Φ 7 [gMd d h0 a0_kept (some (uL5.1 0)) a0_chosen r0_rows r0_line r0_good r0_work x0_shelf x0_rowSort x0_rowSize x0_moved x0_shown x0_tape x0_tapeSize x0_refused x0_lines x0_changes x0_coins x0_goods x0_works x0_years x0_gone x0_spent x0_at x0_token x0_from x0_figures x0_fault x0_numbers x0_statements x0_left x0_far x0_tons x0_way x0_steps x0_met x0_queue w24, gridI d r0_line 20 7 x0_line, gridI d r0_good 8 3 x0_good, gridI d r0_work 7 5 x0_work, gMd d uL5.1 none none none uL5.2.1 uL5.2.2.1 uL5.2.2.2.1 uL5.2.2.2.2 (fun _ => 0) (fun _ => 0) (fun _ => 0) (fun _ => 0) (fun _ => 0) (fun _ => 0) (0) (fun _ => 0) w25 w27 w28 w29 w31 w33 w34 w35 (0) (0) (0) (0) (0) (fun _ => 0) (0) w36 w37 w38 (fun _ => 0) (0) (0) (fun _ => 0) (fun _ => 0), gridJ d uL5.2.1 8 40 (fun _ _ => 0), gridI d uL5.2.2.1 20 7 w26, gridI d uL5.2.2.2.1 8 3 w30, gridI d uL5.2.2.2.2 7 5 w32] 63 1204 112 [(0, .ref (h0 0)), (1, .int w5), (2, .int z40), (3, .int z41), (4, .int z48), (5, .int z49)] [] := by
                intro k
                induction k with
                | zero => intro z48 z49 h; cases h
                | succ k ih47 =>
                  intro z48 z49 h
                  obtain ⟨k2, rr47, hk2, hs47, hr47⟩ := lp_ok h
                  cases hk2
                  have hs47 : fX7_never_s112 x0_works x0_work w5 w24 z41 z48 z49 = some rr47 := hs47
                  unfold fX7_never_s112 at hs47
                  refine J_iload hK qd4_62.2.2.2.2.2.2.1 rfl 5 rfl ?_
                  refine J_iconst (v := 1) hK qd4_62.2.2.2.2.2.2.2.1 rfl (by decide) ?_
                  refine J_aload_n hK qd4_62.2.2.2.2.2.2.2.2.1 rfl 0 rfl rfl ?_
                  refine J_get hK fo_RX7_85 qd4_62.2.2.2.2.2.2.2.2.2.1 rfl 0 0 rfl rfl rfl ?_
                  refine J_ishl hK qd4_62.2.2.2.2.2.2.2.2.2.2.1 rfl ?_
                  refine J_icmp_ge (tg := 200) hK qd4_62.2.2.2.2.2.2.2.2.2.2.2.1 rfl rfl (fun hc120 => ?_) (fun hc120 => ?_)
                  · have hs47 := ip hc120 hs47
                    exact J_loc [0, 1, 2, 3, 4] rfl (hx47_200 z48 (lpx hs47 hr47))
                  · have hs47 := iq hc120 hs47
                    refine J_iload hK qd4_62.2.2.2.2.2.2.2.2.2.2.2.2.1 rfl 5 rfl ?_
                    refine J_iload_n hK qd4_62.2.2.2.2.2.2.2.2.2.2.2.2.2.1 rfl 1 rfl rfl ?_
                    refine J_iand hK qd4_62.2.2.2.2.2.2.2.2.2.2.2.2.2.2.1 rfl ?_
                    have j144 : ∀ (y53 : Int32), fX7_never_j144 x0_work w24 z41 z48 z49 y53 = some rr47 → J d Φ 7 [gMd d h0 a0_kept (some (uL5.1 0)) a0_chosen r0_rows r0_line r0_good r0_work x0_shelf x0_rowSort x0_rowSize x0_moved x0_shown x0_tape x0_tapeSize x0_refused x0_lines x0_changes x0_coins x0_goods x0_works x0_years x0_gone x0_spent x0_at x0_token x0_from x0_figures x0_fault x0_numbers x0_statements x0_left x0_far x0_tons x0_way x0_steps x0_met x0_queue w24, gridI d r0_line 20 7 x0_line, gridI d r0_good 8 3 x0_good, gridI d r0_work 7 5 x0_work, gMd d uL5.1 none none none uL5.2.1 uL5.2.2.1 uL5.2.2.2.1 uL5.2.2.2.2 (fun _ => 0) (fun _ => 0) (fun _ => 0) (fun _ => 0) (fun _ => 0) (fun _ => 0) (0) (fun _ => 0) w25 w27 w28 w29 w31 w33 w34 w35 (0) (0) (0) (0) (0) (fun _ => 0) (0) w36 w37 w38 (fun _ => 0) (0) (0) (fun _ => 0) (fun _ => 0), gridJ d uL5.2.1 8 40 (fun _ _ => 0), gridI d uL5.2.2.1 20 7 w26, gridI d uL5.2.2.2.1 8 3 w30, gridI d uL5.2.2.2.2 7 5 w32] 63 1204 144 [(0, .ref (h0 0)), (1, .int w5), (2, .int z40), (3, .int z41), (4, .int z48), (5, .int z49)] [.int y53] := by
                      intro y53 hs47
                      unfold fX7_never_j144 at hs47
                      refine J_istore (L' := [(6, .int y53), (0, .ref (h0 0)), (1, .int w5), (2, .int z40), (3, .int z41), (4, .int z48), (5, .int z49)]) hK qd4_63.2.2.2.2.2.2.2.2.2.1 rfl (by decide) rfl ?_
                      refine J_iload hK qd4_63.2.2.2.2.2.2.2.2.2.2.1 rfl 5 rfl ?_
                      refine J_iload hK qd4_63.2.2.2.2.2.2.2.2.2.2.2.1 rfl 0 rfl ?_
                      have j186 : fX7_never_j186 z48 z49 = some rr47 → J d Φ 7 [gMd d h0 a0_kept (some (uL5.1 0)) a0_chosen r0_rows r0_line r0_good r0_work x0_shelf x0_rowSort x0_rowSize x0_moved x0_shown x0_tape x0_tapeSize x0_refused x0_lines x0_changes x0_coins x0_goods x0_works x0_years x0_gone x0_spent x0_at x0_token x0_from x0_figures x0_fault x0_numbers x0_statements x0_left x0_far x0_tons x0_way x0_steps x0_met x0_queue w24, gridI d r0_line 20 7 x0_line, gridI d r0_good 8 3 x0_good, gridI d r0_work 7 5 x0_work, gMd d uL5.1 none none none uL5.2.1 uL5.2.2.1 uL5.2.2.2.1 uL5.2.2.2.2 (fun _ => 0) (fun _ => 0) (fun _ => 0) (fun _ => 0) (fun _ => 0) (fun _ => 0) (0) (fun _ => 0) w25 w27 w28 w29 w31 w33 w34 w35 (0) (0) (0) (0) (0) (fun _ => 0) (0) w36 w37 w38 (fun _ => 0) (0) (0) (fun _ => 0) (fun _ => 0), gridJ d uL5.2.1 8 40 (fun _ _ => 0), gridI d uL5.2.2.1 20 7 w26, gridI d uL5.2.2.2.1 8 3 w30, gridI d uL5.2.2.2.2 7 5 w32] 63 1204 186 [(0, .ref (h0 0)), (1, .int w5), (2, .int z40), (3, .int z41), (5, .int z49)] [.int z48] := by
                        intro  hs47
                        unfold fX7_never_j186 at hs47
                        refine J_iconst (v := 1) hK qd4_65.2.2.1 rfl (by decide) ?_
                        refine J_goto hK qd4_65.2.2.2.1 (n := 191) rfl ?_
                        refine J_iand hK qd4_65.2.2.2.2.2.1 rfl ?_
                        refine J_istore (L' := [(4, .int (z48 &&& 1)), (0, .ref (h0 0)), (1, .int w5), (2, .int z40), (3, .int z41), (5, .int z49)]) hK qd4_65.2.2.2.2.2.2.1 rfl (by decide) rfl ?_
                        refine J_iinc (L' := [(5, .int (z49 + 1)), (4, .int (z48 &&& 1)), (0, .ref (h0 0)), (1, .int w5), (2, .int z40), (3, .int z41)]) (v := (z49 + 1)) hK qd4_65.2.2.2.2.2.2.2.1 rfl 5 rfl rfl (by decide) rfl ?_
                        refine J_goto hK qd4_65.2.2.2.2.2.2.2.2.1 (n := 112) rfl ?_
                        exact J_loc [2, 3, 4, 5, 1, 0] rfl (ih47 (z48 &&& 1) (z49 + 1) (lpc hs47 hr47))
                      refine J_if_eq (tg := 186) hK qd4_63.2.2.2.2.2.2.2.2.2.2.2.2.1 rfl rfl (fun hc150 => ?_) (fun hc150 => ?_)
                      · have hs47 := ip hc150 hs47
                        exact J_loc [1, 2, 3, 4, 6] rfl (j186  hs47)
                      · have hs47 := iq hc150 hs47
                        refine J_aload_n hK qd4_63.2.2.2.2.2.2.2.2.2.2.2.2.2.1 rfl 1 rfl rfl ?_
                        refine J_get hK fo_RX7_51 qd4_63.2.2.2.2.2.2.2.2.2.2.2.2.2.2.1 rfl 0 0 rfl rfl rfl ?_
                        refine J_iload_n hK qd4_63.2.2.2.2.2.2.2.2.2.2.2.2.2.2.2.1 rfl 4 rfl rfl ?_
                        obtain ⟨q54, eq54, hs47⟩ := bs hs47
                        refine J_aald hK qd4_64.1 rfl 0 13 rfl rfl rfl eq54 ?_
                        refine J_iconst (v := 4) hK qd4_64.2.1 rfl (by decide) ?_
                        obtain ⟨v55, ev55, hs47⟩ := bs hs47
                        refine J_iald hK qd4_64.2.2.1 rfl 3 q54 rfl (gridI_at (ck_ok eq54).2.2) ev55 ?_
                        refine J_iconst (v := 1) hK qd4_64.2.2.2.1 rfl (by decide) ?_
                        refine J_icmp_eq (tg := 186) hK qd4_64.2.2.2.2.1 rfl rfl (fun hc162 => ?_) (fun hc162 => ?_)
                        · have hs47 := ip hc162 hs47
                          exact J_loc [1, 2, 3, 4, 6] rfl (j186  hs47)
                        · have hs47 := iq hc162 hs47
                          refine J_aload_n hK qd4_64.2.2.2.2.2.1 rfl 1 rfl rfl ?_
                          refine J_get hK fo_RX7_73 qd4_64.2.2.2.2.2.2.1 rfl 0 0 rfl rfl rfl ?_
                          refine J_iload hK qd4_64.2.2.2.2.2.2.2.1 rfl 6 rfl ?_
                          refine J_iconst (v := 1) hK qd4_64.2.2.2.2.2.2.2.2.1 rfl (by decide) ?_
                          refine J_iload_n hK qd4_64.2.2.2.2.2.2.2.2.2.1 rfl 4 rfl rfl ?_
                          refine J_ishl hK qd4_64.2.2.2.2.2.2.2.2.2.2.1 rfl ?_
                          refine J_ior hK qd4_64.2.2.2.2.2.2.2.2.2.2.2.1 rfl ?_
                          obtain ⟨v56, ev56, hs47⟩ := bs hs47
                          refine J_iald hK qd4_64.2.2.2.2.2.2.2.2.2.2.2.2.1 rfl 0 19 rfl rfl ev56 ?_
                          refine J_aload_n hK qd4_64.2.2.2.2.2.2.2.2.2.2.2.2.2.1 rfl 1 rfl rfl ?_
                          refine J_get hK fo_RX7_73 qd4_64.2.2.2.2.2.2.2.2.2.2.2.2.2.2.1 rfl 0 0 rfl rfl rfl ?_
                          refine J_iload hK qd4_64.2.2.2.2.2.2.2.2.2.2.2.2.2.2.2.1 rfl 6 rfl ?_
                          obtain ⟨v57, ev57, hs47⟩ := bs hs47
                          refine J_iald hK qd4_65.1 rfl 0 19 rfl rfl ev57 ?_
                          refine J_icmp_le (tg := 190) hK qd4_65.2.1 rfl rfl (fun hc183 => ?_) (fun hc183 => ?_)
                          · have hs47 := ip hc183 hs47
                            refine J_iconst (v := 0) hK qd4_65.2.2.2.2.1 rfl (by decide) ?_
                            refine J_iand hK qd4_65.2.2.2.2.2.1 rfl ?_
                            refine J_istore (L' := [(4, .int (z48 &&& 0)), (6, .int y53), (0, .ref (h0 0)), (1, .int w5), (2, .int z40), (3, .int z41), (5, .int z49)]) hK qd4_65.2.2.2.2.2.2.1 rfl (by decide) rfl ?_
                            refine J_iinc (L' := [(5, .int (z49 + 1)), (4, .int (z48 &&& 0)), (6, .int y53), (0, .ref (h0 0)), (1, .int w5), (2, .int z40), (3, .int z41)]) (v := (z49 + 1)) hK qd4_65.2.2.2.2.2.2.2.1 rfl 6 rfl rfl (by decide) rfl ?_
                            refine J_goto hK qd4_65.2.2.2.2.2.2.2.2.1 (n := 112) rfl ?_
                            exact J_loc [3, 4, 5, 6, 1, 0] rfl (ih47 (z48 &&& 0) (z49 + 1) (lpc hs47 hr47))
                          · have hs47 := iq hc183 hs47
                            exact J_loc [1, 2, 3, 4, 6] rfl (j186  hs47)
                    have j143 : fX7_never_j143 x0_work w24 z41 z48 z49 = some rr47 → J d Φ 7 [gMd d h0 a0_kept (some (uL5.1 0)) a0_chosen r0_rows r0_line r0_good r0_work x0_shelf x0_rowSort x0_rowSize x0_moved x0_shown x0_tape x0_tapeSize x0_refused x0_lines x0_changes x0_coins x0_goods x0_works x0_years x0_gone x0_spent x0_at x0_token x0_from x0_figures x0_fault x0_numbers x0_statements x0_left x0_far x0_tons x0_way x0_steps x0_met x0_queue w24, gridI d r0_line 20 7 x0_line, gridI d r0_good 8 3 x0_good, gridI d r0_work 7 5 x0_work, gMd d uL5.1 none none none uL5.2.1 uL5.2.2.1 uL5.2.2.2.1 uL5.2.2.2.2 (fun _ => 0) (fun _ => 0) (fun _ => 0) (fun _ => 0) (fun _ => 0) (fun _ => 0) (0) (fun _ => 0) w25 w27 w28 w29 w31 w33 w34 w35 (0) (0) (0) (0) (0) (fun _ => 0) (0) w36 w37 w38 (fun _ => 0) (0) (0) (fun _ => 0) (fun _ => 0), gridJ d uL5.2.1 8 40 (fun _ _ => 0), gridI d uL5.2.2.1 20 7 w26, gridI d uL5.2.2.2.1 8 3 w30, gridI d uL5.2.2.2.2 7 5 w32] 63 1204 143 [(0, .ref (h0 0)), (1, .int w5), (2, .int z40), (3, .int z41), (4, .int z48), (5, .int z49)] [] := by
                      intro  hs47
                      unfold fX7_never_j143 at hs47
                      refine J_iconst (v := 0) hK qd4_63.2.2.2.2.2.2.2.2.1 rfl (by decide) ?_
                      exact (j144 (0) hs47)
                    refine J_if_ne (tg := 143) hK qd4_62.2.2.2.2.2.2.2.2.2.2.2.2.2.2.2.1 rfl rfl (fun hc127 => ?_) (fun hc127 => ?_)
                    · have hs47 := iq hc127 hs47
                      exact (j143  hs47)
                    · have hs47 := ip hc127 hs47
                      refine J_iload hK qd4_63.1 rfl 5 rfl ?_
                      refine J_iload_n hK qd4_63.2.1 rfl 3 rfl rfl ?_
                      refine J_ishr hK qd4_63.2.2.1 rfl ?_
                      refine J_iconst (v := 1) hK qd4_63.2.2.2.1 rfl (by decide) ?_
                      refine J_iand hK qd4_63.2.2.2.2.1 rfl ?_
                      refine J_if_ne (tg := 143) hK qd4_63.2.2.2.2.2.1 rfl rfl (fun hc136 => ?_) (fun hc136 => ?_)
                      · have hs47 := iq hc136 hs47
                        exact (j143  hs47)
                      · have hs47 := ip hc136 hs47
                        refine J_iconst (v := 1) hK qd4_63.2.2.2.2.2.2.1 rfl (by decide) ?_
                        refine J_goto hK qd4_63.2.2.2.2.2.2.2.1 (n := 144) rfl ?_
                        exact (j144 (1) hs47)
              exact J_loc [2, 3, 4, 5, 1, 0] rfl (lo47 n y46 (0) hl47)
            refine J_if_ne (tg := 106) hK qd4_61.2.2.2.2.2.2.2.2.2.2.2.2.2.2.2.1 rfl rfl (fun hc99 => ?_) (fun hc99 => ?_)
            · have hs39 := iq hc99 hs39
              refine J_iconst (v := 0) hK qd4_62.2.2.1 rfl (by decide) ?_
              exact (j107 (0) hs39)
            · have hs39 := ip hc99 hs39
              refine J_iconst (v := 1) hK qd4_62.1 rfl (by decide) ?_
              refine J_goto hK qd4_62.2.1 (n := 107) rfl ?_
              exact (j107 (1) hs39)
      exact J_loc [2, 3, 1, 0] rfl (lo39 n (0) (0) hl39)
    have lo6P : ∀ (k : Nat) (uL5 : AdM) (z7 : Int32) (z8 : (Nat → Int32)) (z9 : Int32) (z10 : (Nat → Nat → Int32)) (z11 : (Nat → Int32)) (z12 : (Nat → Int32)) (z13 : Int32) (z14 : (Nat → Nat → Int32)) (z15 : Int32) (z16 : (Nat → Nat → Int32)) (z17 : Int32) (z18 : Int32) (z19 : Int32) (z20 : (Nat → Int32)) (z21 : (Nat → Int32)) (z22 : Int32), lp (u16 (fX7_never_s42 n x0_shelf x0_rowSort x0_rowSize x0_rows x0_moved x0_shown x0_tape x0_tapeSize x0_refused x0_lines x0_line x0_changes x0_coins x0_goods x0_good x0_works x0_work x0_years x0_gone x0_spent x0_at x0_token x0_from x0_figures x0_fault x0_numbers x0_statements x0_left x0_far x0_tons x0_way x0_steps x0_met x0_queue (fun _ => 0) (fun _ => 0) (fun _ => 0) (fun _ _ => 0) (fun _ => 0) (fun _ => 0) (fun _ => 0) (0) (fun _ => 0) (0) (0) (0) (0) (0) (fun _ => 0) (0) (fun _ => 0) (0) (0) (fun _ => 0) (fun _ => 0) w5)) k (z7, z8, z9, z10, z11, z12, z13, z14, z15, z16, z17, z18, z19, z20, z21, z22) = some e23 → J d Φ 7 [gMd d h0 a0_kept (some (uL5.1 0)) a0_chosen r0_rows r0_line r0_good r0_work x0_shelf x0_rowSort x0_rowSize x0_moved x0_shown x0_tape x0_tapeSize x0_refused x0_lines x0_changes x0_coins x0_goods x0_works x0_years x0_gone x0_spent x0_at x0_token x0_from x0_figures x0_fault x0_numbers x0_statements x0_left x0_far x0_tons x0_way x0_steps x0_met x0_queue z8, gridI d r0_line 20 7 x0_line, gridI d r0_good 8 3 x0_good, gridI d r0_work 7 5 x0_work, gMd d uL5.1 none none none uL5.2.1 uL5.2.2.1 uL5.2.2.2.1 uL5.2.2.2.2 (fun _ => 0) (fun _ => 0) (fun _ => 0) (fun _ => 0) (fun _ => 0) (fun _ => 0) (0) (fun _ => 0) z9 z11 z12 z13 z15 z17 z18 z19 (0) (0) (0) (0) (0) (fun _ => 0) (0) z20 z21 z22 (fun _ => 0) (0) (0) (fun _ => 0) (fun _ => 0), gridJ d uL5.2.1 8 40 (fun _ _ => 0), gridI d uL5.2.2.1 20 7 z10, gridI d uL5.2.2.2.1 8 3 z14, gridI d uL5.2.2.2.2 7 5 z16] 63 1204 42 [(0, .ref (h0 0)), (1, .int w5), (2, .int z7)] [] := by
      intro k
      induction k with
      | zero => intro uL5 z7 z8 z9 z10 z11 z12 z13 z14 z15 z16 z17 z18 z19 z20 z21 z22 h; cases h
      | succ k ih6P =>
        intro uL5 z7 z8 z9 z10 z11 z12 z13 z14 z15 z16 z17 z18 z19 z20 z21 z22 h
        obtain ⟨k2, rr6, hk2, hs6, hr6⟩ := lp_ok h
        cases hk2
        have hs6 : fX7_never_s42 n x0_shelf x0_rowSort x0_rowSize x0_rows x0_moved x0_shown x0_tape x0_tapeSize x0_refused x0_lines x0_line x0_changes x0_coins x0_goods x0_good x0_works x0_work x0_years x0_gone x0_spent x0_at x0_token x0_from x0_figures x0_fault x0_numbers x0_statements x0_left x0_far x0_tons x0_way x0_steps x0_met x0_queue (fun _ => 0) (fun _ => 0) (fun _ => 0) (fun _ _ => 0) (fun _ => 0) (fun _ => 0) (fun _ => 0) (0) (fun _ => 0) (0) (0) (0) (0) (0) (fun _ => 0) (0) (fun _ => 0) (0) (0) (fun _ => 0) (fun _ => 0) w5 z7 z8 z9 z10 z11 z12 z13 z14 z15 z16 z17 z18 z19 z20 z21 z22 = some rr6 := hs6
        unfold fX7_never_s42 at hs6
        refine J_iload_n hK qd4_59.2.2.2.2.2.2.2.2.2.2.2.2.1 rfl 2 rfl rfl ?_
        refine J_iconst (v := 1) hK qd4_59.2.2.2.2.2.2.2.2.2.2.2.2.2.1 rfl (by decide) ?_
        refine J_aload_n hK qd4_59.2.2.2.2.2.2.2.2.2.2.2.2.2.2.1 rfl 0 rfl rfl ?_
        refine J_get hK fo_RX7_85 qd4_59.2.2.2.2.2.2.2.2.2.2.2.2.2.2.2.1 rfl 0 0 rfl rfl rfl ?_
        refine J_ishl hK qd4_60.1 rfl ?_
        refine J_icmp_ge (tg := 79) hK qd4_60.2.1 rfl rfl (fun hc49 => ?_) (fun hc49 => ?_)
        · have hs6 := ip hc49 hs6
          exact J_loc [0, 1] rfl (hx6_79P uL5 z8 z9 z10 z11 z12 z13 z14 z15 z16 z17 z18 z19 z20 z21 z22 (lpx hs6 hr6))
        · have hs6 := iq hc49 hs6
          refine J_aload_n hK qd4_60.2.2.1 rfl 0 rfl rfl ?_
          refine J_get hK fo_RX7_73 qd4_60.2.2.2.1 rfl 0 0 rfl rfl rfl ?_
          refine J_iload_n hK qd4_60.2.2.2.2.1 rfl 2 rfl rfl ?_
          refine J_iload_n hK qd4_60.2.2.2.2.2.1 rfl 2 rfl rfl ?_
          refine J_iload_n hK qd4_60.2.2.2.2.2.2.1 rfl 1 rfl rfl ?_
          refine J_iand hK qd4_60.2.2.2.2.2.2.2.1 rfl ?_
          refine J_if_ne (tg := 71) hK qd4_60.2.2.2.2.2.2.2.2.1 rfl rfl (fun hc60 => ?_) (fun hc60 => ?_)
          · have hs6 := iq hc60 hs6
            refine J_iconst (v := 0) hK qd4_60.2.2.2.2.2.2.2.2.2.2.2.2.2.1 rfl (by decide) ?_
            obtain ⟨f58, ef58, hs6⟩ := bs hs6
            refine J_iast (g' := gMd d h0 a0_kept (some (uL5.1 0)) a0_chosen r0_rows r0_line r0_good r0_work x0_shelf x0_rowSort x0_rowSize x0_moved x0_shown x0_tape x0_tapeSize x0_refused x0_lines x0_changes x0_coins x0_goods x0_works x0_years x0_gone x0_spent x0_at x0_token x0_from x0_figures x0_fault x0_numbers x0_statements x0_left x0_far x0_tons x0_way x0_steps x0_met x0_queue f58) (gs' := [gMd d h0 a0_kept (some (uL5.1 0)) a0_chosen r0_rows r0_line r0_good r0_work x0_shelf x0_rowSort x0_rowSize x0_moved x0_shown x0_tape x0_tapeSize x0_refused x0_lines x0_changes x0_coins x0_goods x0_works x0_years x0_gone x0_spent x0_at x0_token x0_from x0_figures x0_fault x0_numbers x0_statements x0_left x0_far x0_tons x0_way x0_steps x0_met x0_queue f58, gridI d r0_line 20 7 x0_line, gridI d r0_good 8 3 x0_good, gridI d r0_work 7 5 x0_work, gMd d uL5.1 none none none uL5.2.1 uL5.2.2.1 uL5.2.2.2.1 uL5.2.2.2.2 (fun _ => 0) (fun _ => 0) (fun _ => 0) (fun _ => 0) (fun _ => 0) (fun _ => 0) (0) (fun _ => 0) z9 z11 z12 z13 z15 z17 z18 z19 (0) (0) (0) (0) (0) (fun _ => 0) (0) z20 z21 z22 (fun _ => 0) (0) (0) (fun _ => 0) (fun _ => 0), gridJ d uL5.2.1 8 40 (fun _ _ => 0), gridI d uL5.2.2.1 20 7 z10, gridI d uL5.2.2.2.1 8 3 z14, gridI d uL5.2.2.2.2 7 5 z16]) hK qd4_60.2.2.2.2.2.2.2.2.2.2.2.2.2.2.1 rfl 0 19 rfl rfl ef58 rfl rfl ?_
            refine J_iinc (L' := [(2, .int (z7 + 1)), (0, .ref (h0 0)), (1, .int w5)]) (v := (z7 + 1)) hK qd4_60.2.2.2.2.2.2.2.2.2.2.2.2.2.2.2.1 rfl 2 rfl rfl (by decide) rfl ?_
            refine J_goto hK qd4_61.1 (n := 42) rfl ?_
            exact J_loc [1, 2, 0] rfl (ih6P uL5 (z7 + 1) f58 z9 z10 z11 z12 z13 z14 z15 z16 z17 z18 z19 z20 z21 z22 (lpc hs6 hr6))
          · have hs6 := ip hc60 hs6
            refine J_aload_n hK qd4_60.2.2.2.2.2.2.2.2.2.1 rfl 0 rfl rfl ?_
            refine J_iload_n hK qd4_60.2.2.2.2.2.2.2.2.2.2.1 rfl 2 rfl rfl ?_
            obtain ⟨⟨v59, ⟨g61, g62, g63, g64, g65, g66, g67, g68, g69, g70, g71, g72, g73, g74⟩⟩, e75, hs6⟩ := bs hs6
            have hs6 := un2 hs6
            have hs6 := un14 hs6
            refine J_callV (m := 9) (m' := 9) (ce' := 63) (sl' := 1204) (gr := [gridJ d uL5.2.1 8 40 (fun _ _ => 0)]) (gs' := fun _ => [gMd d h0 a0_kept (some (uL5.1 0)) a0_chosen r0_rows r0_line r0_good r0_work x0_shelf x0_rowSort x0_rowSize x0_moved x0_shown x0_tape x0_tapeSize x0_refused x0_lines x0_changes x0_coins x0_goods x0_works x0_years x0_gone x0_spent x0_at x0_token x0_from x0_figures x0_fault x0_numbers x0_statements x0_left x0_far x0_tons x0_way x0_steps x0_met x0_queue z8, gridI d r0_line 20 7 x0_line, gridI d r0_good 8 3 x0_good, gridI d r0_work 7 5 x0_work, gMd d uL5.1 none none none uL5.2.1 uL5.2.2.1 uL5.2.2.2.1 uL5.2.2.2.2 (fun _ => 0) (fun _ => 0) (fun _ => 0) (fun _ => 0) (fun _ => 0) (fun _ => 0) (0) (fun _ => 0) g61 g63 g64 g65 g67 g69 g70 g71 (0) (0) (0) (0) (0) (fun _ => 0) (0) g72 g73 g74 (fun _ => 0) (0) (0) (fun _ => 0) (fun _ => 0), gridJ d uL5.2.1 8 40 (fun _ _ => 0), gridI d uL5.2.2.1 20 7 g62, gridI d uL5.2.2.2.1 8 3 g66, gridI d uL5.2.2.2.2 7 5 g68]) (st' := fun _ => [.int v59, .int z7, .ref (h0 19)]) (st := [.int z7, .ref (h0 19)]) hK qd4_60.2.2.2.2.2.2.2.2.2.2.2.1 cv_RX7_300 iv_yX7_totalOf (As := [.int z7]) (kX7_totalOf _ d h0 r0_rows r0_line r0_good r0_work a0_kept a0_chosen uL5.1 uL5.2.1 uL5.2.2.1 uL5.2.2.2.1 uL5.2.2.2.2 none none none n x0_shelf x0_rowSort x0_rowSize x0_rows x0_moved x0_shown x0_tape x0_tapeSize x0_refused x0_lines x0_line x0_changes x0_coins x0_goods x0_good x0_works x0_work x0_years x0_gone x0_spent x0_at x0_token x0_from x0_figures x0_fault x0_numbers x0_statements x0_left x0_far x0_tons x0_way x0_steps x0_met x0_queue z8 (fun _ => 0) (fun _ => 0) (fun _ => 0) (fun _ _ => 0) (fun _ => 0) (fun _ => 0) (fun _ => 0) (0) (fun _ => 0) z9 z10 z11 z12 z13 z14 z15 z16 z17 z18 z19 (0) (0) (0) (0) (0) (fun _ => 0) (0) z20 z21 z22 (fun _ => 0) (0) (0) (fun _ => 0) (fun _ => 0) z7 e75) rfl rfl (Nat.le_of_ble_eq_true rfl) (by decide) 0 0 rfl rfl rfl [0, 1, 2, 3, 4, 6, 7, 8] [5] rfl (by decide +kernel) rfl rfl [1, 2, 3, 4, 5, 0, 6, 7, 8] (by decide +kernel) (fun _ => rfl) (fun _ => rfl) rfl rfl rfl (fun _ => rfl) (fun _ => ?_)
            refine J_goto hK qd4_60.2.2.2.2.2.2.2.2.2.2.2.2.1 (n := 72) rfl ?_
            obtain ⟨f76, ef76, hs6⟩ := bs hs6
            refine J_iast (g' := gMd d h0 a0_kept (some (uL5.1 0)) a0_chosen r0_rows r0_line r0_good r0_work x0_shelf x0_rowSort x0_rowSize x0_moved x0_shown x0_tape x0_tapeSize x0_refused x0_lines x0_changes x0_coins x0_goods x0_works x0_years x0_gone x0_spent x0_at x0_token x0_from x0_figures x0_fault x0_numbers x0_statements x0_left x0_far x0_tons x0_way x0_steps x0_met x0_queue f76) (gs' := [gMd d h0 a0_kept (some (uL5.1 0)) a0_chosen r0_rows r0_line r0_good r0_work x0_shelf x0_rowSort x0_rowSize x0_moved x0_shown x0_tape x0_tapeSize x0_refused x0_lines x0_changes x0_coins x0_goods x0_works x0_years x0_gone x0_spent x0_at x0_token x0_from x0_figures x0_fault x0_numbers x0_statements x0_left x0_far x0_tons x0_way x0_steps x0_met x0_queue f76, gridI d r0_line 20 7 x0_line, gridI d r0_good 8 3 x0_good, gridI d r0_work 7 5 x0_work, gMd d uL5.1 none none none uL5.2.1 uL5.2.2.1 uL5.2.2.2.1 uL5.2.2.2.2 (fun _ => 0) (fun _ => 0) (fun _ => 0) (fun _ => 0) (fun _ => 0) (fun _ => 0) (0) (fun _ => 0) g61 g63 g64 g65 g67 g69 g70 g71 (0) (0) (0) (0) (0) (fun _ => 0) (0) g72 g73 g74 (fun _ => 0) (0) (0) (fun _ => 0) (fun _ => 0), gridJ d uL5.2.1 8 40 (fun _ _ => 0), gridI d uL5.2.2.1 20 7 g62, gridI d uL5.2.2.2.1 8 3 g66, gridI d uL5.2.2.2.2 7 5 g68]) hK qd4_60.2.2.2.2.2.2.2.2.2.2.2.2.2.2.1 rfl 0 19 rfl rfl ef76 rfl rfl ?_
            refine J_iinc (L' := [(2, .int (z7 + 1)), (0, .ref (h0 0)), (1, .int w5)]) (v := (z7 + 1)) hK qd4_60.2.2.2.2.2.2.2.2.2.2.2.2.2.2.2.1 rfl 2 rfl rfl (by decide) rfl ?_
            refine J_goto hK qd4_61.1 (n := 42) rfl ?_
            exact J_loc [1, 2, 0] rfl (ih6P uL5 (z7 + 1) f76 g61 g62 g63 g64 g65 g66 g67 g68 g69 g70 g71 g72 g73 g74 (lpc hs6 hr6))
    have hx6_79N : ∀ (w24 : (Nat → Int32)), (w24, 0, (fun _ _ => 0), (fillV 12 9 (fun _ => 0)), (va_up (va_up (va_up (fun _ => 0) 0 1) 1 1) 2 1), 0, (fun _ _ => 0), 0, (fun _ _ => 0), 10, 0, 0, (fun _ => 0), (fun _ => 0), 0) = e23 → J d Φ 7 [gMd d h0 a0_kept none a0_chosen r0_rows r0_line r0_good r0_work x0_shelf x0_rowSort x0_rowSize x0_moved x0_shown x0_tape x0_tapeSize x0_refused x0_lines x0_changes x0_coins x0_goods x0_works x0_years x0_gone x0_spent x0_at x0_token x0_from x0_figures x0_fault x0_numbers x0_statements x0_left x0_far x0_tons x0_way x0_steps x0_met x0_queue w24, gridI d r0_line 20 7 x0_line, gridI d r0_good 8 3 x0_good, gridI d r0_work 7 5 x0_work] 0 0 79 [(0, .ref (h0 0)), (1, .int w5)] [] := by
      intro w24 he
      rw [← he] at hf
      have hf := un15 hf
      refine J_iconst (v := 0) hK qd4_61.2.1 rfl (by decide) ?_
      refine J_istore_n (L' := [(2, .int (0)), (0, .ref (h0 0)), (1, .int w5)]) hK qd4_61.2.2.1 rfl rfl (by decide) rfl ?_
      refine J_iconst (v := 0) hK qd4_61.2.2.2.1 rfl (by decide) ?_
      refine J_istore_n (L' := [(3, .int (0)), (2, .int (0)), (0, .ref (h0 0)), (1, .int w5)]) hK qd4_61.2.2.2.2.1 rfl rfl (by decide) rfl ?_
      obtain ⟨e42, hl39, hf⟩ := bs hf
      have hx39_221 : ∀ (w43 : Int32), w43 = e42 → J d Φ 7 [gMd d h0 a0_kept none a0_chosen r0_rows r0_line r0_good r0_work x0_shelf x0_rowSort x0_rowSize x0_moved x0_shown x0_tape x0_tapeSize x0_refused x0_lines x0_changes x0_coins x0_goods x0_works x0_years x0_gone x0_spent x0_at x0_token x0_from x0_figures x0_fault x0_numbers x0_statements x0_left x0_far x0_tons x0_way x0_steps x0_met x0_queue w24, gridI d r0_line 20 7 x0_line, gridI d r0_good 8 3 x0_good, gridI d r0_work 7 5 x0_work] 0 0 221 [(2, .int w43)] [] := by
        intro w43 he
        rw [← he] at hf
        refine J_iload_n hK qd4_66.2.2.2.2.2.1 rfl 0 rfl rfl ?_
        obtain rfl := Option.some.inj hf
        refine J_fl (gs2 := [gMd d h0 a0_kept none a0_chosen r0_rows r0_line r0_good r0_work x0_shelf x0_rowSort x0_rowSize x0_moved x0_shown x0_tape x0_tapeSize x0_refused x0_lines x0_changes x0_coins x0_goods x0_works x0_years x0_gone x0_spent x0_at x0_token x0_from x0_figures x0_fault x0_numbers x0_statements x0_left x0_far x0_tons x0_way x0_steps x0_met x0_queue w24, gridI d r0_line 20 7 x0_line, gridI d r0_good 8 3 x0_good, gridI d r0_work 7 5 x0_work, oMd d none none none none (fun _ => 0) (fun _ => 0) (fun _ => 0) (fun _ _ => 0) (fun _ => 0) (fun _ => 0) (fun _ => 0) (0) (fun _ => 0) (0) (fun _ _ => 0) (fillV 12 9 (fun _ => 0)) (va_up (va_up (va_up (fun _ => 0) 0 1) 1 1) 2 1) (0) (fun _ _ => 0) (0) (fun _ _ => 0) (10) (0) (0) (0) (0) (0) (0) (0) (fun _ => 0) (0) (fun _ => 0) (fun _ => 0) (0) (fun _ => 0) (0) (0) (fun _ => 0) (fun _ => 0)]) rfl ?_
        exact J_iret hK hR qd4_66.2.2.2.2.2.2.1 ⟨none, fun _ => rfl⟩ rfl (by decide) (by decide)
      have lo39 : ∀ (k : Nat) (z40 : Int32) (z41 : Int32), lp (u2 (fX7_never_s83 n x0_works x0_work w5 w24)) k (z40, z41) = some e42 → J d Φ 7 [gMd d h0 a0_kept none a0_chosen r0_rows r0_line r0_good r0_work x0_shelf x0_rowSort x0_rowSize x0_moved x0_shown x0_tape x0_tapeSize x0_refused x0_lines x0_changes x0_coins x0_goods x0_works x0_years x0_gone x0_spent x0_at x0_token x0_from x0_figures x0_fault x0_numbers x0_statements x0_left x0_far x0_tons x0_way x0_steps x0_met x0_queue w24, gridI d r0_line 20 7 x0_line, gridI d r0_good 8 3 x0_good, gridI d r0_work 7 5 x0_work] 0 0 83 [(0, .ref (h0 0)), (1, .int w5), (2, .int z40), (3, .int z41)] [] := by
        intro k
        induction k with
        | zero => intro z40 z41 h; cases h
        | succ k ih39 =>
          intro z40 z41 h
          obtain ⟨k2, rr39, hk2, hs39, hr39⟩ := lp_ok h
          cases hk2
          have hs39 : fX7_never_s83 n x0_works x0_work w5 w24 z40 z41 = some rr39 := hs39
          unfold fX7_never_s83 at hs39
          refine J_iload_n hK qd4_61.2.2.2.2.2.1 rfl 3 rfl rfl ?_
          refine J_aload_n hK qd4_61.2.2.2.2.2.2.1 rfl 0 rfl rfl ?_
          refine J_get hK fo_RX7_85 qd4_61.2.2.2.2.2.2.2.1 rfl 0 0 rfl rfl rfl ?_
          refine J_icmp_ge (tg := 221) hK qd4_61.2.2.2.2.2.2.2.2.1 rfl rfl (fun hc88 => ?_) (fun hc88 => ?_)
          · have hs39 := ip hc88 hs39
            exact J_loc [2] rfl (hx39_221 z40 (lpx hs39 hr39))
          · have hs39 := iq hc88 hs39
            refine J_aload_n hK qd4_61.2.2.2.2.2.2.2.2.2.1 rfl 0 rfl rfl ?_
            refine J_get hK fo_RX7_51 qd4_61.2.2.2.2.2.2.2.2.2.2.1 rfl 0 0 rfl rfl rfl ?_
            refine J_iload_n hK qd4_61.2.2.2.2.2.2.2.2.2.2.2.1 rfl 3 rfl rfl ?_
            obtain ⟨q44, eq44, hs39⟩ := bs hs39
            refine J_aald hK qd4_61.2.2.2.2.2.2.2.2.2.2.2.2.1 rfl 0 13 rfl rfl rfl eq44 ?_
            refine J_iconst (v := 4) hK qd4_61.2.2.2.2.2.2.2.2.2.2.2.2.2.1 rfl (by decide) ?_
            obtain ⟨v45, ev45, hs39⟩ := bs hs39
            refine J_iald hK qd4_61.2.2.2.2.2.2.2.2.2.2.2.2.2.2.1 rfl 3 q44 rfl (gridI_at (ck_ok eq44).2.2) ev45 ?_
            have j107 : ∀ (y46 : Int32), fX7_never_j107 n x0_works x0_work w5 w24 z40 z41 y46 = some rr39 → J d Φ 7 [gMd d h0 a0_kept none a0_chosen r0_rows r0_line r0_good r0_work x0_shelf x0_rowSort x0_rowSize x0_moved x0_shown x0_tape x0_tapeSize x0_refused x0_lines x0_changes x0_coins x0_goods x0_works x0_years x0_gone x0_spent x0_at x0_token x0_from x0_figures x0_fault x0_numbers x0_statements x0_left x0_far x0_tons x0_way x0_steps x0_met x0_queue w24, gridI d r0_line 20 7 x0_line, gridI d r0_good 8 3 x0_good, gridI d r0_work 7 5 x0_work] 0 0 107 [(0, .ref (h0 0)), (1, .int w5), (2, .int z40), (3, .int z41)] [.int y46] := by
              intro y46 hs39
              unfold fX7_never_j107 at hs39
              refine J_istore (L' := [(4, .int y46), (0, .ref (h0 0)), (1, .int w5), (2, .int z40), (3, .int z41)]) hK qd4_62.2.2.2.1 rfl (by decide) rfl ?_
              refine J_iconst (v := 0) hK qd4_62.2.2.2.2.1 rfl (by decide) ?_
              refine J_istore (L' := [(5, .int (0)), (4, .int y46), (0, .ref (h0 0)), (1, .int w5), (2, .int z40), (3, .int z41)]) hK qd4_62.2.2.2.2.2.1 rfl (by decide) rfl ?_
              obtain ⟨e50, hl47, hs39⟩ := bs hs39
              have hx47_200 : ∀ (w51 : Int32), w51 = e50 → J d Φ 7 [gMd d h0 a0_kept none a0_chosen r0_rows r0_line r0_good r0_work x0_shelf x0_rowSort x0_rowSize x0_moved x0_shown x0_tape x0_tapeSize x0_refused x0_lines x0_changes x0_coins x0_goods x0_works x0_years x0_gone x0_spent x0_at x0_token x0_from x0_figures x0_fault x0_numbers x0_statements x0_left x0_far x0_tons x0_way x0_steps x0_met x0_queue w24, gridI d r0_line 20 7 x0_line, gridI d r0_good 8 3 x0_good, gridI d r0_work 7 5 x0_work] 0 0 200 [(0, .ref (h0 0)), (1, .int w5), (2, .int z40), (3, .int z41), (4, .int w51)] [] := by
                intro w51 he
                rw [← he] at hs39
                refine J_iload_n hK qd4_65.2.2.2.2.2.2.2.2.2.1 rfl 2 rfl rfl ?_
                refine J_iload hK qd4_65.2.2.2.2.2.2.2.2.2.2.1 rfl 4 rfl ?_
                refine J_if_eq (tg := 212) hK qd4_65.2.2.2.2.2.2.2.2.2.2.2.1 rfl rfl (fun hc203 => ?_) (fun hc203 => ?_)
                · have hs39 := ip hc203 hs39
                  refine J_iconst (v := 0) hK qd4_66.1 rfl (by decide) ?_
                  refine J_ior hK qd4_66.2.1 rfl ?_
                  refine J_istore_n (L' := [(2, .int (z40 ||| 0)), (0, .ref (h0 0)), (1, .int w5), (3, .int z41), (4, .int w51)]) hK qd4_66.2.2.1 rfl rfl (by decide) rfl ?_
                  refine J_iinc (L' := [(3, .int (z41 + 1)), (2, .int (z40 ||| 0)), (0, .ref (h0 0)), (1, .int w5), (4, .int w51)]) (v := (z41 + 1)) hK qd4_66.2.2.2.1 rfl 3 rfl rfl (by decide) rfl ?_
                  refine J_goto hK qd4_66.2.2.2.2.1 (n := 83) rfl ?_
                  exact J_loc [2, 3, 1, 0] rfl (ih39 (z40 ||| 0) (z41 + 1) (lpc hs39 hr39))
                · have hs39 := iq hc203 hs39
                  refine J_iconst (v := 1) hK qd4_65.2.2.2.2.2.2.2.2.2.2.2.2.1 rfl (by decide) ?_
                  refine J_iload_n hK qd4_65.2.2.2.2.2.2.2.2.2.2.2.2.2.1 rfl 3 rfl rfl ?_
                  refine J_ishl hK qd4_65.2.2.2.2.2.2.2.2.2.2.2.2.2.2.1 rfl ?_
                  refine J_goto hK qd4_65.2.2.2.2.2.2.2.2.2.2.2.2.2.2.2.1 (n := 213) rfl ?_
                  refine J_ior hK qd4_66.2.1 rfl ?_
                  obtain ⟨t52, et52, hs39⟩ := bs hs39
                  refine J_nmi et52 ?_
                  refine J_istore_n (L' := [(2, .int t52), (0, .ref (h0 0)), (1, .int w5), (3, .int z41), (4, .int w51)]) hK qd4_66.2.2.1 rfl rfl (by decide) rfl ?_
                  refine J_iinc (L' := [(3, .int (z41 + 1)), (2, .int t52), (0, .ref (h0 0)), (1, .int w5), (4, .int w51)]) (v := (z41 + 1)) hK qd4_66.2.2.2.1 rfl 3 rfl rfl (by decide) rfl ?_
                  refine J_goto hK qd4_66.2.2.2.2.1 (n := 83) rfl ?_
                  exact J_loc [2, 3, 1, 0] rfl (ih39 t52 (z41 + 1) (lpc hs39 hr39))
              have lo47 : ∀ (k : Nat) (z48 : Int32) (z49 : Int32), lp (u2 (fX7_never_s112 x0_works x0_work w5 w24 z41)) k (z48, z49) = some e50 → J d Φ 7 [gMd d h0 a0_kept none a0_chosen r0_rows r0_line r0_good r0_work x0_shelf x0_rowSort x0_rowSize x0_moved x0_shown x0_tape x0_tapeSize x0_refused x0_lines x0_changes x0_coins x0_goods x0_works x0_years x0_gone x0_spent x0_at x0_token x0_from x0_figures x0_fault x0_numbers x0_statements x0_left x0_far x0_tons x0_way x0_steps x0_met x0_queue w24, gridI d r0_line 20 7 x0_line, gridI d r0_good 8 3 x0_good, gridI d r0_work 7 5 x0_work] 0 0 112 [(0, .ref (h0 0)), (1, .int w5), (2, .int z40), (3, .int z41), (4, .int z48), (5, .int z49)] [] := by
                intro k
                induction k with
                | zero => intro z48 z49 h; cases h
                | succ k ih47 =>
                  intro z48 z49 h
                  obtain ⟨k2, rr47, hk2, hs47, hr47⟩ := lp_ok h
                  cases hk2
                  have hs47 : fX7_never_s112 x0_works x0_work w5 w24 z41 z48 z49 = some rr47 := hs47
                  unfold fX7_never_s112 at hs47
                  refine J_iload hK qd4_62.2.2.2.2.2.2.1 rfl 5 rfl ?_
                  refine J_iconst (v := 1) hK qd4_62.2.2.2.2.2.2.2.1 rfl (by decide) ?_
                  refine J_aload_n hK qd4_62.2.2.2.2.2.2.2.2.1 rfl 0 rfl rfl ?_
                  refine J_get hK fo_RX7_85 qd4_62.2.2.2.2.2.2.2.2.2.1 rfl 0 0 rfl rfl rfl ?_
                  refine J_ishl hK qd4_62.2.2.2.2.2.2.2.2.2.2.1 rfl ?_
                  refine J_icmp_ge (tg := 200) hK qd4_62.2.2.2.2.2.2.2.2.2.2.2.1 rfl rfl (fun hc120 => ?_) (fun hc120 => ?_)
                  · have hs47 := ip hc120 hs47
                    exact J_loc [0, 1, 2, 3, 4] rfl (hx47_200 z48 (lpx hs47 hr47))
                  · have hs47 := iq hc120 hs47
                    refine J_iload hK qd4_62.2.2.2.2.2.2.2.2.2.2.2.2.1 rfl 5 rfl ?_
                    refine J_iload_n hK qd4_62.2.2.2.2.2.2.2.2.2.2.2.2.2.1 rfl 1 rfl rfl ?_
                    refine J_iand hK qd4_62.2.2.2.2.2.2.2.2.2.2.2.2.2.2.1 rfl ?_
                    have j144 : ∀ (y53 : Int32), fX7_never_j144 x0_work w24 z41 z48 z49 y53 = some rr47 → J d Φ 7 [gMd d h0 a0_kept none a0_chosen r0_rows r0_line r0_good r0_work x0_shelf x0_rowSort x0_rowSize x0_moved x0_shown x0_tape x0_tapeSize x0_refused x0_lines x0_changes x0_coins x0_goods x0_works x0_years x0_gone x0_spent x0_at x0_token x0_from x0_figures x0_fault x0_numbers x0_statements x0_left x0_far x0_tons x0_way x0_steps x0_met x0_queue w24, gridI d r0_line 20 7 x0_line, gridI d r0_good 8 3 x0_good, gridI d r0_work 7 5 x0_work] 0 0 144 [(0, .ref (h0 0)), (1, .int w5), (2, .int z40), (3, .int z41), (4, .int z48), (5, .int z49)] [.int y53] := by
                      intro y53 hs47
                      unfold fX7_never_j144 at hs47
                      refine J_istore (L' := [(6, .int y53), (0, .ref (h0 0)), (1, .int w5), (2, .int z40), (3, .int z41), (4, .int z48), (5, .int z49)]) hK qd4_63.2.2.2.2.2.2.2.2.2.1 rfl (by decide) rfl ?_
                      refine J_iload hK qd4_63.2.2.2.2.2.2.2.2.2.2.1 rfl 5 rfl ?_
                      refine J_iload hK qd4_63.2.2.2.2.2.2.2.2.2.2.2.1 rfl 0 rfl ?_
                      have j186 : fX7_never_j186 z48 z49 = some rr47 → J d Φ 7 [gMd d h0 a0_kept none a0_chosen r0_rows r0_line r0_good r0_work x0_shelf x0_rowSort x0_rowSize x0_moved x0_shown x0_tape x0_tapeSize x0_refused x0_lines x0_changes x0_coins x0_goods x0_works x0_years x0_gone x0_spent x0_at x0_token x0_from x0_figures x0_fault x0_numbers x0_statements x0_left x0_far x0_tons x0_way x0_steps x0_met x0_queue w24, gridI d r0_line 20 7 x0_line, gridI d r0_good 8 3 x0_good, gridI d r0_work 7 5 x0_work] 0 0 186 [(0, .ref (h0 0)), (1, .int w5), (2, .int z40), (3, .int z41), (5, .int z49)] [.int z48] := by
                        intro  hs47
                        unfold fX7_never_j186 at hs47
                        refine J_iconst (v := 1) hK qd4_65.2.2.1 rfl (by decide) ?_
                        refine J_goto hK qd4_65.2.2.2.1 (n := 191) rfl ?_
                        refine J_iand hK qd4_65.2.2.2.2.2.1 rfl ?_
                        refine J_istore (L' := [(4, .int (z48 &&& 1)), (0, .ref (h0 0)), (1, .int w5), (2, .int z40), (3, .int z41), (5, .int z49)]) hK qd4_65.2.2.2.2.2.2.1 rfl (by decide) rfl ?_
                        refine J_iinc (L' := [(5, .int (z49 + 1)), (4, .int (z48 &&& 1)), (0, .ref (h0 0)), (1, .int w5), (2, .int z40), (3, .int z41)]) (v := (z49 + 1)) hK qd4_65.2.2.2.2.2.2.2.1 rfl 5 rfl rfl (by decide) rfl ?_
                        refine J_goto hK qd4_65.2.2.2.2.2.2.2.2.1 (n := 112) rfl ?_
                        exact J_loc [2, 3, 4, 5, 1, 0] rfl (ih47 (z48 &&& 1) (z49 + 1) (lpc hs47 hr47))
                      refine J_if_eq (tg := 186) hK qd4_63.2.2.2.2.2.2.2.2.2.2.2.2.1 rfl rfl (fun hc150 => ?_) (fun hc150 => ?_)
                      · have hs47 := ip hc150 hs47
                        exact J_loc [1, 2, 3, 4, 6] rfl (j186  hs47)
                      · have hs47 := iq hc150 hs47
                        refine J_aload_n hK qd4_63.2.2.2.2.2.2.2.2.2.2.2.2.2.1 rfl 1 rfl rfl ?_
                        refine J_get hK fo_RX7_51 qd4_63.2.2.2.2.2.2.2.2.2.2.2.2.2.2.1 rfl 0 0 rfl rfl rfl ?_
                        refine J_iload_n hK qd4_63.2.2.2.2.2.2.2.2.2.2.2.2.2.2.2.1 rfl 4 rfl rfl ?_
                        obtain ⟨q54, eq54, hs47⟩ := bs hs47
                        refine J_aald hK qd4_64.1 rfl 0 13 rfl rfl rfl eq54 ?_
                        refine J_iconst (v := 4) hK qd4_64.2.1 rfl (by decide) ?_
                        obtain ⟨v55, ev55, hs47⟩ := bs hs47
                        refine J_iald hK qd4_64.2.2.1 rfl 3 q54 rfl (gridI_at (ck_ok eq54).2.2) ev55 ?_
                        refine J_iconst (v := 1) hK qd4_64.2.2.2.1 rfl (by decide) ?_
                        refine J_icmp_eq (tg := 186) hK qd4_64.2.2.2.2.1 rfl rfl (fun hc162 => ?_) (fun hc162 => ?_)
                        · have hs47 := ip hc162 hs47
                          exact J_loc [1, 2, 3, 4, 6] rfl (j186  hs47)
                        · have hs47 := iq hc162 hs47
                          refine J_aload_n hK qd4_64.2.2.2.2.2.1 rfl 1 rfl rfl ?_
                          refine J_get hK fo_RX7_73 qd4_64.2.2.2.2.2.2.1 rfl 0 0 rfl rfl rfl ?_
                          refine J_iload hK qd4_64.2.2.2.2.2.2.2.1 rfl 6 rfl ?_
                          refine J_iconst (v := 1) hK qd4_64.2.2.2.2.2.2.2.2.1 rfl (by decide) ?_
                          refine J_iload_n hK qd4_64.2.2.2.2.2.2.2.2.2.1 rfl 4 rfl rfl ?_
                          refine J_ishl hK qd4_64.2.2.2.2.2.2.2.2.2.2.1 rfl ?_
                          refine J_ior hK qd4_64.2.2.2.2.2.2.2.2.2.2.2.1 rfl ?_
                          obtain ⟨v56, ev56, hs47⟩ := bs hs47
                          refine J_iald hK qd4_64.2.2.2.2.2.2.2.2.2.2.2.2.1 rfl 0 19 rfl rfl ev56 ?_
                          refine J_aload_n hK qd4_64.2.2.2.2.2.2.2.2.2.2.2.2.2.1 rfl 1 rfl rfl ?_
                          refine J_get hK fo_RX7_73 qd4_64.2.2.2.2.2.2.2.2.2.2.2.2.2.2.1 rfl 0 0 rfl rfl rfl ?_
                          refine J_iload hK qd4_64.2.2.2.2.2.2.2.2.2.2.2.2.2.2.2.1 rfl 6 rfl ?_
                          obtain ⟨v57, ev57, hs47⟩ := bs hs47
                          refine J_iald hK qd4_65.1 rfl 0 19 rfl rfl ev57 ?_
                          refine J_icmp_le (tg := 190) hK qd4_65.2.1 rfl rfl (fun hc183 => ?_) (fun hc183 => ?_)
                          · have hs47 := ip hc183 hs47
                            refine J_iconst (v := 0) hK qd4_65.2.2.2.2.1 rfl (by decide) ?_
                            refine J_iand hK qd4_65.2.2.2.2.2.1 rfl ?_
                            refine J_istore (L' := [(4, .int (z48 &&& 0)), (6, .int y53), (0, .ref (h0 0)), (1, .int w5), (2, .int z40), (3, .int z41), (5, .int z49)]) hK qd4_65.2.2.2.2.2.2.1 rfl (by decide) rfl ?_
                            refine J_iinc (L' := [(5, .int (z49 + 1)), (4, .int (z48 &&& 0)), (6, .int y53), (0, .ref (h0 0)), (1, .int w5), (2, .int z40), (3, .int z41)]) (v := (z49 + 1)) hK qd4_65.2.2.2.2.2.2.2.1 rfl 6 rfl rfl (by decide) rfl ?_
                            refine J_goto hK qd4_65.2.2.2.2.2.2.2.2.1 (n := 112) rfl ?_
                            exact J_loc [3, 4, 5, 6, 1, 0] rfl (ih47 (z48 &&& 0) (z49 + 1) (lpc hs47 hr47))
                          · have hs47 := iq hc183 hs47
                            exact J_loc [1, 2, 3, 4, 6] rfl (j186  hs47)
                    have j143 : fX7_never_j143 x0_work w24 z41 z48 z49 = some rr47 → J d Φ 7 [gMd d h0 a0_kept none a0_chosen r0_rows r0_line r0_good r0_work x0_shelf x0_rowSort x0_rowSize x0_moved x0_shown x0_tape x0_tapeSize x0_refused x0_lines x0_changes x0_coins x0_goods x0_works x0_years x0_gone x0_spent x0_at x0_token x0_from x0_figures x0_fault x0_numbers x0_statements x0_left x0_far x0_tons x0_way x0_steps x0_met x0_queue w24, gridI d r0_line 20 7 x0_line, gridI d r0_good 8 3 x0_good, gridI d r0_work 7 5 x0_work] 0 0 143 [(0, .ref (h0 0)), (1, .int w5), (2, .int z40), (3, .int z41), (4, .int z48), (5, .int z49)] [] := by
                      intro  hs47
                      unfold fX7_never_j143 at hs47
                      refine J_iconst (v := 0) hK qd4_63.2.2.2.2.2.2.2.2.1 rfl (by decide) ?_
                      exact (j144 (0) hs47)
                    refine J_if_ne (tg := 143) hK qd4_62.2.2.2.2.2.2.2.2.2.2.2.2.2.2.2.1 rfl rfl (fun hc127 => ?_) (fun hc127 => ?_)
                    · have hs47 := iq hc127 hs47
                      exact (j143  hs47)
                    · have hs47 := ip hc127 hs47
                      refine J_iload hK qd4_63.1 rfl 5 rfl ?_
                      refine J_iload_n hK qd4_63.2.1 rfl 3 rfl rfl ?_
                      refine J_ishr hK qd4_63.2.2.1 rfl ?_
                      refine J_iconst (v := 1) hK qd4_63.2.2.2.1 rfl (by decide) ?_
                      refine J_iand hK qd4_63.2.2.2.2.1 rfl ?_
                      refine J_if_ne (tg := 143) hK qd4_63.2.2.2.2.2.1 rfl rfl (fun hc136 => ?_) (fun hc136 => ?_)
                      · have hs47 := iq hc136 hs47
                        exact (j143  hs47)
                      · have hs47 := ip hc136 hs47
                        refine J_iconst (v := 1) hK qd4_63.2.2.2.2.2.2.1 rfl (by decide) ?_
                        refine J_goto hK qd4_63.2.2.2.2.2.2.2.1 (n := 144) rfl ?_
                        exact (j144 (1) hs47)
              exact J_loc [2, 3, 4, 5, 1, 0] rfl (lo47 n y46 (0) hl47)
            refine J_if_ne (tg := 106) hK qd4_61.2.2.2.2.2.2.2.2.2.2.2.2.2.2.2.1 rfl rfl (fun hc99 => ?_) (fun hc99 => ?_)
            · have hs39 := iq hc99 hs39
              refine J_iconst (v := 0) hK qd4_62.2.2.1 rfl (by decide) ?_
              exact (j107 (0) hs39)
            · have hs39 := ip hc99 hs39
              refine J_iconst (v := 1) hK qd4_62.1 rfl (by decide) ?_
              refine J_goto hK qd4_62.2.1 (n := 107) rfl ?_
              exact (j107 (1) hs39)
      exact J_loc [2, 3, 1, 0] rfl (lo39 n (0) (0) hl39)
    have lo6N : ∀ (k : Nat) (z7 : Int32) (z8 : (Nat → Int32)), lp (u16 (fX7_never_s42 n x0_shelf x0_rowSort x0_rowSize x0_rows x0_moved x0_shown x0_tape x0_tapeSize x0_refused x0_lines x0_line x0_changes x0_coins x0_goods x0_good x0_works x0_work x0_years x0_gone x0_spent x0_at x0_token x0_from x0_figures x0_fault x0_numbers x0_statements x0_left x0_far x0_tons x0_way x0_steps x0_met x0_queue (fun _ => 0) (fun _ => 0) (fun _ => 0) (fun _ _ => 0) (fun _ => 0) (fun _ => 0) (fun _ => 0) (0) (fun _ => 0) (0) (0) (0) (0) (0) (fun _ => 0) (0) (fun _ => 0) (0) (0) (fun _ => 0) (fun _ => 0) w5)) k (z7, z8, 0, (fun _ _ => 0), (fillV 12 9 (fun _ => 0)), (va_up (va_up (va_up (fun _ => 0) 0 1) 1 1) 2 1), 0, (fun _ _ => 0), 0, (fun _ _ => 0), 10, 0, 0, (fun _ => 0), (fun _ => 0), 0) = some e23 → J d Φ 7 [gMd d h0 a0_kept none a0_chosen r0_rows r0_line r0_good r0_work x0_shelf x0_rowSort x0_rowSize x0_moved x0_shown x0_tape x0_tapeSize x0_refused x0_lines x0_changes x0_coins x0_goods x0_works x0_years x0_gone x0_spent x0_at x0_token x0_from x0_figures x0_fault x0_numbers x0_statements x0_left x0_far x0_tons x0_way x0_steps x0_met x0_queue z8, gridI d r0_line 20 7 x0_line, gridI d r0_good 8 3 x0_good, gridI d r0_work 7 5 x0_work] 0 0 42 [(0, .ref (h0 0)), (1, .int w5), (2, .int z7)] [] := by
      intro k
      induction k with
      | zero => intro z7 z8 h; cases h
      | succ k ih6N =>
        intro z7 z8 h
        obtain ⟨k2, rr6, hk2, hs6, hr6⟩ := lp_ok h
        cases hk2
        have hs6 : fX7_never_s42 n x0_shelf x0_rowSort x0_rowSize x0_rows x0_moved x0_shown x0_tape x0_tapeSize x0_refused x0_lines x0_line x0_changes x0_coins x0_goods x0_good x0_works x0_work x0_years x0_gone x0_spent x0_at x0_token x0_from x0_figures x0_fault x0_numbers x0_statements x0_left x0_far x0_tons x0_way x0_steps x0_met x0_queue (fun _ => 0) (fun _ => 0) (fun _ => 0) (fun _ _ => 0) (fun _ => 0) (fun _ => 0) (fun _ => 0) (0) (fun _ => 0) (0) (0) (0) (0) (0) (fun _ => 0) (0) (fun _ => 0) (0) (0) (fun _ => 0) (fun _ => 0) w5 z7 z8 (0) (fun _ _ => 0) (fillV 12 9 (fun _ => 0)) (va_up (va_up (va_up (fun _ => 0) 0 1) 1 1) 2 1) (0) (fun _ _ => 0) (0) (fun _ _ => 0) (10) (0) (0) (fun _ => 0) (fun _ => 0) (0) = some rr6 := hs6
        unfold fX7_never_s42 at hs6
        refine J_iload_n hK qd4_59.2.2.2.2.2.2.2.2.2.2.2.2.1 rfl 2 rfl rfl ?_
        refine J_iconst (v := 1) hK qd4_59.2.2.2.2.2.2.2.2.2.2.2.2.2.1 rfl (by decide) ?_
        refine J_aload_n hK qd4_59.2.2.2.2.2.2.2.2.2.2.2.2.2.2.1 rfl 0 rfl rfl ?_
        refine J_get hK fo_RX7_85 qd4_59.2.2.2.2.2.2.2.2.2.2.2.2.2.2.2.1 rfl 0 0 rfl rfl rfl ?_
        refine J_ishl hK qd4_60.1 rfl ?_
        refine J_icmp_ge (tg := 79) hK qd4_60.2.1 rfl rfl (fun hc49 => ?_) (fun hc49 => ?_)
        · have hs6 := ip hc49 hs6
          exact J_loc [0, 1] rfl (hx6_79N z8 (lpx hs6 hr6))
        · have hs6 := iq hc49 hs6
          refine J_aload_n hK qd4_60.2.2.1 rfl 0 rfl rfl ?_
          refine J_get hK fo_RX7_73 qd4_60.2.2.2.1 rfl 0 0 rfl rfl rfl ?_
          refine J_iload_n hK qd4_60.2.2.2.2.1 rfl 2 rfl rfl ?_
          refine J_iload_n hK qd4_60.2.2.2.2.2.1 rfl 2 rfl rfl ?_
          refine J_iload_n hK qd4_60.2.2.2.2.2.2.1 rfl 1 rfl rfl ?_
          refine J_iand hK qd4_60.2.2.2.2.2.2.2.1 rfl ?_
          refine J_if_ne (tg := 71) hK qd4_60.2.2.2.2.2.2.2.2.1 rfl rfl (fun hc60 => ?_) (fun hc60 => ?_)
          · have hs6 := iq hc60 hs6
            refine J_iconst (v := 0) hK qd4_60.2.2.2.2.2.2.2.2.2.2.2.2.2.1 rfl (by decide) ?_
            obtain ⟨f58, ef58, hs6⟩ := bs hs6
            refine J_iast (g' := gMd d h0 a0_kept none a0_chosen r0_rows r0_line r0_good r0_work x0_shelf x0_rowSort x0_rowSize x0_moved x0_shown x0_tape x0_tapeSize x0_refused x0_lines x0_changes x0_coins x0_goods x0_works x0_years x0_gone x0_spent x0_at x0_token x0_from x0_figures x0_fault x0_numbers x0_statements x0_left x0_far x0_tons x0_way x0_steps x0_met x0_queue f58) (gs' := [gMd d h0 a0_kept none a0_chosen r0_rows r0_line r0_good r0_work x0_shelf x0_rowSort x0_rowSize x0_moved x0_shown x0_tape x0_tapeSize x0_refused x0_lines x0_changes x0_coins x0_goods x0_works x0_years x0_gone x0_spent x0_at x0_token x0_from x0_figures x0_fault x0_numbers x0_statements x0_left x0_far x0_tons x0_way x0_steps x0_met x0_queue f58, gridI d r0_line 20 7 x0_line, gridI d r0_good 8 3 x0_good, gridI d r0_work 7 5 x0_work]) hK qd4_60.2.2.2.2.2.2.2.2.2.2.2.2.2.2.1 rfl 0 19 rfl rfl ef58 rfl rfl ?_
            refine J_iinc (L' := [(2, .int (z7 + 1)), (0, .ref (h0 0)), (1, .int w5)]) (v := (z7 + 1)) hK qd4_60.2.2.2.2.2.2.2.2.2.2.2.2.2.2.2.1 rfl 2 rfl rfl (by decide) rfl ?_
            refine J_goto hK qd4_61.1 (n := 42) rfl ?_
            exact J_loc [1, 2, 0] rfl (ih6N (z7 + 1) f58 (lpc hs6 hr6))
          · have hs6 := ip hc60 hs6
            refine J_aload_n hK qd4_60.2.2.2.2.2.2.2.2.2.1 rfl 0 rfl rfl ?_
            refine J_iload_n hK qd4_60.2.2.2.2.2.2.2.2.2.2.1 rfl 2 rfl rfl ?_
            obtain ⟨⟨v59, ⟨g61, g62, g63, g64, g65, g66, g67, g68, g69, g70, g71, g72, g73, g74⟩⟩, e75, hs6⟩ := bs hs6
            have hs6 := un2 hs6
            have hs6 := un14 hs6
            refine J_callV (m := 4) (m' := 9) (ce' := 63) (sl' := 1204) (gr := []) (gs' := fun u1 => [gMd d h0 a0_kept (some (u1.1 0)) a0_chosen r0_rows r0_line r0_good r0_work x0_shelf x0_rowSort x0_rowSize x0_moved x0_shown x0_tape x0_tapeSize x0_refused x0_lines x0_changes x0_coins x0_goods x0_works x0_years x0_gone x0_spent x0_at x0_token x0_from x0_figures x0_fault x0_numbers x0_statements x0_left x0_far x0_tons x0_way x0_steps x0_met x0_queue z8, gridI d r0_line 20 7 x0_line, gridI d r0_good 8 3 x0_good, gridI d r0_work 7 5 x0_work, gMd d u1.1 none none none u1.2.1 u1.2.2.1 u1.2.2.2.1 u1.2.2.2.2 (fun _ => 0) (fun _ => 0) (fun _ => 0) (fun _ => 0) (fun _ => 0) (fun _ => 0) (0) (fun _ => 0) g61 g63 g64 g65 g67 g69 g70 g71 (0) (0) (0) (0) (0) (fun _ => 0) (0) g72 g73 g74 (fun _ => 0) (0) (0) (fun _ => 0) (fun _ => 0), gridJ d u1.2.1 8 40 (fun _ _ => 0), gridI d u1.2.2.1 20 7 g62, gridI d u1.2.2.2.1 8 3 g66, gridI d u1.2.2.2.2 7 5 g68]) (st' := fun u1 => [.int v59, .int z7, .ref (h0 19)]) (st := [.int z7, .ref (h0 19)]) hK qd4_60.2.2.2.2.2.2.2.2.2.2.2.1 cv_RX7_300 iv_yX7_totalOf (As := [.int z7]) (kX7_totalOfNt _ d h0 r0_rows r0_line r0_good r0_work a0_kept a0_chosen n x0_shelf x0_rowSort x0_rowSize x0_rows x0_moved x0_shown x0_tape x0_tapeSize x0_refused x0_lines x0_line x0_changes x0_coins x0_goods x0_good x0_works x0_work x0_years x0_gone x0_spent x0_at x0_token x0_from x0_figures x0_fault x0_numbers x0_statements x0_left x0_far x0_tons x0_way x0_steps x0_met x0_queue z8 z7 e75) rfl rfl (Nat.le_of_ble_eq_true rfl) (by decide) 0 0 rfl rfl rfl [0, 1, 2, 3] [] rfl (by decide +kernel) rfl rfl [0, 1, 2, 3, 4, 5, 6, 7, 8] (by decide +kernel) (fun _ => rfl) (fun _ => rfl) rfl rfl rfl (fun _ => rfl) (fun u1 => ?_)
            refine J_goto hK qd4_60.2.2.2.2.2.2.2.2.2.2.2.2.1 (n := 72) rfl ?_
            obtain ⟨f76, ef76, hs6⟩ := bs hs6
            refine J_iast (g' := gMd d h0 a0_kept (some (u1.1 0)) a0_chosen r0_rows r0_line r0_good r0_work x0_shelf x0_rowSort x0_rowSize x0_moved x0_shown x0_tape x0_tapeSize x0_refused x0_lines x0_changes x0_coins x0_goods x0_works x0_years x0_gone x0_spent x0_at x0_token x0_from x0_figures x0_fault x0_numbers x0_statements x0_left x0_far x0_tons x0_way x0_steps x0_met x0_queue f76) (gs' := [gMd d h0 a0_kept (some (u1.1 0)) a0_chosen r0_rows r0_line r0_good r0_work x0_shelf x0_rowSort x0_rowSize x0_moved x0_shown x0_tape x0_tapeSize x0_refused x0_lines x0_changes x0_coins x0_goods x0_works x0_years x0_gone x0_spent x0_at x0_token x0_from x0_figures x0_fault x0_numbers x0_statements x0_left x0_far x0_tons x0_way x0_steps x0_met x0_queue f76, gridI d r0_line 20 7 x0_line, gridI d r0_good 8 3 x0_good, gridI d r0_work 7 5 x0_work, gMd d u1.1 none none none u1.2.1 u1.2.2.1 u1.2.2.2.1 u1.2.2.2.2 (fun _ => 0) (fun _ => 0) (fun _ => 0) (fun _ => 0) (fun _ => 0) (fun _ => 0) (0) (fun _ => 0) g61 g63 g64 g65 g67 g69 g70 g71 (0) (0) (0) (0) (0) (fun _ => 0) (0) g72 g73 g74 (fun _ => 0) (0) (0) (fun _ => 0) (fun _ => 0), gridJ d u1.2.1 8 40 (fun _ _ => 0), gridI d u1.2.2.1 20 7 g62, gridI d u1.2.2.2.1 8 3 g66, gridI d u1.2.2.2.2 7 5 g68]) hK qd4_60.2.2.2.2.2.2.2.2.2.2.2.2.2.2.1 rfl 0 19 rfl rfl ef76 rfl rfl ?_
            refine J_iinc (L' := [(2, .int (z7 + 1)), (0, .ref (h0 0)), (1, .int w5)]) (v := (z7 + 1)) hK qd4_60.2.2.2.2.2.2.2.2.2.2.2.2.2.2.2.1 rfl 2 rfl rfl (by decide) rfl ?_
            refine J_goto hK qd4_61.1 (n := 42) rfl ?_
            exact J_loc [1, 2, 0] rfl (lo6P k u1 (z7 + 1) f76 g61 g62 g63 g64 g65 g66 g67 g68 g69 g70 g71 g72 g73 g74 (lpc hs6 hr6))
    exact J_loc [1, 2, 0] rfl (lo6N n (0) x0_totals hl6)
  have lo1 : ∀ (k : Nat) (z2 : Int32) (z3 : Int32), lp (u2 (fX7_never_s4 x0_works x0_work)) k (z2, z3) = some e4 → J d Φ 7 [gMd d h0 a0_kept none a0_chosen r0_rows r0_line r0_good r0_work x0_shelf x0_rowSort x0_rowSize x0_moved x0_shown x0_tape x0_tapeSize x0_refused x0_lines x0_changes x0_coins x0_goods x0_works x0_years x0_gone x0_spent x0_at x0_token x0_from x0_figures x0_fault x0_numbers x0_statements x0_left x0_far x0_tons x0_way x0_steps x0_met x0_queue x0_totals, gridI d r0_line 20 7 x0_line, gridI d r0_good 8 3 x0_good, gridI d r0_work 7 5 x0_work] 0 0 4 [(0, .ref (h0 0)), (1, .int z2), (2, .int z3)] [] := by
    intro k
    induction k with
    | zero => intro z2 z3 h; cases h
    | succ k ih1 =>
      intro z2 z3 h
      obtain ⟨k2, rr1, hk2, hs1, hr1⟩ := lp_ok h
      cases hk2
      have hs1 : fX7_never_s4 x0_works x0_work z2 z3 = some rr1 := hs1
      unfold fX7_never_s4 at hs1
      refine J_iload_n hK qd4_58.2.2.2.2.1 rfl 2 rfl rfl ?_
      refine J_aload_n hK qd4_58.2.2.2.2.2.1 rfl 0 rfl rfl ?_
      refine J_get hK fo_RX7_85 qd4_58.2.2.2.2.2.2.1 rfl 0 0 rfl rfl rfl ?_
      refine J_icmp_ge (tg := 40) hK qd4_58.2.2.2.2.2.2.2.1 rfl rfl (fun hc9 => ?_) (fun hc9 => ?_)
      · have hs1 := ip hc9 hs1
        exact J_loc [0, 1] rfl (hx1_40 z2 (lpx hs1 hr1))
      · have hs1 := iq hc9 hs1
        refine J_iload_n hK qd4_58.2.2.2.2.2.2.2.2.1 rfl 1 rfl rfl ?_
        refine J_aload_n hK qd4_58.2.2.2.2.2.2.2.2.2.1 rfl 0 rfl rfl ?_
        refine J_get hK fo_RX7_51 qd4_58.2.2.2.2.2.2.2.2.2.2.1 rfl 0 0 rfl rfl rfl ?_
        refine J_iload_n hK qd4_58.2.2.2.2.2.2.2.2.2.2.2.1 rfl 2 rfl rfl ?_
        obtain ⟨q77, eq77, hs1⟩ := bs hs1
        refine J_aald hK qd4_58.2.2.2.2.2.2.2.2.2.2.2.2.1 rfl 0 13 rfl rfl rfl eq77 ?_
        refine J_iconst (v := 4) hK qd4_58.2.2.2.2.2.2.2.2.2.2.2.2.2.1 rfl (by decide) ?_
        obtain ⟨v78, ev78, hs1⟩ := bs hs1
        refine J_iald hK qd4_58.2.2.2.2.2.2.2.2.2.2.2.2.2.2.1 rfl 3 q77 rfl (gridI_at (ck_ok eq77).2.2) ev78 ?_
        refine J_iconst (v := 1) hK qd4_58.2.2.2.2.2.2.2.2.2.2.2.2.2.2.2.1 rfl (by decide) ?_
        refine J_icmp_ne (tg := 31) hK qd4_59.1 rfl rfl (fun hc22 => ?_) (fun hc22 => ?_)
        · have hs1 := iq hc22 hs1
          refine J_iconst (v := 0) hK qd4_59.2.2.2.2.2.1 rfl (by decide) ?_
          refine J_ior hK qd4_59.2.2.2.2.2.2.1 rfl ?_
          refine J_istore_n (L' := [(1, .int (z2 ||| 0)), (0, .ref (h0 0)), (2, .int z3)]) hK qd4_59.2.2.2.2.2.2.2.1 rfl rfl (by decide) rfl ?_
          refine J_iinc (L' := [(2, .int (z3 + 1)), (1, .int (z2 ||| 0)), (0, .ref (h0 0))]) (v := (z3 + 1)) hK qd4_59.2.2.2.2.2.2.2.2.1 rfl 2 rfl rfl (by decide) rfl ?_
          refine J_goto hK qd4_59.2.2.2.2.2.2.2.2.2.1 (n := 4) rfl ?_
          exact J_loc [2, 1, 0] rfl (ih1 (z2 ||| 0) (z3 + 1) (lpc hs1 hr1))
        · have hs1 := ip hc22 hs1
          refine J_iconst (v := 1) hK qd4_59.2.1 rfl (by decide) ?_
          refine J_iload_n hK qd4_59.2.2.1 rfl 2 rfl rfl ?_
          refine J_ishl hK qd4_59.2.2.2.1 rfl ?_
          refine J_goto hK qd4_59.2.2.2.2.1 (n := 32) rfl ?_
          refine J_ior hK qd4_59.2.2.2.2.2.2.1 rfl ?_
          obtain ⟨t79, et79, hs1⟩ := bs hs1
          refine J_nmi et79 ?_
          refine J_istore_n (L' := [(1, .int t79), (0, .ref (h0 0)), (2, .int z3)]) hK qd4_59.2.2.2.2.2.2.2.1 rfl rfl (by decide) rfl ?_
          refine J_iinc (L' := [(2, .int (z3 + 1)), (1, .int t79), (0, .ref (h0 0))]) (v := (z3 + 1)) hK qd4_59.2.2.2.2.2.2.2.2.1 rfl 2 rfl rfl (by decide) rfl ?_
          refine J_goto hK qd4_59.2.2.2.2.2.2.2.2.2.1 (n := 4) rfl ?_
          exact J_loc [2, 1, 0] rfl (ih1 t79 (z3 + 1) (lpc hs1 hr1))
  exact J_loc [2, 1, 0] rfl (lo1 n (0) (0) hl1)
end
section

set_option maxHeartbeats 4000000 in
set_option maxRecDepth 100000 in
theorem kX7_oneWidthNt (l : Launch) (d : DT) (h0 : Nat → Nat) (r0_rows : Nat → Nat) (r0_line : Nat → Nat) (r0_good : Nat → Nat) (r0_work : Nat → Nat) (a0_kept : Option Nat) (a0_chosen : Option Nat) (n : Nat) (x0_shelf : (Nat → Int32)) (x0_rowSort : (Nat → Int32)) (x0_rowSize : (Nat → Int32)) (x0_rows : (Nat → Nat → Int64)) (x0_moved : (Nat → Int64)) (x0_shown : (Nat → Int32)) (x0_tape : (Nat → Int32)) (x0_tapeSize : Int32) (x0_refused : (Nat → Int32)) (x0_lines : Int32) (x0_line : (Nat → Nat → Int32)) (x0_changes : (Nat → Int32)) (x0_coins : (Nat → Int32)) (x0_goods : Int32) (x0_good : (Nat → Nat → Int32)) (x0_works : Int32) (x0_work : (Nat → Nat → Int32)) (x0_years : Int32) (x0_gone : Int32) (x0_spent : Int32) (x0_at : Int32) (x0_token : Int32) (x0_from : Int32) (x0_figures : Int64) (x0_fault : Int32) (x0_numbers : (Nat → Int32)) (x0_statements : Int32) (x0_left : (Nat → Int32)) (x0_far : (Nat → Int32)) (x0_tons : Int32) (x0_way : (Nat → Int32)) (x0_steps : Int32) (x0_met : Int64) (x0_queue : (Nat → Int32)) (x0_totals : (Nat → Int32)) (p1 : Int32) (p2 : Int32)  {out : Int32 × (Int32 × (Nat → Nat → Int32) × (Nat → Int32) × (Nat → Int32) × Int32 × (Nat → Nat → Int32) × Int32 × (Nat → Nat → Int32) × Int32 × Int32 × Int32 × (Nat → Int32) × (Nat → Int32) × Int32)} (hf : fX7_oneWidth n (x0_shelf, x0_rowSort, x0_rowSize, x0_rows, x0_moved, x0_shown, x0_tape, x0_tapeSize, x0_refused, x0_lines, x0_line, x0_changes, x0_coins, x0_goods, x0_good, x0_works, x0_work, x0_years, x0_gone, x0_spent, x0_at, x0_token, x0_from, x0_figures, x0_fault, x0_numbers, x0_statements, x0_left, x0_far, x0_tons, x0_way, x0_steps, x0_met, x0_queue, x0_totals) ((fun _ => 0), (fun _ => 0), (fun _ => 0), (fun _ _ => 0), (fun _ => 0), (fun _ => 0), (fun _ => 0), 0, (fun _ => 0), 0, (fun _ _ => 0), (fillV 12 9 (fun _ => 0)), (va_up (va_up (va_up (fun _ => 0) 0 1) 1 1) 2 1), 0, (fun _ _ => 0), 0, (fun _ _ => 0), 10, 0, 0, 0, 0, 0, 0, 0, (fun _ => 0), 0, (fun _ => 0), (fun _ => 0), 0, (fun _ => 0), 0, 0, (fun _ => 0), (fun _ => 0)) p1 p2 = some out) : Ct l d yX7_oneWidth cX7_oneWidth 6 (some .int) { frames := 4, cells := 63, slots := 1204, locals := 85 } [.ref (h0 0), .int p1, .int p2] [gMd d h0 a0_kept none a0_chosen r0_rows r0_line r0_good r0_work x0_shelf x0_rowSort x0_rowSize x0_moved x0_shown x0_tape x0_tapeSize x0_refused x0_lines x0_changes x0_coins x0_goods x0_works x0_years x0_gone x0_spent x0_at x0_token x0_from x0_figures x0_fault x0_numbers x0_statements x0_left x0_far x0_tons x0_way x0_steps x0_met x0_queue x0_totals, gridI d r0_line 20 7 x0_line, gridI d r0_good 8 3 x0_good, gridI d r0_work 7 5 x0_work] (fun u : AdM => (some (.int out.1), [gMd d h0 a0_kept (some (u.1 0)) a0_chosen r0_rows r0_line r0_good r0_work x0_shelf x0_rowSort x0_rowSize x0_moved x0_shown x0_tape x0_tapeSize x0_refused x0_lines x0_changes x0_coins x0_goods x0_works x0_years x0_gone x0_spent x0_at x0_token x0_from x0_figures x0_fault x0_numbers x0_statements x0_left x0_far x0_tons x0_way x0_steps x0_met x0_queue x0_totals, gridI d r0_line 20 7 x0_line, gridI d r0_good 8 3 x0_good, gridI d r0_work 7 5 x0_work, gMd d u.1 none none none u.2.1 u.2.2.1 u.2.2.2.1 u.2.2.2.2 (fun _ => 0) (fun _ => 0) (fun _ => 0) (fun _ => 0) (fun _ => 0) (fun _ => 0) (0) (fun _ => 0) (out.2.1) (out.2.2.2.1) (out.2.2.2.2.1) (out.2.2.2.2.2.1) (out.2.2.2.2.2.2.2.1) (out.2.2.2.2.2.2.2.2.2.1) (out.2.2.2.2.2.2.2.2.2.2.1) (out.2.2.2.2.2.2.2.2.2.2.2.1) (0) (0) (0) (0) (0) (fun _ => 0) (0) (out.2.2.2.2.2.2.2.2.2.2.2.2.1) (out.2.2.2.2.2.2.2.2.2.2.2.2.2.1) (out.2.2.2.2.2.2.2.2.2.2.2.2.2.2) (fun _ => 0) (0) (0) (fun _ => 0) (fun _ => 0), gridJ d u.2.1 8 40 (fun _ _ => 0), gridI d u.2.2.1 20 7 (out.2.2.1), gridI d u.2.2.2.1 8 3 (out.2.2.2.2.2.2.1), gridI d u.2.2.2.2 7 5 (out.2.2.2.2.2.2.2.2.1)])) := by
  refine Ct.of (by decide) (Nat.le_of_ble_eq_true rfl) ?_
  intro Φ hl hK hR
  subst hl
  have hK : Ok d Φ RX7 "oneWidth" cX7_oneWidth 6 (some .int) { frames := 4, cells := 63, slots := 1204, locals := 85 } := hK
  unfold fX7_oneWidth at hf
  have hf := un35 hf
  have hf := un35 hf
  show J d Φ 6 [gMd d h0 a0_kept none a0_chosen r0_rows r0_line r0_good r0_work x0_shelf x0_rowSort x0_rowSize x0_moved x0_shown x0_tape x0_tapeSize x0_refused x0_lines x0_changes x0_coins x0_goods x0_works x0_years x0_gone x0_spent x0_at x0_token x0_from x0_figures x0_fault x0_numbers x0_statements x0_left x0_far x0_tons x0_way x0_steps x0_met x0_queue x0_totals, gridI d r0_line 20 7 x0_line, gridI d r0_good 8 3 x0_good, gridI d r0_work 7 5 x0_work] 0 0 0 [(0, .ref (h0 0)), (1, .int p1), (2, .int p2)] []
  refine J_aload_n hK qd4_67.1 rfl 0 rfl rfl ?_
  obtain ⟨⟨g2, g3, g4, g5, g6, g7, g8, g9, g10, g11, g12⟩, e13, hf⟩ := bs hf
  have hf := un11 hf
  refine J_callV (m := 4) (m' := 9) (ce' := 63) (sl' := 1204) (gr := []) (gs' := fun u1 => [gMd d h0 a0_kept (some (u1.1 0)) a0_chosen r0_rows r0_line r0_good r0_work x0_shelf x0_rowSort x0_rowSize x0_moved x0_shown x0_tape x0_tapeSize x0_refused x0_lines x0_changes x0_coins x0_goods x0_works x0_years x0_gone x0_spent x0_at x0_token x0_from x0_figures x0_fault x0_numbers x0_statements x0_left x0_far x0_tons x0_way x0_steps x0_met x0_queue x0_totals, gridI d r0_line 20 7 x0_line, gridI d r0_good 8 3 x0_good, gridI d r0_work 7 5 x0_work, gMd d u1.1 none none none u1.2.1 u1.2.2.1 u1.2.2.2.1 u1.2.2.2.2 (fun _ => 0) (fun _ => 0) (fun _ => 0) (fun _ => 0) (fun _ => 0) (fun _ => 0) (0) (fun _ => 0) g2 g4 g5 g6 g8 g10 g11 g12 (0) (0) (0) (0) (0) (fun _ => 0) (0) (fun _ => 0) (fun _ => 0) (0) (fun _ => 0) (0) (0) (fun _ => 0) (fun _ => 0), gridJ d u1.2.1 8 40 (fun _ _ => 0), gridI d u1.2.2.1 20 7 g3, gridI d u1.2.2.2.1 8 3 g7, gridI d u1.2.2.2.2 7 5 g9]) (st' := fun u1 => [.ref (u1.1 0)]) (st := []) hK qd4_67.2.1 cv_RX7_238 iv_yX7_fresh (As := []) (kX7_freshNt _ d h0 r0_rows r0_line r0_good r0_work a0_kept a0_chosen n x0_shelf x0_rowSort x0_rowSize x0_rows x0_moved x0_shown x0_tape x0_tapeSize x0_refused x0_lines x0_line x0_changes x0_coins x0_goods x0_good x0_works x0_work x0_years x0_gone x0_spent x0_at x0_token x0_from x0_figures x0_fault x0_numbers x0_statements x0_left x0_far x0_tons x0_way x0_steps x0_met x0_queue x0_totals e13) rfl rfl (Nat.le_of_ble_eq_true rfl) (by decide) 0 0 rfl rfl rfl [0, 1, 2, 3] [] rfl (by decide +kernel) rfl rfl [0, 1, 2, 3, 4, 5, 6, 7, 8] (by decide +kernel) (fun _ => rfl) (fun _ => rfl) rfl rfl rfl (fun _ => rfl) (fun u1 => ?_)
  refine J_astore_n (L' := [(3, .ref (u1.1 0)), (0, .ref (h0 0)), (1, .int p1), (2, .int p2)]) hK qd4_67.2.2.1 rfl rfl (by decide) rfl ?_
  refine J_iconst (v := 0) hK qd4_67.2.2.2.1 rfl (by decide) ?_
  refine J_istore (L' := [(4, .int (0)), (3, .ref (u1.1 0)), (0, .ref (h0 0)), (1, .int p1), (2, .int p2)]) hK qd4_67.2.2.2.2.1 rfl (by decide) rfl ?_
  refine J_iconst (v := 0) hK qd4_67.2.2.2.2.2.1 rfl (by decide) ?_
  refine J_istore (L' := [(5, .int (0)), (4, .int (0)), (3, .ref (u1.1 0)), (0, .ref (h0 0)), (1, .int p1), (2, .int p2)]) hK qd4_67.2.2.2.2.2.2.1 rfl (by decide) rfl ?_
  obtain ⟨e18, hl14, hf⟩ := bs hf
  have hx14_87 : ∀ (w19 : Int32) (w20 : (Nat → Nat → Int32)), (w19, w20) = e18 → J d Φ 6 [gMd d h0 a0_kept (some (u1.1 0)) a0_chosen r0_rows r0_line r0_good r0_work x0_shelf x0_rowSort x0_rowSize x0_moved x0_shown x0_tape x0_tapeSize x0_refused x0_lines x0_changes x0_coins x0_goods x0_works x0_years x0_gone x0_spent x0_at x0_token x0_from x0_figures x0_fault x0_numbers x0_statements x0_left x0_far x0_tons x0_way x0_steps x0_met x0_queue x0_totals, gridI d r0_line 20 7 x0_line, gridI d r0_good 8 3 x0_good, gridI d r0_work 7 5 x0_work, gMd d u1.1 none none none u1.2.1 u1.2.2.1 u1.2.2.2.1 u1.2.2.2.2 (fun _ => 0) (fun _ => 0) (fun _ => 0) (fun _ => 0) (fun _ => 0) (fun _ => 0) (0) (fun _ => 0) g2 g4 g5 g6 g8 g10 g11 g12 (0) (0) (0) (0) (0) (fun _ => 0) (0) (fun _ => 0) (fun _ => 0) (0) (fun _ => 0) (0) (0) (fun _ => 0) (fun _ => 0), gridJ d u1.2.1 8 40 (fun _ _ => 0), gridI d u1.2.2.1 20 7 w20, gridI d u1.2.2.2.1 8 3 g7, gridI d u1.2.2.2.2 7 5 g9] 63 1204 87 [(0, .ref (h0 0)), (3, .ref (u1.1 0)), (4, .int w19)] [] := by
    intro w19 w20 he
    rw [← he] at hf
    have hf := un2 hf
    refine J_iload hK qd4_70.2.2.2.2.2.1 rfl 2 rfl ?_
    refine J_aload_n hK qd4_70.2.2.2.2.2.2.1 rfl 0 rfl rfl ?_
    refine J_get hK fo_RX7_54 qd4_70.2.2.2.2.2.2.2.1 rfl 0 0 rfl rfl rfl ?_
    refine J_aload_n hK qd4_70.2.2.2.2.2.2.2.2.1 rfl 1 rfl rfl ?_
    obtain ⟨⟨v21, g22, g23, g24⟩, e25, hf⟩ := bs hf
    have hf := un4 hf
    refine J_callV (m := 9) (m' := 9) (ce' := 63) (sl' := 1204) (gr := [gMd d h0 a0_kept (some (u1.1 0)) a0_chosen r0_rows r0_line r0_good r0_work x0_shelf x0_rowSort x0_rowSize x0_moved x0_shown x0_tape x0_tapeSize x0_refused x0_lines x0_changes x0_coins x0_goods x0_works x0_years x0_gone x0_spent x0_at x0_token x0_from x0_figures x0_fault x0_numbers x0_statements x0_left x0_far x0_tons x0_way x0_steps x0_met x0_queue x0_totals, gridI d r0_line 20 7 x0_line, gridI d r0_good 8 3 x0_good, gridI d r0_work 7 5 x0_work, gridJ d u1.2.1 8 40 (fun _ _ => 0), gridI d u1.2.2.2.2 7 5 g9]) (gs' := fun _ => [gMd d h0 a0_kept (some (u1.1 0)) a0_chosen r0_rows r0_line r0_good r0_work x0_shelf x0_rowSort x0_rowSize x0_moved x0_shown x0_tape x0_tapeSize x0_refused x0_lines x0_changes x0_coins x0_goods x0_works x0_years x0_gone x0_spent x0_at x0_token x0_from x0_figures x0_fault x0_numbers x0_statements x0_left x0_far x0_tons x0_way x0_steps x0_met x0_queue x0_totals, gridI d r0_line 20 7 x0_line, gridI d r0_good 8 3 x0_good, gridI d r0_work 7 5 x0_work, gMd d u1.1 none none none u1.2.1 u1.2.2.1 u1.2.2.2.1 u1.2.2.2.2 (fun _ => 0) (fun _ => 0) (fun _ => 0) (fun _ => 0) (fun _ => 0) (fun _ => 0) (0) (fun _ => 0) g2 g4 g5 g6 g8 g10 g11 g12 (0) (0) (0) (0) (0) (fun _ => 0) (0) g22 g23 g24 (fun _ => 0) (0) (0) (fun _ => 0) (fun _ => 0), gridJ d u1.2.1 8 40 (fun _ _ => 0), gridI d u1.2.2.1 20 7 w20, gridI d u1.2.2.2.1 8 3 g7, gridI d u1.2.2.2.2 7 5 g9]) (st' := fun _ => [.int v21, .int x0_years, .int w19]) (st := [.int x0_years, .int w19]) hK qd4_70.2.2.2.2.2.2.2.2.2.1 cv_RX7_288 iv_yX7_free (As := []) (kX7_free _ d u1.1 u1.2.1 u1.2.2.1 u1.2.2.2.1 u1.2.2.2.2 none none none n (fun _ => 0) (fun _ => 0) (fun _ => 0) (fun _ _ => 0) (fun _ => 0) (fun _ => 0) (fun _ => 0) (0) (fun _ => 0) g2 w20 g4 g5 g6 g7 g8 g9 g10 g11 g12 (0) (0) (0) (0) (0) (fun _ => 0) (0) (fun _ => 0) (fun _ => 0) (0) (fun _ => 0) (0) (0) (fun _ => 0) (fun _ => 0) e25) rfl rfl (Nat.le_of_ble_eq_true rfl) (by decide) 4 0 rfl rfl rfl [4, 6, 7] [0, 1, 2, 3, 5, 8] rfl (by decide +kernel) rfl rfl [0, 1, 2, 3, 6, 4, 7, 8, 5] (by decide +kernel) (fun _ => rfl) (fun _ => rfl) rfl rfl rfl (fun _ => rfl) (fun _ => ?_)
    refine J_imul hK qd4_70.2.2.2.2.2.2.2.2.2.2.1 rfl ?_
    refine J_iadd hK qd4_70.2.2.2.2.2.2.2.2.2.2.2.1 rfl ?_
    obtain rfl := Option.some.inj hf
    exact J_iret hK hR qd4_70.2.2.2.2.2.2.2.2.2.2.2.2.1 u1 rfl (by decide) (by decide)
  have lo14 : ∀ (k : Nat) (z15 : Int32) (z16 : Int32) (z17 : (Nat → Nat → Int32)), lp (u3 (fX7_oneWidth_s11 p1 p2 x0_lines)) k (z15, z16, z17) = some e18 → J d Φ 6 [gMd d h0 a0_kept (some (u1.1 0)) a0_chosen r0_rows r0_line r0_good r0_work x0_shelf x0_rowSort x0_rowSize x0_moved x0_shown x0_tape x0_tapeSize x0_refused x0_lines x0_changes x0_coins x0_goods x0_works x0_years x0_gone x0_spent x0_at x0_token x0_from x0_figures x0_fault x0_numbers x0_statements x0_left x0_far x0_tons x0_way x0_steps x0_met x0_queue x0_totals, gridI d r0_line 20 7 x0_line, gridI d r0_good 8 3 x0_good, gridI d r0_work 7 5 x0_work, gMd d u1.1 none none none u1.2.1 u1.2.2.1 u1.2.2.2.1 u1.2.2.2.2 (fun _ => 0) (fun _ => 0) (fun _ => 0) (fun _ => 0) (fun _ => 0) (fun _ => 0) (0) (fun _ => 0) g2 g4 g5 g6 g8 g10 g11 g12 (0) (0) (0) (0) (0) (fun _ => 0) (0) (fun _ => 0) (fun _ => 0) (0) (fun _ => 0) (0) (0) (fun _ => 0) (fun _ => 0), gridJ d u1.2.1 8 40 (fun _ _ => 0), gridI d u1.2.2.1 20 7 z17, gridI d u1.2.2.2.1 8 3 g7, gridI d u1.2.2.2.2 7 5 g9] 63 1204 11 [(0, .ref (h0 0)), (1, .int p1), (2, .int p2), (3, .ref (u1.1 0)), (4, .int z15), (5, .int z16)] [] := by
    intro k
    induction k with
    | zero => intro z15 z16 z17 h; cases h
    | succ k ih14 =>
      intro z15 z16 z17 h
      obtain ⟨k2, rr14, hk2, hs14, hr14⟩ := lp_ok h
      cases hk2
      have hs14 : fX7_oneWidth_s11 p1 p2 x0_lines z15 z16 z17 = some rr14 := hs14
      unfold fX7_oneWidth_s11 at hs14
      refine J_iload hK qd4_67.2.2.2.2.2.2.2.1 rfl 5 rfl ?_
      refine J_aload_n hK qd4_67.2.2.2.2.2.2.2.2.1 rfl 0 rfl rfl ?_
      refine J_get hK fo_RX7_82 qd4_67.2.2.2.2.2.2.2.2.2.1 rfl 0 0 rfl rfl rfl ?_
      refine J_icmp_ge (tg := 87) hK qd4_67.2.2.2.2.2.2.2.2.2.2.1 rfl rfl (fun hc17 => ?_) (fun hc17 => ?_)
      · have hs14 := ip hc17 hs14
        exact J_loc [0, 3, 4] rfl (hx14_87 z15 z17 (lpx hs14 hr14))
      · have hs14 := iq hc17 hs14
        refine J_aload_n hK qd4_67.2.2.2.2.2.2.2.2.2.2.2.1 rfl 3 rfl rfl ?_
        refine J_get hK fo_RX7_39 qd4_67.2.2.2.2.2.2.2.2.2.2.2.2.1 rfl 4 0 rfl rfl rfl ?_
        refine J_iload hK qd4_67.2.2.2.2.2.2.2.2.2.2.2.2.2.1 rfl 5 rfl ?_
        obtain ⟨q26, eq26, hs14⟩ := bs hs14
        refine J_aald hK qd4_67.2.2.2.2.2.2.2.2.2.2.2.2.2.2.1 rfl 4 9 rfl rfl rfl eq26 ?_
        refine J_bipush (v := 6) hK qd4_67.2.2.2.2.2.2.2.2.2.2.2.2.2.2.2.1 rfl (by decide) ?_
        obtain ⟨v27, ev27, hs14⟩ := bs hs14
        refine J_iald hK qd4_68.1 rfl 6 q26 rfl (gridI_at (ck_ok eq26).2.2) ev27 ?_
        refine J_if_ne (tg := 81) hK qd4_68.2.1 rfl rfl (fun hc30 => ?_) (fun hc30 => ?_)
        · have hs14 := iq hc30 hs14
          refine J_iinc (L' := [(5, .int (z16 + 1)), (0, .ref (h0 0)), (1, .int p1), (2, .int p2), (3, .ref (u1.1 0)), (4, .int z15)]) (v := (z16 + 1)) hK qd4_70.2.2.2.1 rfl 5 rfl rfl (by decide) rfl ?_
          refine J_goto hK qd4_70.2.2.2.2.1 (n := 11) rfl ?_
          exact J_loc [1, 2, 3, 4, 5, 0] rfl (ih14 z15 (z16 + 1) z17 (lpc hs14 hr14))
        · have hs14 := ip hc30 hs14
          refine J_iload hK qd4_68.2.2.1 rfl 4 rfl ?_
          refine J_aload_n hK qd4_68.2.2.2.1 rfl 3 rfl rfl ?_
          refine J_get hK fo_RX7_39 qd4_68.2.2.2.2.1 rfl 4 0 rfl rfl rfl ?_
          refine J_iload hK qd4_68.2.2.2.2.2.1 rfl 5 rfl ?_
          obtain ⟨q28, eq28, hs14⟩ := bs hs14
          refine J_aald hK qd4_68.2.2.2.2.2.2.1 rfl 4 9 rfl rfl rfl eq28 ?_
          refine J_iconst (v := 2) hK qd4_68.2.2.2.2.2.2.2.1 rfl (by decide) ?_
          obtain ⟨v29, ev29, hs14⟩ := bs hs14
          refine J_iald hK qd4_68.2.2.2.2.2.2.2.2.1 rfl 6 q28 rfl (gridI_at (ck_ok eq28).2.2) ev29 ?_
          refine J_iload_n hK qd4_68.2.2.2.2.2.2.2.2.2.1 rfl 1 rfl rfl ?_
          refine J_ishr hK qd4_68.2.2.2.2.2.2.2.2.2.2.1 rfl ?_
          refine J_iconst (v := 1) hK qd4_68.2.2.2.2.2.2.2.2.2.2.2.1 rfl (by decide) ?_
          refine J_iand hK qd4_68.2.2.2.2.2.2.2.2.2.2.2.2.1 rfl ?_
          have j66 : ∀ (y30 : Int32), fX7_oneWidth_j66 p1 z15 z16 z17 y30 = some rr14 → J d Φ 6 [gMd d h0 a0_kept (some (u1.1 0)) a0_chosen r0_rows r0_line r0_good r0_work x0_shelf x0_rowSort x0_rowSize x0_moved x0_shown x0_tape x0_tapeSize x0_refused x0_lines x0_changes x0_coins x0_goods x0_works x0_years x0_gone x0_spent x0_at x0_token x0_from x0_figures x0_fault x0_numbers x0_statements x0_left x0_far x0_tons x0_way x0_steps x0_met x0_queue x0_totals, gridI d r0_line 20 7 x0_line, gridI d r0_good 8 3 x0_good, gridI d r0_work 7 5 x0_work, gMd d u1.1 none none none u1.2.1 u1.2.2.1 u1.2.2.2.1 u1.2.2.2.2 (fun _ => 0) (fun _ => 0) (fun _ => 0) (fun _ => 0) (fun _ => 0) (fun _ => 0) (0) (fun _ => 0) g2 g4 g5 g6 g8 g10 g11 g12 (0) (0) (0) (0) (0) (fun _ => 0) (0) (fun _ => 0) (fun _ => 0) (0) (fun _ => 0) (0) (0) (fun _ => 0) (fun _ => 0), gridJ d u1.2.1 8 40 (fun _ _ => 0), gridI d u1.2.2.1 20 7 z17, gridI d u1.2.2.2.1 8 3 g7, gridI d u1.2.2.2.2 7 5 g9] 63 1204 66 [(0, .ref (h0 0)), (1, .int p1), (2, .int p2), (3, .ref (u1.1 0)), (5, .int z16)] [.int y30, .int z15] := by
            intro y30 hs14
            unfold fX7_oneWidth_j66 at hs14
            refine J_iadd hK qd4_69.2.2.2.2.2.2.2.2.1 rfl ?_
            refine J_istore (L' := [(4, .int (z15 + y30)), (0, .ref (h0 0)), (1, .int p1), (2, .int p2), (3, .ref (u1.1 0)), (5, .int z16)]) hK qd4_69.2.2.2.2.2.2.2.2.2.1 rfl (by decide) rfl ?_
            refine J_aload_n hK qd4_69.2.2.2.2.2.2.2.2.2.2.1 rfl 4 rfl rfl ?_
            refine J_get hK fo_RX7_39 qd4_69.2.2.2.2.2.2.2.2.2.2.2.1 rfl 4 0 rfl rfl rfl ?_
            refine J_iload hK qd4_69.2.2.2.2.2.2.2.2.2.2.2.2.1 rfl 5 rfl ?_
            obtain ⟨q31, eq31, hs14⟩ := bs hs14
            refine J_aald hK qd4_69.2.2.2.2.2.2.2.2.2.2.2.2.2.1 rfl 4 9 rfl rfl rfl eq31 ?_
            refine J_iconst (v := 2) hK qd4_69.2.2.2.2.2.2.2.2.2.2.2.2.2.2.1 rfl (by decide) ?_
            refine J_iconst (v := 1) hK qd4_69.2.2.2.2.2.2.2.2.2.2.2.2.2.2.2.1 rfl (by decide) ?_
            refine J_iload_n hK qd4_70.1 rfl 2 rfl rfl ?_
            refine J_ishl hK qd4_70.2.1 rfl ?_
            obtain ⟨t32, et32, hs14⟩ := bs hs14
            refine J_nmi et32 ?_
            obtain ⟨f33, ef33, hs14⟩ := bs hs14
            refine J_iast (g' := gridI d u1.2.2.1 20 7 (va_up z17 q31 f33)) (gs' := [gMd d h0 a0_kept (some (u1.1 0)) a0_chosen r0_rows r0_line r0_good r0_work x0_shelf x0_rowSort x0_rowSize x0_moved x0_shown x0_tape x0_tapeSize x0_refused x0_lines x0_changes x0_coins x0_goods x0_works x0_years x0_gone x0_spent x0_at x0_token x0_from x0_figures x0_fault x0_numbers x0_statements x0_left x0_far x0_tons x0_way x0_steps x0_met x0_queue x0_totals, gridI d r0_line 20 7 x0_line, gridI d r0_good 8 3 x0_good, gridI d r0_work 7 5 x0_work, gMd d u1.1 none none none u1.2.1 u1.2.2.1 u1.2.2.2.1 u1.2.2.2.2 (fun _ => 0) (fun _ => 0) (fun _ => 0) (fun _ => 0) (fun _ => 0) (fun _ => 0) (0) (fun _ => 0) g2 g4 g5 g6 g8 g10 g11 g12 (0) (0) (0) (0) (0) (fun _ => 0) (0) (fun _ => 0) (fun _ => 0) (0) (fun _ => 0) (0) (0) (fun _ => 0) (fun _ => 0), gridJ d u1.2.1 8 40 (fun _ _ => 0), gridI d u1.2.2.1 20 7 (va_up z17 q31 f33), gridI d u1.2.2.2.1 8 3 g7, gridI d u1.2.2.2.2 7 5 g9]) hK qd4_70.2.2.1 rfl 6 q31 rfl (gridI_at (ck_ok eq31).2.2) ef33 gridI_set rfl ?_
            refine J_iinc (L' := [(5, .int (z16 + 1)), (4, .int (z15 + y30)), (0, .ref (h0 0)), (1, .int p1), (2, .int p2), (3, .ref (u1.1 0))]) (v := (z16 + 1)) hK qd4_70.2.2.2.1 rfl 5 rfl rfl (by decide) rfl ?_
            refine J_goto hK qd4_70.2.2.2.2.1 (n := 11) rfl ?_
            exact J_loc [2, 3, 4, 5, 1, 0] rfl (ih14 (z15 + y30) (z16 + 1) (va_up z17 q31 f33) (lpc hs14 hr14))
          refine J_if_ne (tg := 65) hK qd4_68.2.2.2.2.2.2.2.2.2.2.2.2.2.1 rfl rfl (fun hc48 => ?_) (fun hc48 => ?_)
          · have hs14 := iq hc48 hs14
            refine J_iconst (v := 0) hK qd4_69.2.2.2.2.2.2.2.1 rfl (by decide) ?_
            exact J_loc [0, 1, 2, 3, 5] rfl (j66 (0) hs14)
          · have hs14 := ip hc48 hs14
            refine J_iload_n hK qd4_68.2.2.2.2.2.2.2.2.2.2.2.2.2.2.1 rfl 2 rfl rfl ?_
            refine J_aload_n hK qd4_68.2.2.2.2.2.2.2.2.2.2.2.2.2.2.2.1 rfl 3 rfl rfl ?_
            refine J_get hK fo_RX7_39 qd4_69.1 rfl 4 0 rfl rfl rfl ?_
            refine J_iload hK qd4_69.2.1 rfl 5 rfl ?_
            obtain ⟨q34, eq34, hs14⟩ := bs hs14
            refine J_aald hK qd4_69.2.2.1 rfl 4 9 rfl rfl rfl eq34 ?_
            refine J_iconst (v := 3) hK qd4_69.2.2.2.1 rfl (by decide) ?_
            obtain ⟨v35, ev35, hs14⟩ := bs hs14
            refine J_iald hK qd4_69.2.2.2.2.1 rfl 6 q34 rfl (gridI_at (ck_ok eq34).2.2) ev35 ?_
            refine J_imul hK qd4_69.2.2.2.2.2.1 rfl ?_
            refine J_goto hK qd4_69.2.2.2.2.2.2.1 (n := 66) rfl ?_
            exact J_loc [0, 1, 2, 3, 5] rfl (j66 (p2 * v35) hs14)
  exact J_loc [3, 4, 5, 2, 1, 0] rfl (lo14 n (0) (0) g3 hl14)
end
section

set_option maxHeartbeats 4000000 in
set_option maxRecDepth 100000 in
theorem kX7_oneNt (l : Launch) (d : DT) (h0 : Nat → Nat) (r0_rows : Nat → Nat) (r0_line : Nat → Nat) (r0_good : Nat → Nat) (r0_work : Nat → Nat) (a0_kept : Option Nat) (a0_chosen : Option Nat) (n : Nat) (x0_shelf : (Nat → Int32)) (x0_rowSort : (Nat → Int32)) (x0_rowSize : (Nat → Int32)) (x0_rows : (Nat → Nat → Int64)) (x0_moved : (Nat → Int64)) (x0_shown : (Nat → Int32)) (x0_tape : (Nat → Int32)) (x0_tapeSize : Int32) (x0_refused : (Nat → Int32)) (x0_lines : Int32) (x0_line : (Nat → Nat → Int32)) (x0_changes : (Nat → Int32)) (x0_coins : (Nat → Int32)) (x0_goods : Int32) (x0_good : (Nat → Nat → Int32)) (x0_works : Int32) (x0_work : (Nat → Nat → Int32)) (x0_years : Int32) (x0_gone : Int32) (x0_spent : Int32) (x0_at : Int32) (x0_token : Int32) (x0_from : Int32) (x0_figures : Int64) (x0_fault : Int32) (x0_numbers : (Nat → Int32)) (x0_statements : Int32) (x0_left : (Nat → Int32)) (x0_far : (Nat → Int32)) (x0_tons : Int32) (x0_way : (Nat → Int32)) (x0_steps : Int32) (x0_met : Int64) (x0_queue : (Nat → Int32)) (x0_totals : (Nat → Int32)) (p1 : Int32) (p2 : Int32)  {out : Int32 × (Nat → Int32) × (Int32 × (Nat → Nat → Int32) × (Nat → Int32) × (Nat → Int32) × Int32 × (Nat → Nat → Int32) × Int32 × (Nat → Nat → Int32) × Int32 × Int32 × Int32 × (Nat → Int32) × (Nat → Int32) × Int32)} (hf : fX7_one n (x0_shelf, x0_rowSort, x0_rowSize, x0_rows, x0_moved, x0_shown, x0_tape, x0_tapeSize, x0_refused, x0_lines, x0_line, x0_changes, x0_coins, x0_goods, x0_good, x0_works, x0_work, x0_years, x0_gone, x0_spent, x0_at, x0_token, x0_from, x0_figures, x0_fault, x0_numbers, x0_statements, x0_left, x0_far, x0_tons, x0_way, x0_steps, x0_met, x0_queue, x0_totals) ((fun _ => 0), (fun _ => 0), (fun _ => 0), (fun _ _ => 0), (fun _ => 0), (fun _ => 0), (fun _ => 0), 0, (fun _ => 0), 0, (fun _ _ => 0), (fillV 12 9 (fun _ => 0)), (va_up (va_up (va_up (fun _ => 0) 0 1) 1 1) 2 1), 0, (fun _ _ => 0), 0, (fun _ _ => 0), 10, 0, 0, 0, 0, 0, 0, 0, (fun _ => 0), 0, (fun _ => 0), (fun _ => 0), 0, (fun _ => 0), 0, 0, (fun _ => 0), (fun _ => 0)) p1 p2 = some out) : Ct l d yX7_one cX7_one 3 (some .int) { frames := 5, cells := 63, slots := 1204, locals := 110 } [.ref (h0 0), .int p1, .int p2] [gMd d h0 a0_kept none a0_chosen r0_rows r0_line r0_good r0_work x0_shelf x0_rowSort x0_rowSize x0_moved x0_shown x0_tape x0_tapeSize x0_refused x0_lines x0_changes x0_coins x0_goods x0_works x0_years x0_gone x0_spent x0_at x0_token x0_from x0_figures x0_fault x0_numbers x0_statements x0_left x0_far x0_tons x0_way x0_steps x0_met x0_queue x0_totals, gridI d r0_line 20 7 x0_line, gridI d r0_good 8 3 x0_good, gridI d r0_work 7 5 x0_work] (fun u : {q : Option AdM // q = none → ((fun _ => 0), (fun _ => 0), (fun _ => 0), (fun _ _ => 0), (fun _ => 0), (fun _ => 0), (fun _ => 0), 0, (fun _ => 0), out.2.2.1, out.2.2.2.1, out.2.2.2.2.1, out.2.2.2.2.2.1, out.2.2.2.2.2.2.1, out.2.2.2.2.2.2.2.1, out.2.2.2.2.2.2.2.2.1, out.2.2.2.2.2.2.2.2.2.1, out.2.2.2.2.2.2.2.2.2.2.1, out.2.2.2.2.2.2.2.2.2.2.2.1, out.2.2.2.2.2.2.2.2.2.2.2.2.1, 0, 0, 0, 0, 0, (fun _ => 0), 0, out.2.2.2.2.2.2.2.2.2.2.2.2.2.1, out.2.2.2.2.2.2.2.2.2.2.2.2.2.2.1, out.2.2.2.2.2.2.2.2.2.2.2.2.2.2.2, (fun _ => 0), 0, 0, (fun _ => 0), (fun _ => 0)) = M0} => (some (.int out.1), [gMd d h0 a0_kept (bs_ u.1) a0_chosen r0_rows r0_line r0_good r0_work x0_shelf x0_rowSort x0_rowSize x0_moved x0_shown x0_tape x0_tapeSize (out.2.1) x0_lines x0_changes x0_coins x0_goods x0_works x0_years x0_gone x0_spent x0_at x0_token x0_from x0_figures x0_fault x0_numbers x0_statements x0_left x0_far x0_tons x0_way x0_steps x0_met x0_queue x0_totals, gridI d r0_line 20 7 x0_line, gridI d r0_good 8 3 x0_good, gridI d r0_work 7 5 x0_work, oMd d (u.1) none none none (fun _ => 0) (fun _ => 0) (fun _ => 0) (fun _ _ => 0) (fun _ => 0) (fun _ => 0) (fun _ => 0) (0) (fun _ => 0) (out.2.2.1) (out.2.2.2.1) (out.2.2.2.2.1) (out.2.2.2.2.2.1) (out.2.2.2.2.2.2.1) (out.2.2.2.2.2.2.2.1) (out.2.2.2.2.2.2.2.2.1) (out.2.2.2.2.2.2.2.2.2.1) (out.2.2.2.2.2.2.2.2.2.2.1) (out.2.2.2.2.2.2.2.2.2.2.2.1) (out.2.2.2.2.2.2.2.2.2.2.2.2.1) (0) (0) (0) (0) (0) (fun _ => 0) (0) (out.2.2.2.2.2.2.2.2.2.2.2.2.2.1) (out.2.2.2.2.2.2.2.2.2.2.2.2.2.2.1) (out.2.2.2.2.2.2.2.2.2.2.2.2.2.2.2) (fun _ => 0) (0) (0) (fun _ => 0) (fun _ => 0)])) := by
  refine Ct.of (by decide) (Nat.le_of_ble_eq_true rfl) ?_
  intro Φ hl hK hR
  subst hl
  have hK : Ok d Φ RX7 "one" cX7_one 3 (some .int) { frames := 5, cells := 63, slots := 1204, locals := 110 } := hK
  unfold fX7_one at hf
  have hf := un35 hf
  have hf := un35 hf
  show J d Φ 3 [gMd d h0 a0_kept none a0_chosen r0_rows r0_line r0_good r0_work x0_shelf x0_rowSort x0_rowSize x0_moved x0_shown x0_tape x0_tapeSize x0_refused x0_lines x0_changes x0_coins x0_goods x0_works x0_years x0_gone x0_spent x0_at x0_token x0_from x0_figures x0_fault x0_numbers x0_statements x0_left x0_far x0_tons x0_way x0_steps x0_met x0_queue x0_totals, gridI d r0_line 20 7 x0_line, gridI d r0_good 8 3 x0_good, gridI d r0_work 7 5 x0_work] 0 0 0 [(0, .ref (h0 0)), (1, .int p1), (2, .int p2)] []
  refine J_iload_n hK qd4_71.1 rfl 1 rfl rfl ?_
  refine J_i2l hK qd4_71.2.1 rfl ?_
  refine J_lconst (v := 0) hK qd4_71.2.2.1 rfl (by decide) ?_
  refine J_ldc2 (v := (2 : Int64)) hK qd4_71.2.2.2.1 rfl wk_RX7_131 ?_
  obtain ⟨v1, e2, hf⟩ := bs hf
  refine J_callS (m := 4) (m' := 4) (ce' := 0) (sl' := 0) (gr := [gMd d h0 a0_kept none a0_chosen r0_rows r0_line r0_good r0_work x0_shelf x0_rowSort x0_rowSize x0_moved x0_shown x0_tape x0_tapeSize x0_refused x0_lines x0_changes x0_coins x0_goods x0_works x0_years x0_gone x0_spent x0_at x0_token x0_from x0_figures x0_fault x0_numbers x0_statements x0_left x0_far x0_tons x0_way x0_steps x0_met x0_queue x0_totals, gridI d r0_line 20 7 x0_line, gridI d r0_good 8 3 x0_good, gridI d r0_work 7 5 x0_work]) (gs' := fun _ => [gMd d h0 a0_kept none a0_chosen r0_rows r0_line r0_good r0_work x0_shelf x0_rowSort x0_rowSize x0_moved x0_shown x0_tape x0_tapeSize x0_refused x0_lines x0_changes x0_coins x0_goods x0_works x0_years x0_gone x0_spent x0_at x0_token x0_from x0_figures x0_fault x0_numbers x0_statements x0_left x0_far x0_tons x0_way x0_steps x0_met x0_queue x0_totals, gridI d r0_line 20 7 x0_line, gridI d r0_good 8 3 x0_good, gridI d r0_work 7 5 x0_work]) (st' := fun _ => [.int v1]) (st := []) hK qd4_71.2.2.2.2.1 cv_RX7_78 ws_yX7_in (As := [.long ((p1).toInt64), .long (0 : Int64), .long (2 : Int64)]) (kX7_in _ d ((p1).toInt64) (0 : Int64) (2 : Int64) e2) rfl rfl (Nat.le_of_ble_eq_true rfl) (by decide) [] [0, 1, 2, 3] rfl (by decide +kernel) rfl rfl [0, 1, 2, 3] (by decide +kernel) (fun _ => rfl) (fun _ => rfl) rfl rfl rfl (fun _ => rfl) (fun _ => ?_)
  refine J_if_eq (tg := 33) hK qd4_71.2.2.2.2.2.1 rfl rfl (fun hc9 => ?_) (fun hc9 => ?_)
  · have hf := ip hc9 hf
    refine J_aload_n hK qd4_72.2.1 rfl 0 rfl rfl ?_
    refine J_bipush (v := (-2)) hK qd4_72.2.2.1 rfl (by decide) ?_
    obtain ⟨⟨v3, g4⟩, e5, hf⟩ := bs hf
    have hf := un2 hf
    refine J_callV (m := 4) (m' := 4) (ce' := 0) (sl' := 0) (gr := [gridI d r0_line 20 7 x0_line, gridI d r0_good 8 3 x0_good, gridI d r0_work 7 5 x0_work]) (gs' := fun _ => [gMd d h0 a0_kept none a0_chosen r0_rows r0_line r0_good r0_work x0_shelf x0_rowSort x0_rowSize x0_moved x0_shown x0_tape x0_tapeSize g4 x0_lines x0_changes x0_coins x0_goods x0_works x0_years x0_gone x0_spent x0_at x0_token x0_from x0_figures x0_fault x0_numbers x0_statements x0_left x0_far x0_tons x0_way x0_steps x0_met x0_queue x0_totals, gridI d r0_line 20 7 x0_line, gridI d r0_good 8 3 x0_good, gridI d r0_work 7 5 x0_work]) (st' := fun _ => [.int v3]) (st := []) hK qd4_72.2.2.2.1 cv_RX7_94 iv_yX7_refuse (As := [.int (-2)]) (kX7_refuse _ d h0 r0_rows r0_line r0_good r0_work a0_kept none a0_chosen x0_shelf x0_rowSort x0_rowSize x0_rows x0_moved x0_shown x0_tape x0_tapeSize x0_refused x0_lines x0_line x0_changes x0_coins x0_goods x0_good x0_works x0_work x0_years x0_gone x0_spent x0_at x0_token x0_from x0_figures x0_fault x0_numbers x0_statements x0_left x0_far x0_tons x0_way x0_steps x0_met x0_queue x0_totals (-2) e5) rfl rfl (Nat.le_of_ble_eq_true rfl) (by decide) 0 0 rfl rfl rfl [0] [1, 2, 3] rfl (by decide +kernel) rfl rfl [3, 0, 1, 2] (by decide +kernel) (fun _ => rfl) (fun _ => rfl) rfl rfl rfl (fun _ => rfl) (fun _ => ?_)
    obtain rfl := Option.some.inj hf
    refine J_fl (gs2 := [gMd d h0 a0_kept none a0_chosen r0_rows r0_line r0_good r0_work x0_shelf x0_rowSort x0_rowSize x0_moved x0_shown x0_tape x0_tapeSize g4 x0_lines x0_changes x0_coins x0_goods x0_works x0_years x0_gone x0_spent x0_at x0_token x0_from x0_figures x0_fault x0_numbers x0_statements x0_left x0_far x0_tons x0_way x0_steps x0_met x0_queue x0_totals, gridI d r0_line 20 7 x0_line, gridI d r0_good 8 3 x0_good, gridI d r0_work 7 5 x0_work, oMd d none none none none (fun _ => 0) (fun _ => 0) (fun _ => 0) (fun _ _ => 0) (fun _ => 0) (fun _ => 0) (fun _ => 0) (0) (fun _ => 0) (0) (fun _ _ => 0) (fillV 12 9 (fun _ => 0)) (va_up (va_up (va_up (fun _ => 0) 0 1) 1 1) 2 1) (0) (fun _ _ => 0) (0) (fun _ _ => 0) (10) (0) (0) (0) (0) (0) (0) (0) (fun _ => 0) (0) (fun _ => 0) (fun _ => 0) (0) (fun _ => 0) (0) (0) (fun _ => 0) (fun _ => 0)]) rfl ?_
    exact J_iret hK hR qd4_72.2.2.2.2.1 ⟨none, fun _ => rfl⟩ rfl (by decide) (by decide)
  · have hf := iq hc9 hf
    refine J_iload_n hK qd4_71.2.2.2.2.2.2.1 rfl 2 rfl rfl ?_
    refine J_i2l hK qd4_71.2.2.2.2.2.2.2.1 rfl ?_
    refine J_lconst (v := 0) hK qd4_71.2.2.2.2.2.2.2.2.1 rfl (by decide) ?_
    refine J_ldc2 (v := (99 : Int64)) hK qd4_71.2.2.2.2.2.2.2.2.2.1 rfl wk_RX7_123 ?_
    obtain ⟨v6, e7, hf⟩ := bs hf
    refine J_callS (m := 4) (m' := 4) (ce' := 0) (sl' := 0) (gr := [gMd d h0 a0_kept none a0_chosen r0_rows r0_line r0_good r0_work x0_shelf x0_rowSort x0_rowSize x0_moved x0_shown x0_tape x0_tapeSize x0_refused x0_lines x0_changes x0_coins x0_goods x0_works x0_years x0_gone x0_spent x0_at x0_token x0_from x0_figures x0_fault x0_numbers x0_statements x0_left x0_far x0_tons x0_way x0_steps x0_met x0_queue x0_totals, gridI d r0_line 20 7 x0_line, gridI d r0_good 8 3 x0_good, gridI d r0_work 7 5 x0_work]) (gs' := fun _ => [gMd d h0 a0_kept none a0_chosen r0_rows r0_line r0_good r0_work x0_shelf x0_rowSort x0_rowSize x0_moved x0_shown x0_tape x0_tapeSize x0_refused x0_lines x0_changes x0_coins x0_goods x0_works x0_years x0_gone x0_spent x0_at x0_token x0_from x0_figures x0_fault x0_numbers x0_statements x0_left x0_far x0_tons x0_way x0_steps x0_met x0_queue x0_totals, gridI d r0_line 20 7 x0_line, gridI d r0_good 8 3 x0_good, gridI d r0_work 7 5 x0_work]) (st' := fun _ => [.int v6]) (st := []) hK qd4_71.2.2.2.2.2.2.2.2.2.2.1 cv_RX7_78 ws_yX7_in (As := [.long ((p2).toInt64), .long (0 : Int64), .long (99 : Int64)]) (kX7_in _ d ((p2).toInt64) (0 : Int64) (99 : Int64) e7) rfl rfl (Nat.le_of_ble_eq_true rfl) (by decide) [] [0, 1, 2, 3] rfl (by decide +kernel) rfl rfl [0, 1, 2, 3] (by decide +kernel) (fun _ => rfl) (fun _ => rfl) rfl rfl rfl (fun _ => rfl) (fun _ => ?_)
    refine J_if_eq (tg := 33) hK qd4_71.2.2.2.2.2.2.2.2.2.2.2.1 rfl rfl (fun hc21 => ?_) (fun hc21 => ?_)
    · have hf := ip hc21 hf
      refine J_aload_n hK qd4_72.2.1 rfl 0 rfl rfl ?_
      refine J_bipush (v := (-2)) hK qd4_72.2.2.1 rfl (by decide) ?_
      obtain ⟨⟨v8, g9⟩, e10, hf⟩ := bs hf
      have hf := un2 hf
      refine J_callV (m := 4) (m' := 4) (ce' := 0) (sl' := 0) (gr := [gridI d r0_line 20 7 x0_line, gridI d r0_good 8 3 x0_good, gridI d r0_work 7 5 x0_work]) (gs' := fun _ => [gMd d h0 a0_kept none a0_chosen r0_rows r0_line r0_good r0_work x0_shelf x0_rowSort x0_rowSize x0_moved x0_shown x0_tape x0_tapeSize g9 x0_lines x0_changes x0_coins x0_goods x0_works x0_years x0_gone x0_spent x0_at x0_token x0_from x0_figures x0_fault x0_numbers x0_statements x0_left x0_far x0_tons x0_way x0_steps x0_met x0_queue x0_totals, gridI d r0_line 20 7 x0_line, gridI d r0_good 8 3 x0_good, gridI d r0_work 7 5 x0_work]) (st' := fun _ => [.int v8]) (st := []) hK qd4_72.2.2.2.1 cv_RX7_94 iv_yX7_refuse (As := [.int (-2)]) (kX7_refuse _ d h0 r0_rows r0_line r0_good r0_work a0_kept none a0_chosen x0_shelf x0_rowSort x0_rowSize x0_rows x0_moved x0_shown x0_tape x0_tapeSize x0_refused x0_lines x0_line x0_changes x0_coins x0_goods x0_good x0_works x0_work x0_years x0_gone x0_spent x0_at x0_token x0_from x0_figures x0_fault x0_numbers x0_statements x0_left x0_far x0_tons x0_way x0_steps x0_met x0_queue x0_totals (-2) e10) rfl rfl (Nat.le_of_ble_eq_true rfl) (by decide) 0 0 rfl rfl rfl [0] [1, 2, 3] rfl (by decide +kernel) rfl rfl [3, 0, 1, 2] (by decide +kernel) (fun _ => rfl) (fun _ => rfl) rfl rfl rfl (fun _ => rfl) (fun _ => ?_)
      obtain rfl := Option.some.inj hf
      refine J_fl (gs2 := [gMd d h0 a0_kept none a0_chosen r0_rows r0_line r0_good r0_work x0_shelf x0_rowSort x0_rowSize x0_moved x0_shown x0_tape x0_tapeSize g9 x0_lines x0_changes x0_coins x0_goods x0_works x0_years x0_gone x0_spent x0_at x0_token x0_from x0_figures x0_fault x0_numbers x0_statements x0_left x0_far x0_tons x0_way x0_steps x0_met x0_queue x0_totals, gridI d r0_line 20 7 x0_line, gridI d r0_good 8 3 x0_good, gridI d r0_work 7 5 x0_work, oMd d none none none none (fun _ => 0) (fun _ => 0) (fun _ => 0) (fun _ _ => 0) (fun _ => 0) (fun _ => 0) (fun _ => 0) (0) (fun _ => 0) (0) (fun _ _ => 0) (fillV 12 9 (fun _ => 0)) (va_up (va_up (va_up (fun _ => 0) 0 1) 1 1) 2 1) (0) (fun _ _ => 0) (0) (fun _ _ => 0) (10) (0) (0) (0) (0) (0) (0) (0) (fun _ => 0) (0) (fun _ => 0) (fun _ => 0) (0) (fun _ => 0) (0) (0) (fun _ => 0) (fun _ => 0)]) rfl ?_
      exact J_iret hK hR qd4_72.2.2.2.2.1 ⟨none, fun _ => rfl⟩ rfl (by decide) (by decide)
    · have hf := iq hc21 hf
      refine J_aload_n hK qd4_71.2.2.2.2.2.2.2.2.2.2.2.2.1 rfl 0 rfl rfl ?_
      refine J_iload_n hK qd4_71.2.2.2.2.2.2.2.2.2.2.2.2.2.1 rfl 1 rfl rfl ?_
      refine J_iload_n hK qd4_71.2.2.2.2.2.2.2.2.2.2.2.2.2.2.1 rfl 2 rfl rfl ?_
      obtain ⟨⟨v11, ⟨g13, g14, g15, g16, g17, g18, g19, g20, g21, g22, g23, g24, g25, g26⟩⟩, e27, hf⟩ := bs hf
      have hf := un2 hf
      have hf := un14 hf
      refine J_callV (m := 4) (m' := 9) (ce' := 63) (sl' := 1204) (gr := []) (gs' := fun u1 => [gMd d h0 a0_kept (some (u1.1 0)) a0_chosen r0_rows r0_line r0_good r0_work x0_shelf x0_rowSort x0_rowSize x0_moved x0_shown x0_tape x0_tapeSize x0_refused x0_lines x0_changes x0_coins x0_goods x0_works x0_years x0_gone x0_spent x0_at x0_token x0_from x0_figures x0_fault x0_numbers x0_statements x0_left x0_far x0_tons x0_way x0_steps x0_met x0_queue x0_totals, gridI d r0_line 20 7 x0_line, gridI d r0_good 8 3 x0_good, gridI d r0_work 7 5 x0_work, gMd d u1.1 none none none u1.2.1 u1.2.2.1 u1.2.2.2.1 u1.2.2.2.2 (fun _ => 0) (fun _ => 0) (fun _ => 0) (fun _ => 0) (fun _ => 0) (fun _ => 0) (0) (fun _ => 0) g13 g15 g16 g17 g19 g21 g22 g23 (0) (0) (0) (0) (0) (fun _ => 0) (0) g24 g25 g26 (fun _ => 0) (0) (0) (fun _ => 0) (fun _ => 0), gridJ d u1.2.1 8 40 (fun _ _ => 0), gridI d u1.2.2.1 20 7 g14, gridI d u1.2.2.2.1 8 3 g18, gridI d u1.2.2.2.2 7 5 g20]) (st' := fun u1 => [.int v11]) (st := []) hK qd4_71.2.2.2.2.2.2.2.2.2.2.2.2.2.2.2.1 cv_RX7_322 iv_yX7_oneWidth (As := [.int p1, .int p2]) (kX7_oneWidthNt _ d h0 r0_rows r0_line r0_good r0_work a0_kept a0_chosen n x0_shelf x0_rowSort x0_rowSize x0_rows x0_moved x0_shown x0_tape x0_tapeSize x0_refused x0_lines x0_line x0_changes x0_coins x0_goods x0_good x0_works x0_work x0_years x0_gone x0_spent x0_at x0_token x0_from x0_figures x0_fault x0_numbers x0_statements x0_left x0_far x0_tons x0_way x0_steps x0_met x0_queue x0_totals p1 p2 e27) rfl rfl (Nat.le_of_ble_eq_true rfl) (by decide) 0 0 rfl rfl rfl [0, 1, 2, 3] [] rfl (by decide +kernel) rfl rfl [0, 1, 2, 3, 4, 5, 6, 7, 8] (by decide +kernel) (fun _ => rfl) (fun _ => rfl) rfl rfl rfl (fun _ => rfl) (fun u1 => ?_)
      refine J_goto hK qd4_72.1 (n := 39) rfl ?_
      obtain rfl := Option.some.inj hf
      refine J_close (l := sMd d u1 none none none (fun _ => 0) (fun _ => 0) (fun _ => 0) (fun _ _ => 0) (fun _ => 0) (fun _ => 0) (fun _ => 0) (0) (fun _ => 0) g13 g14 g15 g16 g17 g18 g19 g20 g21 g22 g23 (0) (0) (0) (0) (0) (fun _ => 0) (0) g24 g25 g26 (fun _ => 0) (0) (0) (fun _ => 0) (fun _ => 0)) (gs2 := [gMd d h0 a0_kept (some (u1.1 0)) a0_chosen r0_rows r0_line r0_good r0_work x0_shelf x0_rowSort x0_rowSize x0_moved x0_shown x0_tape x0_tapeSize x0_refused x0_lines x0_changes x0_coins x0_goods x0_works x0_years x0_gone x0_spent x0_at x0_token x0_from x0_figures x0_fault x0_numbers x0_statements x0_left x0_far x0_tons x0_way x0_steps x0_met x0_queue x0_totals, gridI d r0_line 20 7 x0_line, gridI d r0_good 8 3 x0_good, gridI d r0_work 7 5 x0_work, oMd d (some u1) none none none (fun _ => 0) (fun _ => 0) (fun _ => 0) (fun _ _ => 0) (fun _ => 0) (fun _ => 0) (fun _ => 0) (0) (fun _ => 0) g13 g14 g15 g16 g17 g18 g19 g20 g21 g22 g23 (0) (0) (0) (0) (0) (fun _ => 0) (0) g24 g25 g26 (fun _ => 0) (0) (0) (fun _ => 0) (fun _ => 0)]) 4 rfl rfl ?_
      exact J_iret hK hR qd4_72.2.2.2.2.1 ⟨some u1, fun h => by cases h⟩ rfl (by decide) (by decide)
end
section

set_option maxHeartbeats 4000000 in
set_option maxRecDepth 100000 in
theorem kX7_whichNt (l : Launch) (d : DT) (h0 : Nat → Nat) (r0_rows : Nat → Nat) (r0_line : Nat → Nat) (r0_good : Nat → Nat) (r0_work : Nat → Nat) (a0_kept : Option Nat) (a0_chosen : Option Nat) (n : Nat) (x0_shelf : (Nat → Int32)) (x0_rowSort : (Nat → Int32)) (x0_rowSize : (Nat → Int32)) (x0_rows : (Nat → Nat → Int64)) (x0_moved : (Nat → Int64)) (x0_shown : (Nat → Int32)) (x0_tape : (Nat → Int32)) (x0_tapeSize : Int32) (x0_refused : (Nat → Int32)) (x0_lines : Int32) (x0_line : (Nat → Nat → Int32)) (x0_changes : (Nat → Int32)) (x0_coins : (Nat → Int32)) (x0_goods : Int32) (x0_good : (Nat → Nat → Int32)) (x0_works : Int32) (x0_work : (Nat → Nat → Int32)) (x0_years : Int32) (x0_gone : Int32) (x0_spent : Int32) (x0_at : Int32) (x0_token : Int32) (x0_from : Int32) (x0_figures : Int64) (x0_fault : Int32) (x0_numbers : (Nat → Int32)) (x0_statements : Int32) (x0_left : (Nat → Int32)) (x0_far : (Nat → Int32)) (x0_tons : Int32) (x0_way : (Nat → Int32)) (x0_steps : Int32) (x0_met : Int64) (x0_queue : (Nat → Int32)) (x0_totals : (Nat → Int32)) (p1 : Int32)  {out : Int32 × (Nat → Int32) × (Int32 × (Nat → Nat → Int32) × (Nat → Int32) × (Nat → Int32) × Int32 × (Nat → Nat → Int32) × Int32 × (Nat → Nat → Int32) × Int32 × Int32 × Int32 × (Nat → Int32) × (Nat → Int32) × Int32)} (hf : fX7_which n (x0_shelf, x0_rowSort, x0_rowSize, x0_rows, x0_moved, x0_shown, x0_tape, x0_tapeSize, x0_refused, x0_lines, x0_line, x0_changes, x0_coins, x0_goods, x0_good, x0_works, x0_work, x0_years, x0_gone, x0_spent, x0_at, x0_token, x0_from, x0_figures, x0_fault, x0_numbers, x0_statements, x0_left, x0_far, x0_tons, x0_way, x0_steps, x0_met, x0_queue, x0_totals) ((fun _ => 0), (fun _ => 0), (fun _ => 0), (fun _ _ => 0), (fun _ => 0), (fun _ => 0), (fun _ => 0), 0, (fun _ => 0), 0, (fun _ _ => 0), (fillV 12 9 (fun _ => 0)), (va_up (va_up (va_up (fun _ => 0) 0 1) 1 1) 2 1), 0, (fun _ _ => 0), 0, (fun _ _ => 0), 10, 0, 0, 0, 0, 0, 0, 0, (fun _ => 0), 0, (fun _ => 0), (fun _ => 0), 0, (fun _ => 0), 0, 0, (fun _ => 0), (fun _ => 0)) p1 = some out) : Ct l d yX7_which cX7_which 4 (some .int) { frames := 5, cells := 63, slots := 1204, locals := 110 } [.ref (h0 0), .int p1] [gMd d h0 a0_kept none a0_chosen r0_rows r0_line r0_good r0_work x0_shelf x0_rowSort x0_rowSize x0_moved x0_shown x0_tape x0_tapeSize x0_refused x0_lines x0_changes x0_coins x0_goods x0_works x0_years x0_gone x0_spent x0_at x0_token x0_from x0_figures x0_fault x0_numbers x0_statements x0_left x0_far x0_tons x0_way x0_steps x0_met x0_queue x0_totals, gridI d r0_line 20 7 x0_line, gridI d r0_good 8 3 x0_good, gridI d r0_work 7 5 x0_work] (fun u : {q : Option AdM // q = none → ((fun _ => 0), (fun _ => 0), (fun _ => 0), (fun _ _ => 0), (fun _ => 0), (fun _ => 0), (fun _ => 0), 0, (fun _ => 0), out.2.2.1, out.2.2.2.1, out.2.2.2.2.1, out.2.2.2.2.2.1, out.2.2.2.2.2.2.1, out.2.2.2.2.2.2.2.1, out.2.2.2.2.2.2.2.2.1, out.2.2.2.2.2.2.2.2.2.1, out.2.2.2.2.2.2.2.2.2.2.1, out.2.2.2.2.2.2.2.2.2.2.2.1, out.2.2.2.2.2.2.2.2.2.2.2.2.1, 0, 0, 0, 0, 0, (fun _ => 0), 0, out.2.2.2.2.2.2.2.2.2.2.2.2.2.1, out.2.2.2.2.2.2.2.2.2.2.2.2.2.2.1, out.2.2.2.2.2.2.2.2.2.2.2.2.2.2.2, (fun _ => 0), 0, 0, (fun _ => 0), (fun _ => 0)) = M0} => (some (.int out.1), [gMd d h0 a0_kept (bs_ u.1) a0_chosen r0_rows r0_line r0_good r0_work x0_shelf x0_rowSort x0_rowSize x0_moved x0_shown x0_tape x0_tapeSize (out.2.1) x0_lines x0_changes x0_coins x0_goods x0_works x0_years x0_gone x0_spent x0_at x0_token x0_from x0_figures x0_fault x0_numbers x0_statements x0_left x0_far x0_tons x0_way x0_steps x0_met x0_queue x0_totals, gridI d r0_line 20 7 x0_line, gridI d r0_good 8 3 x0_good, gridI d r0_work 7 5 x0_work, oMd d (u.1) none none none (fun _ => 0) (fun _ => 0) (fun _ => 0) (fun _ _ => 0) (fun _ => 0) (fun _ => 0) (fun _ => 0) (0) (fun _ => 0) (out.2.2.1) (out.2.2.2.1) (out.2.2.2.2.1) (out.2.2.2.2.2.1) (out.2.2.2.2.2.2.1) (out.2.2.2.2.2.2.2.1) (out.2.2.2.2.2.2.2.2.1) (out.2.2.2.2.2.2.2.2.2.1) (out.2.2.2.2.2.2.2.2.2.2.1) (out.2.2.2.2.2.2.2.2.2.2.2.1) (out.2.2.2.2.2.2.2.2.2.2.2.2.1) (0) (0) (0) (0) (0) (fun _ => 0) (0) (out.2.2.2.2.2.2.2.2.2.2.2.2.2.1) (out.2.2.2.2.2.2.2.2.2.2.2.2.2.2.1) (out.2.2.2.2.2.2.2.2.2.2.2.2.2.2.2) (fun _ => 0) (0) (0) (fun _ => 0) (fun _ => 0)])) := by
  refine Ct.of (by decide) (Nat.le_of_ble_eq_true rfl) ?_
  intro Φ hl hK hR
  subst hl
  have hK : Ok d Φ RX7 "which" cX7_which 4 (some .int) { frames := 5, cells := 63, slots := 1204, locals := 110 } := hK
  unfold fX7_which at hf
  have hf := un35 hf
  have hf := un35 hf
  show J d Φ 4 [gMd d h0 a0_kept none a0_chosen r0_rows r0_line r0_good r0_work x0_shelf x0_rowSort x0_rowSize x0_moved x0_shown x0_tape x0_tapeSize x0_refused x0_lines x0_changes x0_coins x0_goods x0_works x0_years x0_gone x0_spent x0_at x0_token x0_from x0_figures x0_fault x0_numbers x0_statements x0_left x0_far x0_tons x0_way x0_steps x0_met x0_queue x0_totals, gridI d r0_line 20 7 x0_line, gridI d r0_good 8 3 x0_good, gridI d r0_work 7 5 x0_work] 0 0 0 [(0, .ref (h0 0)), (1, .int p1)] []
  refine J_iload_n hK qd4_73.1 rfl 1 rfl rfl ?_
  refine J_i2l hK qd4_73.2.1 rfl ?_
  refine J_lconst (v := 0) hK qd4_73.2.2.1 rfl (by decide) ?_
  refine J_ldc2 (v := (99 : Int64)) hK qd4_73.2.2.2.1 rfl wk_RX7_123 ?_
  obtain ⟨v1, e2, hf⟩ := bs hf
  refine J_callS (m := 4) (m' := 4) (ce' := 0) (sl' := 0) (gr := [gMd d h0 a0_kept none a0_chosen r0_rows r0_line r0_good r0_work x0_shelf x0_rowSort x0_rowSize x0_moved x0_shown x0_tape x0_tapeSize x0_refused x0_lines x0_changes x0_coins x0_goods x0_works x0_years x0_gone x0_spent x0_at x0_token x0_from x0_figures x0_fault x0_numbers x0_statements x0_left x0_far x0_tons x0_way x0_steps x0_met x0_queue x0_totals, gridI d r0_line 20 7 x0_line, gridI d r0_good 8 3 x0_good, gridI d r0_work 7 5 x0_work]) (gs' := fun _ => [gMd d h0 a0_kept none a0_chosen r0_rows r0_line r0_good r0_work x0_shelf x0_rowSort x0_rowSize x0_moved x0_shown x0_tape x0_tapeSize x0_refused x0_lines x0_changes x0_coins x0_goods x0_works x0_years x0_gone x0_spent x0_at x0_token x0_from x0_figures x0_fault x0_numbers x0_statements x0_left x0_far x0_tons x0_way x0_steps x0_met x0_queue x0_totals, gridI d r0_line 20 7 x0_line, gridI d r0_good 8 3 x0_good, gridI d r0_work 7 5 x0_work]) (st' := fun _ => [.int v1]) (st := []) hK qd4_73.2.2.2.2.1 cv_RX7_78 ws_yX7_in (As := [.long ((p1).toInt64), .long (0 : Int64), .long (99 : Int64)]) (kX7_in _ d ((p1).toInt64) (0 : Int64) (99 : Int64) e2) rfl rfl (Nat.le_of_ble_eq_true rfl) (by decide) [] [0, 1, 2, 3] rfl (by decide +kernel) rfl rfl [0, 1, 2, 3] (by decide +kernel) (fun _ => rfl) (fun _ => rfl) rfl rfl rfl (fun _ => rfl) (fun _ => ?_)
  refine J_if_ne (tg := 19) hK qd4_73.2.2.2.2.2.1 rfl rfl (fun hc9 => ?_) (fun hc9 => ?_)
  · have hf := iq hc9 hf
    refine J_iconst (v := 0) hK qd4_73.2.2.2.2.2.2.2.2.2.2.1 rfl (by decide) ?_
    refine J_istore_n (L' := [(2, .int (0)), (0, .ref (h0 0)), (1, .int p1)]) hK qd4_73.2.2.2.2.2.2.2.2.2.2.2.1 rfl rfl (by decide) rfl ?_
    refine J_iconst (v := 1) hK qd4_73.2.2.2.2.2.2.2.2.2.2.2.2.1 rfl (by decide) ?_
    refine J_istore_n (L' := [(3, .int (1)), (2, .int (0)), (0, .ref (h0 0)), (1, .int p1)]) hK qd4_73.2.2.2.2.2.2.2.2.2.2.2.2.2.1 rfl rfl (by decide) rfl ?_
    obtain ⟨e20, hl3, hf⟩ := bs hf
    have hx3_55P : ∀ (uL2 : AdM) (w21 : Int32) (w22 : Int32) (w23 : (Nat → Nat → Int32)) (w24 : (Nat → Int32)) (w25 : (Nat → Int32)) (w26 : Int32) (w27 : (Nat → Nat → Int32)) (w28 : Int32) (w29 : (Nat → Nat → Int32)) (w30 : Int32) (w31 : Int32) (w32 : Int32) (w33 : (Nat → Int32)) (w34 : (Nat → Int32)) (w35 : Int32), (w21, w22, w23, w24, w25, w26, w27, w28, w29, w30, w31, w32, w33, w34, w35) = e20 → J d Φ 4 [gMd d h0 a0_kept (some (uL2.1 0)) a0_chosen r0_rows r0_line r0_good r0_work x0_shelf x0_rowSort x0_rowSize x0_moved x0_shown x0_tape x0_tapeSize x0_refused x0_lines x0_changes x0_coins x0_goods x0_works x0_years x0_gone x0_spent x0_at x0_token x0_from x0_figures x0_fault x0_numbers x0_statements x0_left x0_far x0_tons x0_way x0_steps x0_met x0_queue x0_totals, gridI d r0_line 20 7 x0_line, gridI d r0_good 8 3 x0_good, gridI d r0_work 7 5 x0_work, gMd d uL2.1 none none none uL2.2.1 uL2.2.2.1 uL2.2.2.2.1 uL2.2.2.2.2 (fun _ => 0) (fun _ => 0) (fun _ => 0) (fun _ => 0) (fun _ => 0) (fun _ => 0) (0) (fun _ => 0) w22 w24 w25 w26 w28 w30 w31 w32 (0) (0) (0) (0) (0) (fun _ => 0) (0) w33 w34 w35 (fun _ => 0) (0) (0) (fun _ => 0) (fun _ => 0), gridJ d uL2.2.1 8 40 (fun _ _ => 0), gridI d uL2.2.2.1 20 7 w23, gridI d uL2.2.2.2.1 8 3 w27, gridI d uL2.2.2.2.2 7 5 w29] 63 1204 55 [(2, .int w21)] [] := by
      intro uL2 w21 w22 w23 w24 w25 w26 w27 w28 w29 w30 w31 w32 w33 w34 w35 he
      rw [← he] at hf
      have hf := un15 hf
      refine J_iload_n hK qd4_75.1 rfl 0 rfl rfl ?_
      obtain rfl := Option.some.inj hf
      refine J_close (l := sMd d uL2 none none none (fun _ => 0) (fun _ => 0) (fun _ => 0) (fun _ _ => 0) (fun _ => 0) (fun _ => 0) (fun _ => 0) (0) (fun _ => 0) w22 w23 w24 w25 w26 w27 w28 w29 w30 w31 w32 (0) (0) (0) (0) (0) (fun _ => 0) (0) w33 w34 w35 (fun _ => 0) (0) (0) (fun _ => 0) (fun _ => 0)) (gs2 := [gMd d h0 a0_kept (some (uL2.1 0)) a0_chosen r0_rows r0_line r0_good r0_work x0_shelf x0_rowSort x0_rowSize x0_moved x0_shown x0_tape x0_tapeSize x0_refused x0_lines x0_changes x0_coins x0_goods x0_works x0_years x0_gone x0_spent x0_at x0_token x0_from x0_figures x0_fault x0_numbers x0_statements x0_left x0_far x0_tons x0_way x0_steps x0_met x0_queue x0_totals, gridI d r0_line 20 7 x0_line, gridI d r0_good 8 3 x0_good, gridI d r0_work 7 5 x0_work, oMd d (some uL2) none none none (fun _ => 0) (fun _ => 0) (fun _ => 0) (fun _ _ => 0) (fun _ => 0) (fun _ => 0) (fun _ => 0) (0) (fun _ => 0) w22 w23 w24 w25 w26 w27 w28 w29 w30 w31 w32 (0) (0) (0) (0) (0) (fun _ => 0) (0) w33 w34 w35 (fun _ => 0) (0) (0) (fun _ => 0) (fun _ => 0)]) 4 rfl rfl ?_
      exact J_iret hK hR qd4_75.2.1 ⟨some uL2, fun h => by cases h⟩ rfl (by decide) (by decide)
    have lo3P : ∀ (k : Nat) (uL2 : AdM) (z4 : Int32) (z5 : Int32) (z6 : Int32) (z7 : (Nat → Nat → Int32)) (z8 : (Nat → Int32)) (z9 : (Nat → Int32)) (z10 : Int32) (z11 : (Nat → Nat → Int32)) (z12 : Int32) (z13 : (Nat → Nat → Int32)) (z14 : Int32) (z15 : Int32) (z16 : Int32) (z17 : (Nat → Int32)) (z18 : (Nat → Int32)) (z19 : Int32), lp (u16 (fX7_which_s23 n p1 x0_shelf x0_rowSort x0_rowSize x0_rows x0_moved x0_shown x0_tape x0_tapeSize x0_refused x0_lines x0_line x0_changes x0_coins x0_goods x0_good x0_works x0_work x0_years x0_gone x0_spent x0_at x0_token x0_from x0_figures x0_fault x0_numbers x0_statements x0_left x0_far x0_tons x0_way x0_steps x0_met x0_queue x0_totals (fun _ => 0) (fun _ => 0) (fun _ => 0) (fun _ _ => 0) (fun _ => 0) (fun _ => 0) (fun _ => 0) (0) (fun _ => 0) (0) (0) (0) (0) (0) (fun _ => 0) (0) (fun _ => 0) (0) (0) (fun _ => 0) (fun _ => 0))) k (z4, z5, z6, z7, z8, z9, z10, z11, z12, z13, z14, z15, z16, z17, z18, z19) = some e20 → J d Φ 4 [gMd d h0 a0_kept (some (uL2.1 0)) a0_chosen r0_rows r0_line r0_good r0_work x0_shelf x0_rowSort x0_rowSize x0_moved x0_shown x0_tape x0_tapeSize x0_refused x0_lines x0_changes x0_coins x0_goods x0_works x0_years x0_gone x0_spent x0_at x0_token x0_from x0_figures x0_fault x0_numbers x0_statements x0_left x0_far x0_tons x0_way x0_steps x0_met x0_queue x0_totals, gridI d r0_line 20 7 x0_line, gridI d r0_good 8 3 x0_good, gridI d r0_work 7 5 x0_work, gMd d uL2.1 none none none uL2.2.1 uL2.2.2.1 uL2.2.2.2.1 uL2.2.2.2.2 (fun _ => 0) (fun _ => 0) (fun _ => 0) (fun _ => 0) (fun _ => 0) (fun _ => 0) (0) (fun _ => 0) z6 z8 z9 z10 z12 z14 z15 z16 (0) (0) (0) (0) (0) (fun _ => 0) (0) z17 z18 z19 (fun _ => 0) (0) (0) (fun _ => 0) (fun _ => 0), gridJ d uL2.2.1 8 40 (fun _ _ => 0), gridI d uL2.2.2.1 20 7 z7, gridI d uL2.2.2.2.1 8 3 z11, gridI d uL2.2.2.2.2 7 5 z13] 63 1204 23 [(0, .ref (h0 0)), (1, .int p1), (2, .int z4), (3, .int z5)] [] := by
      intro k
      induction k with
      | zero => intro uL2 z4 z5 z6 z7 z8 z9 z10 z11 z12 z13 z14 z15 z16 z17 z18 z19 h; cases h
      | succ k ih3P =>
        intro uL2 z4 z5 z6 z7 z8 z9 z10 z11 z12 z13 z14 z15 z16 z17 z18 z19 h
        obtain ⟨k2, rr3, hk2, hs3, hr3⟩ := lp_ok h
        cases hk2
        have hs3 : fX7_which_s23 n p1 x0_shelf x0_rowSort x0_rowSize x0_rows x0_moved x0_shown x0_tape x0_tapeSize x0_refused x0_lines x0_line x0_changes x0_coins x0_goods x0_good x0_works x0_work x0_years x0_gone x0_spent x0_at x0_token x0_from x0_figures x0_fault x0_numbers x0_statements x0_left x0_far x0_tons x0_way x0_steps x0_met x0_queue x0_totals (fun _ => 0) (fun _ => 0) (fun _ => 0) (fun _ _ => 0) (fun _ => 0) (fun _ => 0) (fun _ => 0) (0) (fun _ => 0) (0) (0) (0) (0) (0) (fun _ => 0) (0) (fun _ => 0) (0) (0) (fun _ => 0) (fun _ => 0) z4 z5 z6 z7 z8 z9 z10 z11 z12 z13 z14 z15 z16 z17 z18 z19 = some rr3 := hs3
        unfold fX7_which_s23 at hs3
        refine J_iload_n hK qd4_73.2.2.2.2.2.2.2.2.2.2.2.2.2.2.1 rfl 3 rfl rfl ?_
        refine J_iconst (v := 3) hK qd4_73.2.2.2.2.2.2.2.2.2.2.2.2.2.2.2.1 rfl (by decide) ?_
        refine J_icmp_ge (tg := 55) hK qd4_74.1 rfl rfl (fun hc25 => ?_) (fun hc25 => ?_)
        · have hs3 := ip hc25 hs3
          exact J_loc [2] rfl (hx3_55P uL2 z4 z6 z7 z8 z9 z10 z11 z12 z13 z14 z15 z16 z17 z18 z19 (lpx hs3 hr3))
        · have hs3 := iq hc25 hs3
          refine J_aload_n hK qd4_74.2.1 rfl 0 rfl rfl ?_
          refine J_iload_n hK qd4_74.2.2.1 rfl 3 rfl rfl ?_
          refine J_iload_n hK qd4_74.2.2.2.1 rfl 1 rfl rfl ?_
          obtain ⟨⟨v36, ⟨g38, g39, g40, g41, g42, g43, g44, g45, g46, g47, g48, g49, g50, g51⟩⟩, e52, hs3⟩ := bs hs3
          have hs3 := un2 hs3
          have hs3 := un14 hs3
          refine J_callV (m := 9) (m' := 9) (ce' := 63) (sl' := 1204) (gr := [gridJ d uL2.2.1 8 40 (fun _ _ => 0)]) (gs' := fun _ => [gMd d h0 a0_kept (some (uL2.1 0)) a0_chosen r0_rows r0_line r0_good r0_work x0_shelf x0_rowSort x0_rowSize x0_moved x0_shown x0_tape x0_tapeSize x0_refused x0_lines x0_changes x0_coins x0_goods x0_works x0_years x0_gone x0_spent x0_at x0_token x0_from x0_figures x0_fault x0_numbers x0_statements x0_left x0_far x0_tons x0_way x0_steps x0_met x0_queue x0_totals, gridI d r0_line 20 7 x0_line, gridI d r0_good 8 3 x0_good, gridI d r0_work 7 5 x0_work, gMd d uL2.1 none none none uL2.2.1 uL2.2.2.1 uL2.2.2.2.1 uL2.2.2.2.2 (fun _ => 0) (fun _ => 0) (fun _ => 0) (fun _ => 0) (fun _ => 0) (fun _ => 0) (0) (fun _ => 0) g38 g40 g41 g42 g44 g46 g47 g48 (0) (0) (0) (0) (0) (fun _ => 0) (0) g49 g50 g51 (fun _ => 0) (0) (0) (fun _ => 0) (fun _ => 0), gridJ d uL2.2.1 8 40 (fun _ _ => 0), gridI d uL2.2.2.1 20 7 g39, gridI d uL2.2.2.2.1 8 3 g43, gridI d uL2.2.2.2.2 7 5 g45]) (st' := fun _ => [.int v36]) (st := []) hK qd4_74.2.2.2.2.1 cv_RX7_322 iv_yX7_oneWidth (As := [.int z5, .int p1]) (kX7_oneWidth _ d h0 r0_rows r0_line r0_good r0_work a0_kept a0_chosen uL2.1 uL2.2.1 uL2.2.2.1 uL2.2.2.2.1 uL2.2.2.2.2 none none none n x0_shelf x0_rowSort x0_rowSize x0_rows x0_moved x0_shown x0_tape x0_tapeSize x0_refused x0_lines x0_line x0_changes x0_coins x0_goods x0_good x0_works x0_work x0_years x0_gone x0_spent x0_at x0_token x0_from x0_figures x0_fault x0_numbers x0_statements x0_left x0_far x0_tons x0_way x0_steps x0_met x0_queue x0_totals (fun _ => 0) (fun _ => 0) (fun _ => 0) (fun _ _ => 0) (fun _ => 0) (fun _ => 0) (fun _ => 0) (0) (fun _ => 0) z6 z7 z8 z9 z10 z11 z12 z13 z14 z15 z16 (0) (0) (0) (0) (0) (fun _ => 0) (0) z17 z18 z19 (fun _ => 0) (0) (0) (fun _ => 0) (fun _ => 0) z5 p1 e52) rfl rfl (Nat.le_of_ble_eq_true rfl) (by decide) 0 0 rfl rfl rfl [0, 1, 2, 3, 4, 6, 7, 8] [5] rfl (by decide +kernel) rfl rfl [1, 2, 3, 4, 5, 0, 6, 7, 8] (by decide +kernel) (fun _ => rfl) (fun _ => rfl) rfl rfl rfl (fun _ => rfl) (fun _ => ?_)
          refine J_aload_n hK qd4_74.2.2.2.2.2.1 rfl 0 rfl rfl ?_
          refine J_iload_n hK qd4_74.2.2.2.2.2.2.1 rfl 2 rfl rfl ?_
          refine J_iload_n hK qd4_74.2.2.2.2.2.2.2.1 rfl 1 rfl rfl ?_
          obtain ⟨⟨v53, ⟨g55, g56, g57, g58, g59, g60, g61, g62, g63, g64, g65, g66, g67, g68⟩⟩, e69, hs3⟩ := bs hs3
          have hs3 := un2 hs3
          have hs3 := un14 hs3
          refine J_callV (m := 9) (m' := 9) (ce' := 63) (sl' := 1204) (gr := [gridJ d uL2.2.1 8 40 (fun _ _ => 0)]) (gs' := fun _ => [gMd d h0 a0_kept (some (uL2.1 0)) a0_chosen r0_rows r0_line r0_good r0_work x0_shelf x0_rowSort x0_rowSize x0_moved x0_shown x0_tape x0_tapeSize x0_refused x0_lines x0_changes x0_coins x0_goods x0_works x0_years x0_gone x0_spent x0_at x0_token x0_from x0_figures x0_fault x0_numbers x0_statements x0_left x0_far x0_tons x0_way x0_steps x0_met x0_queue x0_totals, gridI d r0_line 20 7 x0_line, gridI d r0_good 8 3 x0_good, gridI d r0_work 7 5 x0_work, gMd d uL2.1 none none none uL2.2.1 uL2.2.2.1 uL2.2.2.2.1 uL2.2.2.2.2 (fun _ => 0) (fun _ => 0) (fun _ => 0) (fun _ => 0) (fun _ => 0) (fun _ => 0) (0) (fun _ => 0) g55 g57 g58 g59 g61 g63 g64 g65 (0) (0) (0) (0) (0) (fun _ => 0) (0) g66 g67 g68 (fun _ => 0) (0) (0) (fun _ => 0) (fun _ => 0), gridJ d uL2.2.1 8 40 (fun _ _ => 0), gridI d uL2.2.2.1 20 7 g56, gridI d uL2.2.2.2.1 8 3 g60, gridI d uL2.2.2.2.2 7 5 g62]) (st' := fun _ => [.int v53, .int v36]) (st := [.int v36]) hK qd4_74.2.2.2.2.2.2.2.2.1 cv_RX7_322 iv_yX7_oneWidth (As := [.int z4, .int p1]) (kX7_oneWidth _ d h0 r0_rows r0_line r0_good r0_work a0_kept a0_chosen uL2.1 uL2.2.1 uL2.2.2.1 uL2.2.2.2.1 uL2.2.2.2.2 none none none n x0_shelf x0_rowSort x0_rowSize x0_rows x0_moved x0_shown x0_tape x0_tapeSize x0_refused x0_lines x0_line x0_changes x0_coins x0_goods x0_good x0_works x0_work x0_years x0_gone x0_spent x0_at x0_token x0_from x0_figures x0_fault x0_numbers x0_statements x0_left x0_far x0_tons x0_way x0_steps x0_met x0_queue x0_totals (fun _ => 0) (fun _ => 0) (fun _ => 0) (fun _ _ => 0) (fun _ => 0) (fun _ => 0) (fun _ => 0) (0) (fun _ => 0) g38 g39 g40 g41 g42 g43 g44 g45 g46 g47 g48 (0) (0) (0) (0) (0) (fun _ => 0) (0) g49 g50 g51 (fun _ => 0) (0) (0) (fun _ => 0) (fun _ => 0) z4 p1 e69) rfl rfl (Nat.le_of_ble_eq_true rfl) (by decide) 0 0 rfl rfl rfl [0, 1, 2, 3, 4, 6, 7, 8] [5] rfl (by decide +kernel) rfl rfl [1, 2, 3, 4, 5, 0, 6, 7, 8] (by decide +kernel) (fun _ => rfl) (fun _ => rfl) rfl rfl rfl (fun _ => rfl) (fun _ => ?_)
          refine J_icmp_ge (tg := 47) hK qd4_74.2.2.2.2.2.2.2.2.2.1 rfl rfl (fun hc40 => ?_) (fun hc40 => ?_)
          · have hs3 := ip hc40 hs3
            refine J_iload_n hK qd4_74.2.2.2.2.2.2.2.2.2.2.2.2.1 rfl 2 rfl rfl ?_
            refine J_istore_n (L' := [(2, .int z4), (0, .ref (h0 0)), (1, .int p1), (3, .int z5)]) hK qd4_74.2.2.2.2.2.2.2.2.2.2.2.2.2.1 rfl rfl (by decide) rfl ?_
            refine J_iinc (L' := [(3, .int (z5 + 1)), (2, .int z4), (0, .ref (h0 0)), (1, .int p1)]) (v := (z5 + 1)) hK qd4_74.2.2.2.2.2.2.2.2.2.2.2.2.2.2.1 rfl 3 rfl rfl (by decide) rfl ?_
            refine J_goto hK qd4_74.2.2.2.2.2.2.2.2.2.2.2.2.2.2.2.1 (n := 23) rfl ?_
            exact J_loc [2, 3, 1, 0] rfl (ih3P uL2 z4 (z5 + 1) g55 g56 g57 g58 g59 g60 g61 g62 g63 g64 g65 g66 g67 g68 (lpc hs3 hr3))
          · have hs3 := iq hc40 hs3
            refine J_iload_n hK qd4_74.2.2.2.2.2.2.2.2.2.2.1 rfl 3 rfl rfl ?_
            refine J_goto hK qd4_74.2.2.2.2.2.2.2.2.2.2.2.1 (n := 48) rfl ?_
            refine J_istore_n (L' := [(2, .int z5), (0, .ref (h0 0)), (1, .int p1), (3, .int z5)]) hK qd4_74.2.2.2.2.2.2.2.2.2.2.2.2.2.1 rfl rfl (by decide) rfl ?_
            refine J_iinc (L' := [(3, .int (z5 + 1)), (2, .int z5), (0, .ref (h0 0)), (1, .int p1)]) (v := (z5 + 1)) hK qd4_74.2.2.2.2.2.2.2.2.2.2.2.2.2.2.1 rfl 3 rfl rfl (by decide) rfl ?_
            refine J_goto hK qd4_74.2.2.2.2.2.2.2.2.2.2.2.2.2.2.2.1 (n := 23) rfl ?_
            exact J_loc [2, 3, 1, 0] rfl (ih3P uL2 z5 (z5 + 1) g55 g56 g57 g58 g59 g60 g61 g62 g63 g64 g65 g66 g67 g68 (lpc hs3 hr3))
    have hx3_55N : ∀ (w21 : Int32), (w21, 0, (fun _ _ => 0), (fillV 12 9 (fun _ => 0)), (va_up (va_up (va_up (fun _ => 0) 0 1) 1 1) 2 1), 0, (fun _ _ => 0), 0, (fun _ _ => 0), 10, 0, 0, (fun _ => 0), (fun _ => 0), 0) = e20 → J d Φ 4 [gMd d h0 a0_kept none a0_chosen r0_rows r0_line r0_good r0_work x0_shelf x0_rowSort x0_rowSize x0_moved x0_shown x0_tape x0_tapeSize x0_refused x0_lines x0_changes x0_coins x0_goods x0_works x0_years x0_gone x0_spent x0_at x0_token x0_from x0_figures x0_fault x0_numbers x0_statements x0_left x0_far x0_tons x0_way x0_steps x0_met x0_queue x0_totals, gridI d r0_line 20 7 x0_line, gridI d r0_good 8 3 x0_good, gridI d r0_work 7 5 x0_work] 0 0 55 [(2, .int w21)] [] := by
      intro w21 he
      rw [← he] at hf
      have hf := un15 hf
      refine J_iload_n hK qd4_75.1 rfl 0 rfl rfl ?_
      obtain rfl := Option.some.inj hf
      refine J_fl (gs2 := [gMd d h0 a0_kept none a0_chosen r0_rows r0_line r0_good r0_work x0_shelf x0_rowSort x0_rowSize x0_moved x0_shown x0_tape x0_tapeSize x0_refused x0_lines x0_changes x0_coins x0_goods x0_works x0_years x0_gone x0_spent x0_at x0_token x0_from x0_figures x0_fault x0_numbers x0_statements x0_left x0_far x0_tons x0_way x0_steps x0_met x0_queue x0_totals, gridI d r0_line 20 7 x0_line, gridI d r0_good 8 3 x0_good, gridI d r0_work 7 5 x0_work, oMd d none none none none (fun _ => 0) (fun _ => 0) (fun _ => 0) (fun _ _ => 0) (fun _ => 0) (fun _ => 0) (fun _ => 0) (0) (fun _ => 0) (0) (fun _ _ => 0) (fillV 12 9 (fun _ => 0)) (va_up (va_up (va_up (fun _ => 0) 0 1) 1 1) 2 1) (0) (fun _ _ => 0) (0) (fun _ _ => 0) (10) (0) (0) (0) (0) (0) (0) (0) (fun _ => 0) (0) (fun _ => 0) (fun _ => 0) (0) (fun _ => 0) (0) (0) (fun _ => 0) (fun _ => 0)]) rfl ?_
      exact J_iret hK hR qd4_75.2.1 ⟨none, fun _ => rfl⟩ rfl (by decide) (by decide)
    have lo3N : ∀ (k : Nat) (z4 : Int32) (z5 : Int32), lp (u16 (fX7_which_s23 n p1 x0_shelf x0_rowSort x0_rowSize x0_rows x0_moved x0_shown x0_tape x0_tapeSize x0_refused x0_lines x0_line x0_changes x0_coins x0_goods x0_good x0_works x0_work x0_years x0_gone x0_spent x0_at x0_token x0_from x0_figures x0_fault x0_numbers x0_statements x0_left x0_far x0_tons x0_way x0_steps x0_met x0_queue x0_totals (fun _ => 0) (fun _ => 0) (fun _ => 0) (fun _ _ => 0) (fun _ => 0) (fun _ => 0) (fun _ => 0) (0) (fun _ => 0) (0) (0) (0) (0) (0) (fun _ => 0) (0) (fun _ => 0) (0) (0) (fun _ => 0) (fun _ => 0))) k (z4, z5, 0, (fun _ _ => 0), (fillV 12 9 (fun _ => 0)), (va_up (va_up (va_up (fun _ => 0) 0 1) 1 1) 2 1), 0, (fun _ _ => 0), 0, (fun _ _ => 0), 10, 0, 0, (fun _ => 0), (fun _ => 0), 0) = some e20 → J d Φ 4 [gMd d h0 a0_kept none a0_chosen r0_rows r0_line r0_good r0_work x0_shelf x0_rowSort x0_rowSize x0_moved x0_shown x0_tape x0_tapeSize x0_refused x0_lines x0_changes x0_coins x0_goods x0_works x0_years x0_gone x0_spent x0_at x0_token x0_from x0_figures x0_fault x0_numbers x0_statements x0_left x0_far x0_tons x0_way x0_steps x0_met x0_queue x0_totals, gridI d r0_line 20 7 x0_line, gridI d r0_good 8 3 x0_good, gridI d r0_work 7 5 x0_work] 0 0 23 [(0, .ref (h0 0)), (1, .int p1), (2, .int z4), (3, .int z5)] [] := by
      intro k
      induction k with
      | zero => intro z4 z5 h; cases h
      | succ k ih3N =>
        intro z4 z5 h
        obtain ⟨k2, rr3, hk2, hs3, hr3⟩ := lp_ok h
        cases hk2
        have hs3 : fX7_which_s23 n p1 x0_shelf x0_rowSort x0_rowSize x0_rows x0_moved x0_shown x0_tape x0_tapeSize x0_refused x0_lines x0_line x0_changes x0_coins x0_goods x0_good x0_works x0_work x0_years x0_gone x0_spent x0_at x0_token x0_from x0_figures x0_fault x0_numbers x0_statements x0_left x0_far x0_tons x0_way x0_steps x0_met x0_queue x0_totals (fun _ => 0) (fun _ => 0) (fun _ => 0) (fun _ _ => 0) (fun _ => 0) (fun _ => 0) (fun _ => 0) (0) (fun _ => 0) (0) (0) (0) (0) (0) (fun _ => 0) (0) (fun _ => 0) (0) (0) (fun _ => 0) (fun _ => 0) z4 z5 (0) (fun _ _ => 0) (fillV 12 9 (fun _ => 0)) (va_up (va_up (va_up (fun _ => 0) 0 1) 1 1) 2 1) (0) (fun _ _ => 0) (0) (fun _ _ => 0) (10) (0) (0) (fun _ => 0) (fun _ => 0) (0) = some rr3 := hs3
        unfold fX7_which_s23 at hs3
        refine J_iload_n hK qd4_73.2.2.2.2.2.2.2.2.2.2.2.2.2.2.1 rfl 3 rfl rfl ?_
        refine J_iconst (v := 3) hK qd4_73.2.2.2.2.2.2.2.2.2.2.2.2.2.2.2.1 rfl (by decide) ?_
        refine J_icmp_ge (tg := 55) hK qd4_74.1 rfl rfl (fun hc25 => ?_) (fun hc25 => ?_)
        · have hs3 := ip hc25 hs3
          exact J_loc [2] rfl (hx3_55N z4 (lpx hs3 hr3))
        · have hs3 := iq hc25 hs3
          refine J_aload_n hK qd4_74.2.1 rfl 0 rfl rfl ?_
          refine J_iload_n hK qd4_74.2.2.1 rfl 3 rfl rfl ?_
          refine J_iload_n hK qd4_74.2.2.2.1 rfl 1 rfl rfl ?_
          obtain ⟨⟨v36, ⟨g38, g39, g40, g41, g42, g43, g44, g45, g46, g47, g48, g49, g50, g51⟩⟩, e52, hs3⟩ := bs hs3
          have hs3 := un2 hs3
          have hs3 := un14 hs3
          refine J_callV (m := 4) (m' := 9) (ce' := 63) (sl' := 1204) (gr := []) (gs' := fun u1 => [gMd d h0 a0_kept (some (u1.1 0)) a0_chosen r0_rows r0_line r0_good r0_work x0_shelf x0_rowSort x0_rowSize x0_moved x0_shown x0_tape x0_tapeSize x0_refused x0_lines x0_changes x0_coins x0_goods x0_works x0_years x0_gone x0_spent x0_at x0_token x0_from x0_figures x0_fault x0_numbers x0_statements x0_left x0_far x0_tons x0_way x0_steps x0_met x0_queue x0_totals, gridI d r0_line 20 7 x0_line, gridI d r0_good 8 3 x0_good, gridI d r0_work 7 5 x0_work, gMd d u1.1 none none none u1.2.1 u1.2.2.1 u1.2.2.2.1 u1.2.2.2.2 (fun _ => 0) (fun _ => 0) (fun _ => 0) (fun _ => 0) (fun _ => 0) (fun _ => 0) (0) (fun _ => 0) g38 g40 g41 g42 g44 g46 g47 g48 (0) (0) (0) (0) (0) (fun _ => 0) (0) g49 g50 g51 (fun _ => 0) (0) (0) (fun _ => 0) (fun _ => 0), gridJ d u1.2.1 8 40 (fun _ _ => 0), gridI d u1.2.2.1 20 7 g39, gridI d u1.2.2.2.1 8 3 g43, gridI d u1.2.2.2.2 7 5 g45]) (st' := fun u1 => [.int v36]) (st := []) hK qd4_74.2.2.2.2.1 cv_RX7_322 iv_yX7_oneWidth (As := [.int z5, .int p1]) (kX7_oneWidthNt _ d h0 r0_rows r0_line r0_good r0_work a0_kept a0_chosen n x0_shelf x0_rowSort x0_rowSize x0_rows x0_moved x0_shown x0_tape x0_tapeSize x0_refused x0_lines x0_line x0_changes x0_coins x0_goods x0_good x0_works x0_work x0_years x0_gone x0_spent x0_at x0_token x0_from x0_figures x0_fault x0_numbers x0_statements x0_left x0_far x0_tons x0_way x0_steps x0_met x0_queue x0_totals z5 p1 e52) rfl rfl (Nat.le_of_ble_eq_true rfl) (by decide) 0 0 rfl rfl rfl [0, 1, 2, 3] [] rfl (by decide +kernel) rfl rfl [0, 1, 2, 3, 4, 5, 6, 7, 8] (by decide +kernel) (fun _ => rfl) (fun _ => rfl) rfl rfl rfl (fun _ => rfl) (fun u1 => ?_)
          refine J_aload_n hK qd4_74.2.2.2.2.2.1 rfl 0 rfl rfl ?_
          refine J_iload_n hK qd4_74.2.2.2.2.2.2.1 rfl 2 rfl rfl ?_
          refine J_iload_n hK qd4_74.2.2.2.2.2.2.2.1 rfl 1 rfl rfl ?_
          obtain ⟨⟨v53, ⟨g55, g56, g57, g58, g59, g60, g61, g62, g63, g64, g65, g66, g67, g68⟩⟩, e69, hs3⟩ := bs hs3
          have hs3 := un2 hs3
          have hs3 := un14 hs3
          refine J_callV (m := 9) (m' := 9) (ce' := 63) (sl' := 1204) (gr := [gridJ d u1.2.1 8 40 (fun _ _ => 0)]) (gs' := fun _ => [gMd d h0 a0_kept (some (u1.1 0)) a0_chosen r0_rows r0_line r0_good r0_work x0_shelf x0_rowSort x0_rowSize x0_moved x0_shown x0_tape x0_tapeSize x0_refused x0_lines x0_changes x0_coins x0_goods x0_works x0_years x0_gone x0_spent x0_at x0_token x0_from x0_figures x0_fault x0_numbers x0_statements x0_left x0_far x0_tons x0_way x0_steps x0_met x0_queue x0_totals, gridI d r0_line 20 7 x0_line, gridI d r0_good 8 3 x0_good, gridI d r0_work 7 5 x0_work, gMd d u1.1 none none none u1.2.1 u1.2.2.1 u1.2.2.2.1 u1.2.2.2.2 (fun _ => 0) (fun _ => 0) (fun _ => 0) (fun _ => 0) (fun _ => 0) (fun _ => 0) (0) (fun _ => 0) g55 g57 g58 g59 g61 g63 g64 g65 (0) (0) (0) (0) (0) (fun _ => 0) (0) g66 g67 g68 (fun _ => 0) (0) (0) (fun _ => 0) (fun _ => 0), gridJ d u1.2.1 8 40 (fun _ _ => 0), gridI d u1.2.2.1 20 7 g56, gridI d u1.2.2.2.1 8 3 g60, gridI d u1.2.2.2.2 7 5 g62]) (st' := fun _ => [.int v53, .int v36]) (st := [.int v36]) hK qd4_74.2.2.2.2.2.2.2.2.1 cv_RX7_322 iv_yX7_oneWidth (As := [.int z4, .int p1]) (kX7_oneWidth _ d h0 r0_rows r0_line r0_good r0_work a0_kept a0_chosen u1.1 u1.2.1 u1.2.2.1 u1.2.2.2.1 u1.2.2.2.2 none none none n x0_shelf x0_rowSort x0_rowSize x0_rows x0_moved x0_shown x0_tape x0_tapeSize x0_refused x0_lines x0_line x0_changes x0_coins x0_goods x0_good x0_works x0_work x0_years x0_gone x0_spent x0_at x0_token x0_from x0_figures x0_fault x0_numbers x0_statements x0_left x0_far x0_tons x0_way x0_steps x0_met x0_queue x0_totals (fun _ => 0) (fun _ => 0) (fun _ => 0) (fun _ _ => 0) (fun _ => 0) (fun _ => 0) (fun _ => 0) (0) (fun _ => 0) g38 g39 g40 g41 g42 g43 g44 g45 g46 g47 g48 (0) (0) (0) (0) (0) (fun _ => 0) (0) g49 g50 g51 (fun _ => 0) (0) (0) (fun _ => 0) (fun _ => 0) z4 p1 e69) rfl rfl (Nat.le_of_ble_eq_true rfl) (by decide) 0 0 rfl rfl rfl [0, 1, 2, 3, 4, 6, 7, 8] [5] rfl (by decide +kernel) rfl rfl [1, 2, 3, 4, 5, 0, 6, 7, 8] (by decide +kernel) (fun _ => rfl) (fun _ => rfl) rfl rfl rfl (fun _ => rfl) (fun _ => ?_)
          refine J_icmp_ge (tg := 47) hK qd4_74.2.2.2.2.2.2.2.2.2.1 rfl rfl (fun hc40 => ?_) (fun hc40 => ?_)
          · have hs3 := ip hc40 hs3
            refine J_iload_n hK qd4_74.2.2.2.2.2.2.2.2.2.2.2.2.1 rfl 2 rfl rfl ?_
            refine J_istore_n (L' := [(2, .int z4), (0, .ref (h0 0)), (1, .int p1), (3, .int z5)]) hK qd4_74.2.2.2.2.2.2.2.2.2.2.2.2.2.1 rfl rfl (by decide) rfl ?_
            refine J_iinc (L' := [(3, .int (z5 + 1)), (2, .int z4), (0, .ref (h0 0)), (1, .int p1)]) (v := (z5 + 1)) hK qd4_74.2.2.2.2.2.2.2.2.2.2.2.2.2.2.1 rfl 3 rfl rfl (by decide) rfl ?_
            refine J_goto hK qd4_74.2.2.2.2.2.2.2.2.2.2.2.2.2.2.2.1 (n := 23) rfl ?_
            exact J_loc [2, 3, 1, 0] rfl (lo3P k u1 z4 (z5 + 1) g55 g56 g57 g58 g59 g60 g61 g62 g63 g64 g65 g66 g67 g68 (lpc hs3 hr3))
          · have hs3 := iq hc40 hs3
            refine J_iload_n hK qd4_74.2.2.2.2.2.2.2.2.2.2.1 rfl 3 rfl rfl ?_
            refine J_goto hK qd4_74.2.2.2.2.2.2.2.2.2.2.2.1 (n := 48) rfl ?_
            refine J_istore_n (L' := [(2, .int z5), (0, .ref (h0 0)), (1, .int p1), (3, .int z5)]) hK qd4_74.2.2.2.2.2.2.2.2.2.2.2.2.2.1 rfl rfl (by decide) rfl ?_
            refine J_iinc (L' := [(3, .int (z5 + 1)), (2, .int z5), (0, .ref (h0 0)), (1, .int p1)]) (v := (z5 + 1)) hK qd4_74.2.2.2.2.2.2.2.2.2.2.2.2.2.2.1 rfl 3 rfl rfl (by decide) rfl ?_
            refine J_goto hK qd4_74.2.2.2.2.2.2.2.2.2.2.2.2.2.2.2.1 (n := 23) rfl ?_
            exact J_loc [2, 3, 1, 0] rfl (lo3P k u1 z5 (z5 + 1) g55 g56 g57 g58 g59 g60 g61 g62 g63 g64 g65 g66 g67 g68 (lpc hs3 hr3))
    exact J_loc [2, 3, 1, 0] rfl (lo3N n (0) (1) hl3)
  · have hf := ip hc9 hf
    refine J_aload_n hK qd4_73.2.2.2.2.2.2.1 rfl 0 rfl rfl ?_
    refine J_bipush (v := (-2)) hK qd4_73.2.2.2.2.2.2.2.1 rfl (by decide) ?_
    obtain ⟨⟨v70, g71⟩, e72, hf⟩ := bs hf
    have hf := un2 hf
    refine J_callV (m := 4) (m' := 4) (ce' := 0) (sl' := 0) (gr := [gridI d r0_line 20 7 x0_line, gridI d r0_good 8 3 x0_good, gridI d r0_work 7 5 x0_work]) (gs' := fun _ => [gMd d h0 a0_kept none a0_chosen r0_rows r0_line r0_good r0_work x0_shelf x0_rowSort x0_rowSize x0_moved x0_shown x0_tape x0_tapeSize g71 x0_lines x0_changes x0_coins x0_goods x0_works x0_years x0_gone x0_spent x0_at x0_token x0_from x0_figures x0_fault x0_numbers x0_statements x0_left x0_far x0_tons x0_way x0_steps x0_met x0_queue x0_totals, gridI d r0_line 20 7 x0_line, gridI d r0_good 8 3 x0_good, gridI d r0_work 7 5 x0_work]) (st' := fun _ => [.int v70]) (st := []) hK qd4_73.2.2.2.2.2.2.2.2.1 cv_RX7_94 iv_yX7_refuse (As := [.int (-2)]) (kX7_refuse _ d h0 r0_rows r0_line r0_good r0_work a0_kept none a0_chosen x0_shelf x0_rowSort x0_rowSize x0_rows x0_moved x0_shown x0_tape x0_tapeSize x0_refused x0_lines x0_line x0_changes x0_coins x0_goods x0_good x0_works x0_work x0_years x0_gone x0_spent x0_at x0_token x0_from x0_figures x0_fault x0_numbers x0_statements x0_left x0_far x0_tons x0_way x0_steps x0_met x0_queue x0_totals (-2) e72) rfl rfl (Nat.le_of_ble_eq_true rfl) (by decide) 0 0 rfl rfl rfl [0] [1, 2, 3] rfl (by decide +kernel) rfl rfl [3, 0, 1, 2] (by decide +kernel) (fun _ => rfl) (fun _ => rfl) rfl rfl rfl (fun _ => rfl) (fun _ => ?_)
    obtain rfl := Option.some.inj hf
    refine J_fl (gs2 := [gMd d h0 a0_kept none a0_chosen r0_rows r0_line r0_good r0_work x0_shelf x0_rowSort x0_rowSize x0_moved x0_shown x0_tape x0_tapeSize g71 x0_lines x0_changes x0_coins x0_goods x0_works x0_years x0_gone x0_spent x0_at x0_token x0_from x0_figures x0_fault x0_numbers x0_statements x0_left x0_far x0_tons x0_way x0_steps x0_met x0_queue x0_totals, gridI d r0_line 20 7 x0_line, gridI d r0_good 8 3 x0_good, gridI d r0_work 7 5 x0_work, oMd d none none none none (fun _ => 0) (fun _ => 0) (fun _ => 0) (fun _ _ => 0) (fun _ => 0) (fun _ => 0) (fun _ => 0) (0) (fun _ => 0) (0) (fun _ _ => 0) (fillV 12 9 (fun _ => 0)) (va_up (va_up (va_up (fun _ => 0) 0 1) 1 1) 2 1) (0) (fun _ _ => 0) (0) (fun _ _ => 0) (10) (0) (0) (0) (0) (0) (0) (0) (fun _ => 0) (0) (fun _ => 0) (fun _ => 0) (0) (fun _ => 0) (0) (0) (fun _ => 0) (fun _ => 0)]) rfl ?_
    exact J_iret hK hR qd4_73.2.2.2.2.2.2.2.2.2.1 ⟨none, fun _ => rfl⟩ rfl (by decide) (by decide)
end

def fX7_earned_j68 (x0_line : (Nat → Nat → Int32)) (x0_good : (Nat → Nat → Int32)) (z3 : Int32) (g25 : (Nat → Int32)) (z31 : Int32) (z32 : Int32) (y36 : Int32) : Option ((Int32 × Int32) ⊕ (Int32)) :=
  if y36 = 0 then (some (.inl ((z31 + 0), (z32 + 1)))) else ((ck z3 8).bind fun q37 => (rd 3 (x0_good q37) (2)).bind fun v38 => (rd 37 g25 z32).bind fun v39 => (ck (v39 - 3) 20).bind fun q40 => (rd 7 (x0_line q40) (3)).bind fun v41 => some (.inl ((z31 + (v38 * v41)), (z32 + 1))))
def fX7_earned_j67 (x0_line : (Nat → Nat → Int32)) (x0_good : (Nat → Nat → Int32)) (z3 : Int32) (g25 : (Nat → Int32)) (z31 : Int32) (z32 : Int32) : Option ((Int32 × Int32) ⊕ (Int32)) :=
  fX7_earned_j68 x0_line x0_good z3 g25 z31 z32 (0)
def fX7_earned_s23 (p1 : Int32) (x0_line : (Nat → Nat → Int32)) (x0_good : (Nat → Nat → Int32)) (z3 : Int32) (g25 : (Nat → Int32)) (g26 : Int32) (z31 : Int32) (z32 : Int32) : Option ((Int32 × Int32) ⊕ (Int32)) :=
  if g26 ≤ z32 then (some (.inr z31)) else ((rd 37 g25 z32).bind fun v35 => if v35 < 3 then (fX7_earned_j67 x0_line x0_good z3 g25 z31 z32) else ((rd 37 g25 z32).bind fun v42 => (ck (v42 - 3) 20).bind fun q43 => (rd 7 (x0_line q43) (5)).bind fun v44 => if v44 = p1 then (fX7_earned_j68 x0_line x0_good z3 g25 z31 z32 (1)) else (fX7_earned_j67 x0_line x0_good z3 g25 z31 z32)))
def fX7_earned_s4 (n : Nat) (p1 : Int32) (x0_shelf : (Nat → Int32)) (x0_rowSort : (Nat → Int32)) (x0_rowSize : (Nat → Int32)) (x0_rows : (Nat → Nat → Int64)) (x0_moved : (Nat → Int64)) (x0_shown : (Nat → Int32)) (x0_tape : (Nat → Int32)) (x0_tapeSize : Int32) (x0_refused : (Nat → Int32)) (x0_lines : Int32) (x0_line : (Nat → Nat → Int32)) (x0_changes : (Nat → Int32)) (x0_coins : (Nat → Int32)) (x0_goods : Int32) (x0_good : (Nat → Nat → Int32)) (x0_works : Int32) (x0_work : (Nat → Nat → Int32)) (x0_years : Int32) (x0_gone : Int32) (x0_spent : Int32) (x0_at : Int32) (x0_token : Int32) (x0_from : Int32) (x0_figures : Int64) (x0_fault : Int32) (x0_numbers : (Nat → Int32)) (x0_statements : Int32) (x0_totals : (Nat → Int32)) (z2 : Int32) (z3 : Int32) (z4 : (Nat → Int32)) (z5 : (Nat → Int32)) (z6 : Int32) (z7 : (Nat → Int32)) (z8 : Int32) (z9 : Int64) (z10 : (Nat → Int32)) : Option ((Int32 × Int32 × (Nat → Int32) × (Nat → Int32) × Int32 × (Nat → Int32) × Int32 × Int64 × (Nat → Int32)) ⊕ (Int32 × (Nat → Int32) × (Nat → Int32) × Int32 × (Nat → Int32) × Int32 × Int64 × (Nat → Int32))) :=
  if x0_goods ≤ z3 then (some (.inr (z2, z4, z5, z6, z7, z8, z9, z10))) else ((fX7_findGoods n (x0_shelf, x0_rowSort, x0_rowSize, x0_rows, x0_moved, x0_shown, x0_tape, x0_tapeSize, x0_refused, x0_lines, x0_line, x0_changes, x0_coins, x0_goods, x0_good, x0_works, x0_work, x0_years, x0_gone, x0_spent, x0_at, x0_token, x0_from, x0_figures, x0_fault, x0_numbers, x0_statements, z4, z5, z6, z7, z8, z9, z10, x0_totals) z3).bind (u2 fun v20 G21 => u7 (fun g22 g23 g24 g25 g26 g27 g28 => if v20 = 0 then (some (.inl (z2, (z3 + 1), g22, g23, g24, g25, g26, g27, g28))) else ((lp (u2 (fX7_earned_s23 p1 x0_line x0_good z3 g25 g26)) n (z2, 1)).bind (fun w34 => some (.inl (w34, (z3 + 1), g22, g23, g24, g25, g26, g27, g28))))) G21))
def fX7_earned (n : Nat) (X0 : MdT) (p1 : Int32) : Option (Int32 × ((Nat → Int32) × (Nat → Int32) × Int32 × (Nat → Int32) × Int32 × Int64 × (Nat → Int32))) :=
  u35 (fun (x0_shelf : (Nat → Int32)) (x0_rowSort : (Nat → Int32)) (x0_rowSize : (Nat → Int32)) (x0_rows : (Nat → Nat → Int64)) (x0_moved : (Nat → Int64)) (x0_shown : (Nat → Int32)) (x0_tape : (Nat → Int32)) (x0_tapeSize : Int32) (x0_refused : (Nat → Int32)) (x0_lines : Int32) (x0_line : (Nat → Nat → Int32)) (x0_changes : (Nat → Int32)) (x0_coins : (Nat → Int32)) (x0_goods : Int32) (x0_good : (Nat → Nat → Int32)) (x0_works : Int32) (x0_work : (Nat → Nat → Int32)) (x0_years : Int32) (x0_gone : Int32) (x0_spent : Int32) (x0_at : Int32) (x0_token : Int32) (x0_from : Int32) (x0_figures : Int64) (x0_fault : Int32) (x0_numbers : (Nat → Int32)) (x0_statements : Int32) (x0_left : (Nat → Int32)) (x0_far : (Nat → Int32)) (x0_tons : Int32) (x0_way : (Nat → Int32)) (x0_steps : Int32) (x0_met : Int64) (x0_queue : (Nat → Int32)) (x0_totals : (Nat → Int32)) => (lp (u9 (fX7_earned_s4 n p1 x0_shelf x0_rowSort x0_rowSize x0_rows x0_moved x0_shown x0_tape x0_tapeSize x0_refused x0_lines x0_line x0_changes x0_coins x0_goods x0_good x0_works x0_work x0_years x0_gone x0_spent x0_at x0_token x0_from x0_figures x0_fault x0_numbers x0_statements x0_totals)) n (0, 0, x0_left, x0_far, x0_tons, x0_way, x0_steps, x0_met, x0_queue)).bind (u8 fun w12 w13 w14 w15 w16 w17 w18 w19 => some (w12, (w13, w14, w15, w16, w17, w18, w19)))) X0
set_option maxHeartbeats 4000000 in
set_option maxRecDepth 100000 in
theorem kX7_earned (l : Launch) (d : DT) (h0 : Nat → Nat) (r0_rows : Nat → Nat) (r0_line : Nat → Nat) (r0_good : Nat → Nat) (r0_work : Nat → Nat) (a0_kept : Option Nat) (a0_tried : Option Nat) (a0_chosen : Option Nat) (n : Nat) (x0_shelf : (Nat → Int32)) (x0_rowSort : (Nat → Int32)) (x0_rowSize : (Nat → Int32)) (x0_rows : (Nat → Nat → Int64)) (x0_moved : (Nat → Int64)) (x0_shown : (Nat → Int32)) (x0_tape : (Nat → Int32)) (x0_tapeSize : Int32) (x0_refused : (Nat → Int32)) (x0_lines : Int32) (x0_line : (Nat → Nat → Int32)) (x0_changes : (Nat → Int32)) (x0_coins : (Nat → Int32)) (x0_goods : Int32) (x0_good : (Nat → Nat → Int32)) (x0_works : Int32) (x0_work : (Nat → Nat → Int32)) (x0_years : Int32) (x0_gone : Int32) (x0_spent : Int32) (x0_at : Int32) (x0_token : Int32) (x0_from : Int32) (x0_figures : Int64) (x0_fault : Int32) (x0_numbers : (Nat → Int32)) (x0_statements : Int32) (x0_left : (Nat → Int32)) (x0_far : (Nat → Int32)) (x0_tons : Int32) (x0_way : (Nat → Int32)) (x0_steps : Int32) (x0_met : Int64) (x0_queue : (Nat → Int32)) (x0_totals : (Nat → Int32)) (p1 : Int32)  {out : Int32 × ((Nat → Int32) × (Nat → Int32) × Int32 × (Nat → Int32) × Int32 × Int64 × (Nat → Int32))} (hf : fX7_earned n (x0_shelf, x0_rowSort, x0_rowSize, x0_rows, x0_moved, x0_shown, x0_tape, x0_tapeSize, x0_refused, x0_lines, x0_line, x0_changes, x0_coins, x0_goods, x0_good, x0_works, x0_work, x0_years, x0_gone, x0_spent, x0_at, x0_token, x0_from, x0_figures, x0_fault, x0_numbers, x0_statements, x0_left, x0_far, x0_tons, x0_way, x0_steps, x0_met, x0_queue, x0_totals) p1 = some out) : Ct l d yX7_earned cX7_earned 6 (some .int) { frames := 5, cells := 0, slots := 0, locals := 123 } [.ref (h0 0), .int p1] [gMd d h0 a0_kept a0_tried a0_chosen r0_rows r0_line r0_good r0_work x0_shelf x0_rowSort x0_rowSize x0_moved x0_shown x0_tape x0_tapeSize x0_refused x0_lines x0_changes x0_coins x0_goods x0_works x0_years x0_gone x0_spent x0_at x0_token x0_from x0_figures x0_fault x0_numbers x0_statements x0_left x0_far x0_tons x0_way x0_steps x0_met x0_queue x0_totals, gridI d r0_line 20 7 x0_line, gridI d r0_good 8 3 x0_good] (fun _ : Unit => (some (.int out.1), [gMd d h0 a0_kept a0_tried a0_chosen r0_rows r0_line r0_good r0_work x0_shelf x0_rowSort x0_rowSize x0_moved x0_shown x0_tape x0_tapeSize x0_refused x0_lines x0_changes x0_coins x0_goods x0_works x0_years x0_gone x0_spent x0_at x0_token x0_from x0_figures x0_fault x0_numbers x0_statements (out.2.1) (out.2.2.1) (out.2.2.2.1) (out.2.2.2.2.1) (out.2.2.2.2.2.1) (out.2.2.2.2.2.2.1) (out.2.2.2.2.2.2.2) x0_totals, gridI d r0_line 20 7 x0_line, gridI d r0_good 8 3 x0_good])) := by
  refine Ct.of (by decide) (Nat.le_of_ble_eq_true rfl) ?_
  intro Φ hl hK hR
  subst hl
  have hK : Ok d Φ RX7 "earned" cX7_earned 6 (some .int) { frames := 5, cells := 0, slots := 0, locals := 123 } := hK
  unfold fX7_earned at hf
  have hf := un35 hf
  show J d Φ 6 [gMd d h0 a0_kept a0_tried a0_chosen r0_rows r0_line r0_good r0_work x0_shelf x0_rowSort x0_rowSize x0_moved x0_shown x0_tape x0_tapeSize x0_refused x0_lines x0_changes x0_coins x0_goods x0_works x0_years x0_gone x0_spent x0_at x0_token x0_from x0_figures x0_fault x0_numbers x0_statements x0_left x0_far x0_tons x0_way x0_steps x0_met x0_queue x0_totals, gridI d r0_line 20 7 x0_line, gridI d r0_good 8 3 x0_good] 0 0 0 [(0, .ref (h0 0)), (1, .int p1)] []
  refine J_iconst (v := 0) hK dX7_earned_0 rfl (by decide) ?_
  refine J_istore_n (L' := [(2, .int (0)), (0, .ref (h0 0)), (1, .int p1)]) hK dX7_earned_1 rfl rfl (by decide) rfl ?_
  refine J_iconst (v := 0) hK dX7_earned_2 rfl (by decide) ?_
  refine J_istore_n (L' := [(3, .int (0)), (2, .int (0)), (0, .ref (h0 0)), (1, .int p1)]) hK dX7_earned_3 rfl rfl (by decide) rfl ?_
  obtain ⟨e11, hl1, hf⟩ := bs hf
  have hx1_119 : ∀ (w12 : Int32) (w13 : (Nat → Int32)) (w14 : (Nat → Int32)) (w15 : Int32) (w16 : (Nat → Int32)) (w17 : Int32) (w18 : Int64) (w19 : (Nat → Int32)), (w12, w13, w14, w15, w16, w17, w18, w19) = e11 → J d Φ 6 [gMd d h0 a0_kept a0_tried a0_chosen r0_rows r0_line r0_good r0_work x0_shelf x0_rowSort x0_rowSize x0_moved x0_shown x0_tape x0_tapeSize x0_refused x0_lines x0_changes x0_coins x0_goods x0_works x0_years x0_gone x0_spent x0_at x0_token x0_from x0_figures x0_fault x0_numbers x0_statements w13 w14 w15 w16 w17 w18 w19 x0_totals, gridI d r0_line 20 7 x0_line, gridI d r0_good 8 3 x0_good] 0 0 119 [(2, .int w12)] [] := by
    intro w12 w13 w14 w15 w16 w17 w18 w19 he
    rw [← he] at hf
    have hf := un8 hf
    refine J_iload_n hK dX7_earned_119 rfl 0 rfl rfl ?_
    obtain rfl := Option.some.inj hf
    exact J_iret hK hR dX7_earned_120 () rfl (by decide) (by decide)
  have lo1 : ∀ (k : Nat) (z2 : Int32) (z3 : Int32) (z4 : (Nat → Int32)) (z5 : (Nat → Int32)) (z6 : Int32) (z7 : (Nat → Int32)) (z8 : Int32) (z9 : Int64) (z10 : (Nat → Int32)), lp (u9 (fX7_earned_s4 n p1 x0_shelf x0_rowSort x0_rowSize x0_rows x0_moved x0_shown x0_tape x0_tapeSize x0_refused x0_lines x0_line x0_changes x0_coins x0_goods x0_good x0_works x0_work x0_years x0_gone x0_spent x0_at x0_token x0_from x0_figures x0_fault x0_numbers x0_statements x0_totals)) k (z2, z3, z4, z5, z6, z7, z8, z9, z10) = some e11 → J d Φ 6 [gMd d h0 a0_kept a0_tried a0_chosen r0_rows r0_line r0_good r0_work x0_shelf x0_rowSort x0_rowSize x0_moved x0_shown x0_tape x0_tapeSize x0_refused x0_lines x0_changes x0_coins x0_goods x0_works x0_years x0_gone x0_spent x0_at x0_token x0_from x0_figures x0_fault x0_numbers x0_statements z4 z5 z6 z7 z8 z9 z10 x0_totals, gridI d r0_line 20 7 x0_line, gridI d r0_good 8 3 x0_good] 0 0 4 [(0, .ref (h0 0)), (1, .int p1), (2, .int z2), (3, .int z3)] [] := by
    intro k
    induction k with
    | zero => intro z2 z3 z4 z5 z6 z7 z8 z9 z10 h; cases h
    | succ k ih1 =>
      intro z2 z3 z4 z5 z6 z7 z8 z9 z10 h
      obtain ⟨k2, rr1, hk2, hs1, hr1⟩ := lp_ok h
      cases hk2
      have hs1 : fX7_earned_s4 n p1 x0_shelf x0_rowSort x0_rowSize x0_rows x0_moved x0_shown x0_tape x0_tapeSize x0_refused x0_lines x0_line x0_changes x0_coins x0_goods x0_good x0_works x0_work x0_years x0_gone x0_spent x0_at x0_token x0_from x0_figures x0_fault x0_numbers x0_statements x0_totals z2 z3 z4 z5 z6 z7 z8 z9 z10 = some rr1 := hs1
      unfold fX7_earned_s4 at hs1
      refine J_iload_n hK dX7_earned_4 rfl 3 rfl rfl ?_
      refine J_aload_n hK dX7_earned_5 rfl 0 rfl rfl ?_
      refine J_get hK fo_RX7_125 dX7_earned_6 rfl 0 0 rfl rfl rfl ?_
      refine J_icmp_ge (tg := 119) hK dX7_earned_9 rfl rfl (fun hc9 => ?_) (fun hc9 => ?_)
      · have hs1 := ip hc9 hs1
        exact J_loc [2] rfl (hx1_119 z2 z4 z5 z6 z7 z8 z9 z10 (lpx hs1 hr1))
      · have hs1 := iq hc9 hs1
        refine J_aload_n hK dX7_earned_12 rfl 0 rfl rfl ?_
        refine J_iload_n hK dX7_earned_13 rfl 3 rfl rfl ?_
        obtain ⟨⟨v20, ⟨g22, g23, g24, g25, g26, g27, g28⟩⟩, e29, hs1⟩ := bs hs1
        have hs1 := un2 hs1
        have hs1 := un7 hs1
        refine J_callV (m' := 3) (ce' := 0) (sl' := 0) (gr := []) (gs' := fun _ => [gMd d h0 a0_kept a0_tried a0_chosen r0_rows r0_line r0_good r0_work x0_shelf x0_rowSort x0_rowSize x0_moved x0_shown x0_tape x0_tapeSize x0_refused x0_lines x0_changes x0_coins x0_goods x0_works x0_years x0_gone x0_spent x0_at x0_token x0_from x0_figures x0_fault x0_numbers x0_statements g22 g23 g24 g25 g26 g27 g28 x0_totals, gridI d r0_line 20 7 x0_line, gridI d r0_good 8 3 x0_good]) (st' := fun _ => [.int v20]) (st := []) hK dX7_earned_14 cv_RX7_282 iv_yX7_findGoods (As := [.int z3]) (kX7_findGoods _ d h0 r0_rows r0_line r0_good r0_work a0_kept a0_tried a0_chosen n x0_shelf x0_rowSort x0_rowSize x0_rows x0_moved x0_shown x0_tape x0_tapeSize x0_refused x0_lines x0_line x0_changes x0_coins x0_goods x0_good x0_works x0_work x0_years x0_gone x0_spent x0_at x0_token x0_from x0_figures x0_fault x0_numbers x0_statements z4 z5 z6 z7 z8 z9 z10 x0_totals z3 e29) rfl rfl (Nat.le_of_ble_eq_true rfl) (by decide) 0 0 rfl rfl rfl [0, 1, 2] [] rfl rfl rfl rfl [0, 1, 2] rfl (fun _ => rfl) (fun _ => rfl) rfl rfl rfl (fun _ => rfl) (fun _ => ?_)
        refine J_if_eq (tg := 113) hK dX7_earned_17 rfl rfl (fun hc17 => ?_) (fun hc17 => ?_)
        · have hs1 := ip hc17 hs1
          refine J_iinc (L' := [(3, .int (z3 + 1)), (0, .ref (h0 0)), (1, .int p1), (2, .int z2)]) (v := (z3 + 1)) hK dX7_earned_113 rfl 3 rfl rfl (by decide) rfl ?_
          refine J_goto hK dX7_earned_116 (n := 4) rfl ?_
          exact J_loc [1, 2, 3, 0] rfl (ih1 z2 (z3 + 1) g22 g23 g24 g25 g26 g27 g28 (lpc hs1 hr1))
        · have hs1 := iq hc17 hs1
          refine J_iconst (v := 1) hK dX7_earned_20 rfl (by decide) ?_
          refine J_istore (L' := [(4, .int (1)), (0, .ref (h0 0)), (1, .int p1), (2, .int z2), (3, .int z3)]) hK dX7_earned_21 rfl (by decide) rfl ?_
          obtain ⟨e33, hl30, hs1⟩ := bs hs1
          have hx30_113 : ∀ (w34 : Int32), w34 = e33 → J d Φ 6 [gMd d h0 a0_kept a0_tried a0_chosen r0_rows r0_line r0_good r0_work x0_shelf x0_rowSort x0_rowSize x0_moved x0_shown x0_tape x0_tapeSize x0_refused x0_lines x0_changes x0_coins x0_goods x0_works x0_years x0_gone x0_spent x0_at x0_token x0_from x0_figures x0_fault x0_numbers x0_statements g22 g23 g24 g25 g26 g27 g28 x0_totals, gridI d r0_line 20 7 x0_line, gridI d r0_good 8 3 x0_good] 0 0 113 [(0, .ref (h0 0)), (1, .int p1), (2, .int w34), (3, .int z3)] [] := by
            intro w34 he
            rw [← he] at hs1
            refine J_iinc (L' := [(3, .int (z3 + 1)), (0, .ref (h0 0)), (1, .int p1), (2, .int w34)]) (v := (z3 + 1)) hK dX7_earned_113 rfl 3 rfl rfl (by decide) rfl ?_
            refine J_goto hK dX7_earned_116 (n := 4) rfl ?_
            exact J_loc [1, 2, 3, 0] rfl (ih1 w34 (z3 + 1) g22 g23 g24 g25 g26 g27 g28 (lpc hs1 hr1))
          have lo30 : ∀ (k : Nat) (z31 : Int32) (z32 : Int32), lp (u2 (fX7_earned_s23 p1 x0_line x0_good z3 g25 g26)) k (z31, z32) = some e33 → J d Φ 6 [gMd d h0 a0_kept a0_tried a0_chosen r0_rows r0_line r0_good r0_work x0_shelf x0_rowSort x0_rowSize x0_moved x0_shown x0_tape x0_tapeSize x0_refused x0_lines x0_changes x0_coins x0_goods x0_works x0_years x0_gone x0_spent x0_at x0_token x0_from x0_figures x0_fault x0_numbers x0_statements g22 g23 g24 g25 g26 g27 g28 x0_totals, gridI d r0_line 20 7 x0_line, gridI d r0_good 8 3 x0_good] 0 0 23 [(0, .ref (h0 0)), (1, .int p1), (2, .int z31), (3, .int z3), (4, .int z32)] [] := by
            intro k
            induction k with
            | zero => intro z31 z32 h; cases h
            | succ k ih30 =>
              intro z31 z32 h
              obtain ⟨k2, rr30, hk2, hs30, hr30⟩ := lp_ok h
              cases hk2
              have hs30 : fX7_earned_s23 p1 x0_line x0_good z3 g25 g26 z31 z32 = some rr30 := hs30
              unfold fX7_earned_s23 at hs30
              refine J_iload hK dX7_earned_23 rfl 4 rfl ?_
              refine J_aload_n hK dX7_earned_25 rfl 0 rfl rfl ?_
              refine J_get hK fo_RX7_267 dX7_earned_26 rfl 0 0 rfl rfl rfl ?_
              refine J_icmp_ge (tg := 113) hK dX7_earned_29 rfl rfl (fun hc29 => ?_) (fun hc29 => ?_)
              · have hs30 := ip hc29 hs30
                exact J_loc [0, 1, 2, 3] rfl (hx30_113 z31 (lpx hs30 hr30))
              · have hs30 := iq hc29 hs30
                refine J_aload_n hK dX7_earned_32 rfl 0 rfl rfl ?_
                refine J_get hK fo_RX7_67 dX7_earned_33 rfl 0 0 rfl rfl rfl ?_
                refine J_iload hK dX7_earned_36 rfl 4 rfl ?_
                obtain ⟨v35, ev35, hs30⟩ := bs hs30
                refine J_iald hK dX7_earned_38 rfl 0 17 rfl rfl ev35 ?_
                refine J_iconst (v := 3) hK dX7_earned_39 rfl (by decide) ?_
                have j68 : ∀ (y36 : Int32), fX7_earned_j68 x0_line x0_good z3 g25 z31 z32 y36 = some rr30 → J d Φ 6 [gMd d h0 a0_kept a0_tried a0_chosen r0_rows r0_line r0_good r0_work x0_shelf x0_rowSort x0_rowSize x0_moved x0_shown x0_tape x0_tapeSize x0_refused x0_lines x0_changes x0_coins x0_goods x0_works x0_years x0_gone x0_spent x0_at x0_token x0_from x0_figures x0_fault x0_numbers x0_statements g22 g23 g24 g25 g26 g27 g28 x0_totals, gridI d r0_line 20 7 x0_line, gridI d r0_good 8 3 x0_good] 0 0 68 [(0, .ref (h0 0)), (1, .int p1), (2, .int z31), (3, .int z3), (4, .int z32)] [.int y36] := by
                  intro y36 hs30
                  unfold fX7_earned_j68 at hs30
                  refine J_istore (L' := [(5, .int y36), (0, .ref (h0 0)), (1, .int p1), (2, .int z31), (3, .int z3), (4, .int z32)]) hK dX7_earned_68 rfl (by decide) rfl ?_
                  refine J_iload_n hK dX7_earned_70 rfl 3 rfl rfl ?_
                  refine J_iload hK dX7_earned_71 rfl 0 rfl ?_
                  refine J_if_eq (tg := 104) hK dX7_earned_73 rfl rfl (fun hc73 => ?_) (fun hc73 => ?_)
                  · have hs30 := ip hc73 hs30
                    refine J_iconst (v := 0) hK dX7_earned_104 rfl (by decide) ?_
                    refine J_iadd hK dX7_earned_105 rfl ?_
                    refine J_istore_n (L' := [(2, .int (z31 + 0)), (5, .int y36), (0, .ref (h0 0)), (1, .int p1), (3, .int z3), (4, .int z32)]) hK dX7_earned_106 rfl rfl (by decide) rfl ?_
                    refine J_iinc (L' := [(4, .int (z32 + 1)), (2, .int (z31 + 0)), (5, .int y36), (0, .ref (h0 0)), (1, .int p1), (3, .int z3)]) (v := (z32 + 1)) hK dX7_earned_107 rfl 5 rfl rfl (by decide) rfl ?_
                    refine J_goto hK dX7_earned_110 (n := 23) rfl ?_
                    exact J_loc [3, 4, 1, 5, 0] rfl (ih30 (z31 + 0) (z32 + 1) (lpc hs30 hr30))
                  · have hs30 := iq hc73 hs30
                    refine J_aload_n hK dX7_earned_76 rfl 1 rfl rfl ?_
                    refine J_get hK fo_RX7_48 dX7_earned_77 rfl 0 0 rfl rfl rfl ?_
                    refine J_iload_n hK dX7_earned_80 rfl 4 rfl rfl ?_
                    obtain ⟨q37, eq37, hs30⟩ := bs hs30
                    refine J_aald hK dX7_earned_81 rfl 0 12 rfl rfl rfl eq37 ?_
                    refine J_iconst (v := 2) hK dX7_earned_82 rfl (by decide) ?_
                    obtain ⟨v38, ev38, hs30⟩ := bs hs30
                    refine J_iald hK dX7_earned_83 rfl 2 q37 rfl (gridI_at (ck_ok eq37).2.2) ev38 ?_
                    refine J_aload_n hK dX7_earned_84 rfl 1 rfl rfl ?_
                    refine J_get hK fo_RX7_39 dX7_earned_85 rfl 0 0 rfl rfl rfl ?_
                    refine J_aload_n hK dX7_earned_88 rfl 1 rfl rfl ?_
                    refine J_get hK fo_RX7_67 dX7_earned_89 rfl 0 0 rfl rfl rfl ?_
                    refine J_iload hK dX7_earned_92 rfl 5 rfl ?_
                    obtain ⟨v39, ev39, hs30⟩ := bs hs30
                    refine J_iald hK dX7_earned_94 rfl 0 17 rfl rfl ev39 ?_
                    refine J_iconst (v := 3) hK dX7_earned_95 rfl (by decide) ?_
                    refine J_isub hK dX7_earned_96 rfl ?_
                    obtain ⟨q40, eq40, hs30⟩ := bs hs30
                    refine J_aald hK dX7_earned_97 rfl 0 9 rfl rfl rfl eq40 ?_
                    refine J_iconst (v := 3) hK dX7_earned_98 rfl (by decide) ?_
                    obtain ⟨v41, ev41, hs30⟩ := bs hs30
                    refine J_iald hK dX7_earned_99 rfl 1 q40 rfl (gridI_at (ck_ok eq40).2.2) ev41 ?_
                    refine J_imul hK dX7_earned_100 rfl ?_
                    refine J_goto hK dX7_earned_101 (n := 105) rfl ?_
                    refine J_iadd hK dX7_earned_105 rfl ?_
                    refine J_istore_n (L' := [(2, .int (z31 + (v38 * v41))), (5, .int y36), (0, .ref (h0 0)), (1, .int p1), (3, .int z3), (4, .int z32)]) hK dX7_earned_106 rfl rfl (by decide) rfl ?_
                    refine J_iinc (L' := [(4, .int (z32 + 1)), (2, .int (z31 + (v38 * v41))), (5, .int y36), (0, .ref (h0 0)), (1, .int p1), (3, .int z3)]) (v := (z32 + 1)) hK dX7_earned_107 rfl 5 rfl rfl (by decide) rfl ?_
                    refine J_goto hK dX7_earned_110 (n := 23) rfl ?_
                    exact J_loc [3, 4, 1, 5, 0] rfl (ih30 (z31 + (v38 * v41)) (z32 + 1) (lpc hs30 hr30))
                have j67 : fX7_earned_j67 x0_line x0_good z3 g25 z31 z32 = some rr30 → J d Φ 6 [gMd d h0 a0_kept a0_tried a0_chosen r0_rows r0_line r0_good r0_work x0_shelf x0_rowSort x0_rowSize x0_moved x0_shown x0_tape x0_tapeSize x0_refused x0_lines x0_changes x0_coins x0_goods x0_works x0_years x0_gone x0_spent x0_at x0_token x0_from x0_figures x0_fault x0_numbers x0_statements g22 g23 g24 g25 g26 g27 g28 x0_totals, gridI d r0_line 20 7 x0_line, gridI d r0_good 8 3 x0_good] 0 0 67 [(0, .ref (h0 0)), (1, .int p1), (2, .int z31), (3, .int z3), (4, .int z32)] [] := by
                  intro  hs30
                  unfold fX7_earned_j67 at hs30
                  refine J_iconst (v := 0) hK dX7_earned_67 rfl (by decide) ?_
                  exact (j68 (0) hs30)
                refine J_icmp_lt (tg := 67) hK dX7_earned_40 rfl rfl (fun hc40 => ?_) (fun hc40 => ?_)
                · have hs30 := ip hc40 hs30
                  exact (j67  hs30)
                · have hs30 := iq hc40 hs30
                  refine J_aload_n hK dX7_earned_43 rfl 0 rfl rfl ?_
                  refine J_get hK fo_RX7_39 dX7_earned_44 rfl 0 0 rfl rfl rfl ?_
                  refine J_aload_n hK dX7_earned_47 rfl 0 rfl rfl ?_
                  refine J_get hK fo_RX7_67 dX7_earned_48 rfl 0 0 rfl rfl rfl ?_
                  refine J_iload hK dX7_earned_51 rfl 4 rfl ?_
                  obtain ⟨v42, ev42, hs30⟩ := bs hs30
                  refine J_iald hK dX7_earned_53 rfl 0 17 rfl rfl ev42 ?_
                  refine J_iconst (v := 3) hK dX7_earned_54 rfl (by decide) ?_
                  refine J_isub hK dX7_earned_55 rfl ?_
                  obtain ⟨q43, eq43, hs30⟩ := bs hs30
                  refine J_aald hK dX7_earned_56 rfl 0 9 rfl rfl rfl eq43 ?_
                  refine J_iconst (v := 5) hK dX7_earned_57 rfl (by decide) ?_
                  obtain ⟨v44, ev44, hs30⟩ := bs hs30
                  refine J_iald hK dX7_earned_58 rfl 1 q43 rfl (gridI_at (ck_ok eq43).2.2) ev44 ?_
                  refine J_iload_n hK dX7_earned_59 rfl 1 rfl rfl ?_
                  refine J_icmp_ne (tg := 67) hK dX7_earned_60 rfl rfl (fun hc60 => ?_) (fun hc60 => ?_)
                  · have hs30 := iq hc60 hs30
                    exact (j67  hs30)
                  · have hs30 := ip hc60 hs30
                    refine J_iconst (v := 1) hK dX7_earned_63 rfl (by decide) ?_
                    refine J_goto hK dX7_earned_64 (n := 68) rfl ?_
                    exact (j68 (1) hs30)
          exact J_loc [1, 2, 3, 4, 0] rfl (lo30 n z2 (1) hl30)
  exact J_loc [2, 3, 1, 0] rfl (lo1 n (0) (0) x0_left x0_far x0_tons x0_way x0_steps x0_met x0_queue hl1)

def fX7_earns (n : Nat) (X0 : MdT) (p1 : Int32) : Option (Int32 × ((Nat → Int32) × (Nat → Int32) × (Nat → Int32) × Int32 × (Nat → Int32) × Int32 × Int64 × (Nat → Int32))) :=
  u35 (fun (x0_shelf : (Nat → Int32)) (x0_rowSort : (Nat → Int32)) (x0_rowSize : (Nat → Int32)) (x0_rows : (Nat → Nat → Int64)) (x0_moved : (Nat → Int64)) (x0_shown : (Nat → Int32)) (x0_tape : (Nat → Int32)) (x0_tapeSize : Int32) (x0_refused : (Nat → Int32)) (x0_lines : Int32) (x0_line : (Nat → Nat → Int32)) (x0_changes : (Nat → Int32)) (x0_coins : (Nat → Int32)) (x0_goods : Int32) (x0_good : (Nat → Nat → Int32)) (x0_works : Int32) (x0_work : (Nat → Nat → Int32)) (x0_years : Int32) (x0_gone : Int32) (x0_spent : Int32) (x0_at : Int32) (x0_token : Int32) (x0_from : Int32) (x0_figures : Int64) (x0_fault : Int32) (x0_numbers : (Nat → Int32)) (x0_statements : Int32) (x0_left : (Nat → Int32)) (x0_far : (Nat → Int32)) (x0_tons : Int32) (x0_way : (Nat → Int32)) (x0_steps : Int32) (x0_met : Int64) (x0_queue : (Nat → Int32)) (x0_totals : (Nat → Int32)) => (fX7_in ((p1).toInt64) (0 : Int64) (5 : Int64)).bind (fun v1 => if v1 = 0 then ((fX7_refuse (x0_shelf, x0_rowSort, x0_rowSize, x0_rows, x0_moved, x0_shown, x0_tape, x0_tapeSize, x0_refused, x0_lines, x0_line, x0_changes, x0_coins, x0_goods, x0_good, x0_works, x0_work, x0_years, x0_gone, x0_spent, x0_at, x0_token, x0_from, x0_figures, x0_fault, x0_numbers, x0_statements, x0_left, x0_far, x0_tons, x0_way, x0_steps, x0_met, x0_queue, x0_totals) (-2)).bind (u2 fun v3 g4 => some (v3, (g4, x0_left, x0_far, x0_tons, x0_way, x0_steps, x0_met, x0_queue)))) else ((fX7_earned n (x0_shelf, x0_rowSort, x0_rowSize, x0_rows, x0_moved, x0_shown, x0_tape, x0_tapeSize, x0_refused, x0_lines, x0_line, x0_changes, x0_coins, x0_goods, x0_good, x0_works, x0_work, x0_years, x0_gone, x0_spent, x0_at, x0_token, x0_from, x0_figures, x0_fault, x0_numbers, x0_statements, x0_left, x0_far, x0_tons, x0_way, x0_steps, x0_met, x0_queue, x0_totals) p1).bind (u2 fun v6 G7 => u7 (fun g8 g9 g10 g11 g12 g13 g14 => some (v6, (x0_refused, g8, g9, g10, g11, g12, g13, g14))) G7)))) X0
set_option maxHeartbeats 4000000 in
set_option maxRecDepth 100000 in
theorem kX7_earns (l : Launch) (d : DT) (h0 : Nat → Nat) (r0_rows : Nat → Nat) (r0_line : Nat → Nat) (r0_good : Nat → Nat) (r0_work : Nat → Nat) (a0_kept : Option Nat) (a0_tried : Option Nat) (a0_chosen : Option Nat) (n : Nat) (x0_shelf : (Nat → Int32)) (x0_rowSort : (Nat → Int32)) (x0_rowSize : (Nat → Int32)) (x0_rows : (Nat → Nat → Int64)) (x0_moved : (Nat → Int64)) (x0_shown : (Nat → Int32)) (x0_tape : (Nat → Int32)) (x0_tapeSize : Int32) (x0_refused : (Nat → Int32)) (x0_lines : Int32) (x0_line : (Nat → Nat → Int32)) (x0_changes : (Nat → Int32)) (x0_coins : (Nat → Int32)) (x0_goods : Int32) (x0_good : (Nat → Nat → Int32)) (x0_works : Int32) (x0_work : (Nat → Nat → Int32)) (x0_years : Int32) (x0_gone : Int32) (x0_spent : Int32) (x0_at : Int32) (x0_token : Int32) (x0_from : Int32) (x0_figures : Int64) (x0_fault : Int32) (x0_numbers : (Nat → Int32)) (x0_statements : Int32) (x0_left : (Nat → Int32)) (x0_far : (Nat → Int32)) (x0_tons : Int32) (x0_way : (Nat → Int32)) (x0_steps : Int32) (x0_met : Int64) (x0_queue : (Nat → Int32)) (x0_totals : (Nat → Int32)) (p1 : Int32)  {out : Int32 × ((Nat → Int32) × (Nat → Int32) × (Nat → Int32) × Int32 × (Nat → Int32) × Int32 × Int64 × (Nat → Int32))} (hf : fX7_earns n (x0_shelf, x0_rowSort, x0_rowSize, x0_rows, x0_moved, x0_shown, x0_tape, x0_tapeSize, x0_refused, x0_lines, x0_line, x0_changes, x0_coins, x0_goods, x0_good, x0_works, x0_work, x0_years, x0_gone, x0_spent, x0_at, x0_token, x0_from, x0_figures, x0_fault, x0_numbers, x0_statements, x0_left, x0_far, x0_tons, x0_way, x0_steps, x0_met, x0_queue, x0_totals) p1 = some out) : Ct l d yX7_earns cX7_earns 2 (some .int) { frames := 6, cells := 0, slots := 0, locals := 148 } [.ref (h0 0), .int p1] [gMd d h0 a0_kept a0_tried a0_chosen r0_rows r0_line r0_good r0_work x0_shelf x0_rowSort x0_rowSize x0_moved x0_shown x0_tape x0_tapeSize x0_refused x0_lines x0_changes x0_coins x0_goods x0_works x0_years x0_gone x0_spent x0_at x0_token x0_from x0_figures x0_fault x0_numbers x0_statements x0_left x0_far x0_tons x0_way x0_steps x0_met x0_queue x0_totals, gridI d r0_line 20 7 x0_line, gridI d r0_good 8 3 x0_good] (fun _ : Unit => (some (.int out.1), [gMd d h0 a0_kept a0_tried a0_chosen r0_rows r0_line r0_good r0_work x0_shelf x0_rowSort x0_rowSize x0_moved x0_shown x0_tape x0_tapeSize (out.2.1) x0_lines x0_changes x0_coins x0_goods x0_works x0_years x0_gone x0_spent x0_at x0_token x0_from x0_figures x0_fault x0_numbers x0_statements (out.2.2.1) (out.2.2.2.1) (out.2.2.2.2.1) (out.2.2.2.2.2.1) (out.2.2.2.2.2.2.1) (out.2.2.2.2.2.2.2.1) (out.2.2.2.2.2.2.2.2) x0_totals, gridI d r0_line 20 7 x0_line, gridI d r0_good 8 3 x0_good])) := by
  refine Ct.of (by decide) (Nat.le_of_ble_eq_true rfl) ?_
  intro Φ hl hK hR
  subst hl
  have hK : Ok d Φ RX7 "earns" cX7_earns 2 (some .int) { frames := 6, cells := 0, slots := 0, locals := 148 } := hK
  unfold fX7_earns at hf
  have hf := un35 hf
  show J d Φ 2 [gMd d h0 a0_kept a0_tried a0_chosen r0_rows r0_line r0_good r0_work x0_shelf x0_rowSort x0_rowSize x0_moved x0_shown x0_tape x0_tapeSize x0_refused x0_lines x0_changes x0_coins x0_goods x0_works x0_years x0_gone x0_spent x0_at x0_token x0_from x0_figures x0_fault x0_numbers x0_statements x0_left x0_far x0_tons x0_way x0_steps x0_met x0_queue x0_totals, gridI d r0_line 20 7 x0_line, gridI d r0_good 8 3 x0_good] 0 0 0 [(0, .ref (h0 0)), (1, .int p1)] []
  refine J_iload_n hK dX7_earns_0 rfl 1 rfl rfl ?_
  refine J_i2l hK dX7_earns_1 rfl ?_
  refine J_lconst (v := 0) hK dX7_earns_2 rfl (by decide) ?_
  refine J_ldc2 (v := (5 : Int64)) hK dX7_earns_3 rfl wk_RX7_106 ?_
  obtain ⟨v1, e2, hf⟩ := bs hf
  refine J_callS (m' := 3) (ce' := 0) (sl' := 0) (gr := [gMd d h0 a0_kept a0_tried a0_chosen r0_rows r0_line r0_good r0_work x0_shelf x0_rowSort x0_rowSize x0_moved x0_shown x0_tape x0_tapeSize x0_refused x0_lines x0_changes x0_coins x0_goods x0_works x0_years x0_gone x0_spent x0_at x0_token x0_from x0_figures x0_fault x0_numbers x0_statements x0_left x0_far x0_tons x0_way x0_steps x0_met x0_queue x0_totals, gridI d r0_line 20 7 x0_line, gridI d r0_good 8 3 x0_good]) (gs' := fun _ => [gMd d h0 a0_kept a0_tried a0_chosen r0_rows r0_line r0_good r0_work x0_shelf x0_rowSort x0_rowSize x0_moved x0_shown x0_tape x0_tapeSize x0_refused x0_lines x0_changes x0_coins x0_goods x0_works x0_years x0_gone x0_spent x0_at x0_token x0_from x0_figures x0_fault x0_numbers x0_statements x0_left x0_far x0_tons x0_way x0_steps x0_met x0_queue x0_totals, gridI d r0_line 20 7 x0_line, gridI d r0_good 8 3 x0_good]) (st' := fun _ => [.int v1]) (st := []) hK dX7_earns_6 cv_RX7_78 ws_yX7_in (As := [.long ((p1).toInt64), .long (0 : Int64), .long (5 : Int64)]) (kX7_in _ d ((p1).toInt64) (0 : Int64) (5 : Int64) e2) rfl rfl (Nat.le_of_ble_eq_true rfl) (by decide) [] [0, 1, 2] rfl rfl rfl rfl [0, 1, 2] rfl (fun _ => rfl) (fun _ => rfl) rfl rfl rfl (fun _ => rfl) (fun _ => ?_)
  refine J_if_eq (tg := 20) hK dX7_earns_9 rfl rfl (fun hc9 => ?_) (fun hc9 => ?_)
  · have hf := ip hc9 hf
    refine J_aload_n hK dX7_earns_20 rfl 0 rfl rfl ?_
    refine J_bipush (v := (-2)) hK dX7_earns_21 rfl (by decide) ?_
    obtain ⟨⟨v3, g4⟩, e5, hf⟩ := bs hf
    have hf := un2 hf
    refine J_callV (m' := 3) (ce' := 0) (sl' := 0) (gr := [gridI d r0_line 20 7 x0_line, gridI d r0_good 8 3 x0_good]) (gs' := fun _ => [gMd d h0 a0_kept a0_tried a0_chosen r0_rows r0_line r0_good r0_work x0_shelf x0_rowSort x0_rowSize x0_moved x0_shown x0_tape x0_tapeSize g4 x0_lines x0_changes x0_coins x0_goods x0_works x0_years x0_gone x0_spent x0_at x0_token x0_from x0_figures x0_fault x0_numbers x0_statements x0_left x0_far x0_tons x0_way x0_steps x0_met x0_queue x0_totals, gridI d r0_line 20 7 x0_line, gridI d r0_good 8 3 x0_good]) (st' := fun _ => [.int v3]) (st := []) hK dX7_earns_23 cv_RX7_94 iv_yX7_refuse (As := [.int (-2)]) (kX7_refuse _ d h0 r0_rows r0_line r0_good r0_work a0_kept a0_tried a0_chosen x0_shelf x0_rowSort x0_rowSize x0_rows x0_moved x0_shown x0_tape x0_tapeSize x0_refused x0_lines x0_line x0_changes x0_coins x0_goods x0_good x0_works x0_work x0_years x0_gone x0_spent x0_at x0_token x0_from x0_figures x0_fault x0_numbers x0_statements x0_left x0_far x0_tons x0_way x0_steps x0_met x0_queue x0_totals (-2) e5) rfl rfl (Nat.le_of_ble_eq_true rfl) (by decide) 0 0 rfl rfl rfl [0] [1, 2] rfl rfl rfl rfl [2, 0, 1] rfl (fun _ => rfl) (fun _ => rfl) rfl rfl rfl (fun _ => rfl) (fun _ => ?_)
    obtain rfl := Option.some.inj hf
    exact J_iret hK hR dX7_earns_26 () rfl (by decide) (by decide)
  · have hf := iq hc9 hf
    refine J_aload_n hK dX7_earns_12 rfl 0 rfl rfl ?_
    refine J_iload_n hK dX7_earns_13 rfl 1 rfl rfl ?_
    obtain ⟨⟨v6, ⟨g8, g9, g10, g11, g12, g13, g14⟩⟩, e15, hf⟩ := bs hf
    have hf := un2 hf
    have hf := un7 hf
    refine J_callV (m' := 3) (ce' := 0) (sl' := 0) (gr := []) (gs' := fun _ => [gMd d h0 a0_kept a0_tried a0_chosen r0_rows r0_line r0_good r0_work x0_shelf x0_rowSort x0_rowSize x0_moved x0_shown x0_tape x0_tapeSize x0_refused x0_lines x0_changes x0_coins x0_goods x0_works x0_years x0_gone x0_spent x0_at x0_token x0_from x0_figures x0_fault x0_numbers x0_statements g8 g9 g10 g11 g12 g13 g14 x0_totals, gridI d r0_line 20 7 x0_line, gridI d r0_good 8 3 x0_good]) (st' := fun _ => [.int v6]) (st := []) hK dX7_earns_14 cv_RX7_285 iv_yX7_earned (As := [.int p1]) (kX7_earned _ d h0 r0_rows r0_line r0_good r0_work a0_kept a0_tried a0_chosen n x0_shelf x0_rowSort x0_rowSize x0_rows x0_moved x0_shown x0_tape x0_tapeSize x0_refused x0_lines x0_line x0_changes x0_coins x0_goods x0_good x0_works x0_work x0_years x0_gone x0_spent x0_at x0_token x0_from x0_figures x0_fault x0_numbers x0_statements x0_left x0_far x0_tons x0_way x0_steps x0_met x0_queue x0_totals p1 e15) rfl rfl (Nat.le_of_ble_eq_true rfl) (by decide) 0 0 rfl rfl rfl [0, 1, 2] [] rfl rfl rfl rfl [0, 1, 2] rfl (fun _ => rfl) (fun _ => rfl) rfl rfl rfl (fun _ => rfl) (fun _ => ?_)
    refine J_goto hK dX7_earns_17 (n := 26) rfl ?_
    obtain rfl := Option.some.inj hf
    exact J_iret hK hR dX7_earns_26 () rfl (by decide) (by decide)

def fX7_port_j123 (p1 : Int32) (z36 : Int32) (z38 : Int32) (z39 : Int32) (y51 : Int32) : Option ((Int32 × Int32 × Int32 × Int32) ⊕ (Int32 × Int32)) :=
  if y51 = p1 then (some (.inl (z36, y51, (z38 ||| 1), (z39 + 1)))) else (some (.inl (z36, y51, (z38 ||| 0), (z39 + 1))))
def fX7_port_s67 (p1 : Int32) (p2 : Int32) (x0_line : (Nat → Nat → Int32)) (x0_good : (Nat → Nat → Int32)) (z5 : Int32) (g27 : (Nat → Int32)) (g28 : Int32) (z36 : Int32) (z37 : Int32) (z38 : Int32) (z39 : Int32) : Option ((Int32 × Int32 × Int32 × Int32) ⊕ (Int32 × Int32)) :=
  if g28 ≤ z39 then (some (.inr (z36, z38))) else ((rd 37 g27 z39).bind fun v45 => if v45 < 3 then (if p2 = 0 then (some (.inl (z36, z37, z38, (z39 + 1)))) else (if z37 = p1 then ((ck z5 8).bind fun q46 => (rd 3 (x0_good q46) (2)).bind fun v47 => some (.inl ((z36 + v47), z37, z38, (z39 + 1)))) else (some (.inl (z36, z37, z38, (z39 + 1)))))) else ((rd 37 g27 z39).bind fun v48 => (ck (v48 - 3) 20).bind fun q49 => (rd 7 (x0_line q49) (0)).bind fun v50 => if v50 = z37 then ((rd 7 (x0_line q49) (1)).bind fun v53 => fX7_port_j123 p1 z36 z38 z39 v53) else ((rd 7 (x0_line q49) (0)).bind fun v52 => fX7_port_j123 p1 z36 z38 z39 v52)))
def fX7_port_j62 (n : Nat) (p1 : Int32) (p2 : Int32) (x0_line : (Nat → Nat → Int32)) (x0_good : (Nat → Nat → Int32)) (z4 : Int32) (z5 : Int32) (g24 : (Nat → Int32)) (g25 : (Nat → Int32)) (g26 : Int32) (g27 : (Nat → Int32)) (g28 : Int32) (g29 : Int64) (g30 : (Nat → Int32)) (v33 : Int32) (y34 : Int32) : Option ((Int32 × Int32 × (Nat → Int32) × (Nat → Int32) × Int32 × (Nat → Int32) × Int32 × Int64 × (Nat → Int32)) ⊕ (Int32 × (Nat → Int32) × (Nat → Int32) × Int32 × (Nat → Int32) × Int32 × Int64 × (Nat → Int32))) :=
  (lp (u4 (fX7_port_s67 p1 p2 x0_line x0_good z5 g27 g28)) n (z4, v33, y34, 1)).bind (u2 fun w41 w42 => if p2 = 0 then (if w42 = 0 then (some (.inl ((w41 + 0), (z5 + 1), g24, g25, g26, g27, g28, g29, g30))) else ((ck z5 8).bind fun q43 => (rd 3 (x0_good q43) (2)).bind fun v44 => some (.inl ((w41 + v44), (z5 + 1), g24, g25, g26, g27, g28, g29, g30)))) else (some (.inl ((w41 + 0), (z5 + 1), g24, g25, g26, g27, g28, g29, g30))))
def fX7_port_s19 (n : Nat) (p1 : Int32) (p2 : Int32) (x0_shelf : (Nat → Int32)) (x0_rowSort : (Nat → Int32)) (x0_rowSize : (Nat → Int32)) (x0_rows : (Nat → Nat → Int64)) (x0_moved : (Nat → Int64)) (x0_shown : (Nat → Int32)) (x0_tape : (Nat → Int32)) (x0_tapeSize : Int32) (x0_refused : (Nat → Int32)) (x0_lines : Int32) (x0_line : (Nat → Nat → Int32)) (x0_changes : (Nat → Int32)) (x0_coins : (Nat → Int32)) (x0_goods : Int32) (x0_good : (Nat → Nat → Int32)) (x0_works : Int32) (x0_work : (Nat → Nat → Int32)) (x0_years : Int32) (x0_gone : Int32) (x0_spent : Int32) (x0_at : Int32) (x0_token : Int32) (x0_from : Int32) (x0_figures : Int64) (x0_fault : Int32) (x0_numbers : (Nat → Int32)) (x0_statements : Int32) (x0_totals : (Nat → Int32)) (z4 : Int32) (z5 : Int32) (z6 : (Nat → Int32)) (z7 : (Nat → Int32)) (z8 : Int32) (z9 : (Nat → Int32)) (z10 : Int32) (z11 : Int64) (z12 : (Nat → Int32)) : Option ((Int32 × Int32 × (Nat → Int32) × (Nat → Int32) × Int32 × (Nat → Int32) × Int32 × Int64 × (Nat → Int32)) ⊕ (Int32 × (Nat → Int32) × (Nat → Int32) × Int32 × (Nat → Int32) × Int32 × Int64 × (Nat → Int32))) :=
  if x0_goods ≤ z5 then (some (.inr (z4, z6, z7, z8, z9, z10, z11, z12))) else ((fX7_findGoods n (x0_shelf, x0_rowSort, x0_rowSize, x0_rows, x0_moved, x0_shown, x0_tape, x0_tapeSize, x0_refused, x0_lines, x0_line, x0_changes, x0_coins, x0_goods, x0_good, x0_works, x0_work, x0_years, x0_gone, x0_spent, x0_at, x0_token, x0_from, x0_figures, x0_fault, x0_numbers, x0_statements, z6, z7, z8, z9, z10, z11, z12, x0_totals) z5).bind (u2 fun v22 G23 => u7 (fun g24 g25 g26 g27 g28 g29 g30 => if v22 = 0 then (some (.inl (z4, (z5 + 1), g24, g25, g26, g27, g28, g29, g30))) else ((ck z5 8).bind fun q32 => (rd 3 (x0_good q32) (0)).bind fun v33 => if v33 = p1 then (fX7_port_j62 n p1 p2 x0_line x0_good z4 z5 g24 g25 g26 g27 g28 g29 g30 v33 (1)) else (fX7_port_j62 n p1 p2 x0_line x0_good z4 z5 g24 g25 g26 g27 g28 g29 g30 v33 (0)))) G23))
def fX7_port (n : Nat) (X0 : MdT) (p1 : Int32) (p2 : Int32) : Option (Int32 × ((Nat → Int32) × (Nat → Int32) × (Nat → Int32) × Int32 × (Nat → Int32) × Int32 × Int64 × (Nat → Int32))) :=
  u35 (fun (x0_shelf : (Nat → Int32)) (x0_rowSort : (Nat → Int32)) (x0_rowSize : (Nat → Int32)) (x0_rows : (Nat → Nat → Int64)) (x0_moved : (Nat → Int64)) (x0_shown : (Nat → Int32)) (x0_tape : (Nat → Int32)) (x0_tapeSize : Int32) (x0_refused : (Nat → Int32)) (x0_lines : Int32) (x0_line : (Nat → Nat → Int32)) (x0_changes : (Nat → Int32)) (x0_coins : (Nat → Int32)) (x0_goods : Int32) (x0_good : (Nat → Nat → Int32)) (x0_works : Int32) (x0_work : (Nat → Nat → Int32)) (x0_years : Int32) (x0_gone : Int32) (x0_spent : Int32) (x0_at : Int32) (x0_token : Int32) (x0_from : Int32) (x0_figures : Int64) (x0_fault : Int32) (x0_numbers : (Nat → Int32)) (x0_statements : Int32) (x0_left : (Nat → Int32)) (x0_far : (Nat → Int32)) (x0_tons : Int32) (x0_way : (Nat → Int32)) (x0_steps : Int32) (x0_met : Int64) (x0_queue : (Nat → Int32)) (x0_totals : (Nat → Int32)) => (fX7_isPlace p1).bind (fun v1 => if v1 = 0 then ((fX7_refuse (x0_shelf, x0_rowSort, x0_rowSize, x0_rows, x0_moved, x0_shown, x0_tape, x0_tapeSize, x0_refused, x0_lines, x0_line, x0_changes, x0_coins, x0_goods, x0_good, x0_works, x0_work, x0_years, x0_gone, x0_spent, x0_at, x0_token, x0_from, x0_figures, x0_fault, x0_numbers, x0_statements, x0_left, x0_far, x0_tons, x0_way, x0_steps, x0_met, x0_queue, x0_totals) (-2)).bind (u2 fun v54 g55 => some (v54, (g55, x0_left, x0_far, x0_tons, x0_way, x0_steps, x0_met, x0_queue)))) else ((lp (u9 (fX7_port_s19 n p1 p2 x0_shelf x0_rowSort x0_rowSize x0_rows x0_moved x0_shown x0_tape x0_tapeSize x0_refused x0_lines x0_line x0_changes x0_coins x0_goods x0_good x0_works x0_work x0_years x0_gone x0_spent x0_at x0_token x0_from x0_figures x0_fault x0_numbers x0_statements x0_totals)) n (0, 0, x0_left, x0_far, x0_tons, x0_way, x0_steps, x0_met, x0_queue)).bind (u8 fun w14 w15 w16 w17 w18 w19 w20 w21 => some (w14, (x0_refused, w15, w16, w17, w18, w19, w20, w21)))))) X0
set_option maxHeartbeats 4000000 in
set_option maxRecDepth 100000 in
theorem kX7_port (l : Launch) (d : DT) (h0 : Nat → Nat) (r0_rows : Nat → Nat) (r0_line : Nat → Nat) (r0_good : Nat → Nat) (r0_work : Nat → Nat) (a0_kept : Option Nat) (a0_tried : Option Nat) (a0_chosen : Option Nat) (n : Nat) (x0_shelf : (Nat → Int32)) (x0_rowSort : (Nat → Int32)) (x0_rowSize : (Nat → Int32)) (x0_rows : (Nat → Nat → Int64)) (x0_moved : (Nat → Int64)) (x0_shown : (Nat → Int32)) (x0_tape : (Nat → Int32)) (x0_tapeSize : Int32) (x0_refused : (Nat → Int32)) (x0_lines : Int32) (x0_line : (Nat → Nat → Int32)) (x0_changes : (Nat → Int32)) (x0_coins : (Nat → Int32)) (x0_goods : Int32) (x0_good : (Nat → Nat → Int32)) (x0_works : Int32) (x0_work : (Nat → Nat → Int32)) (x0_years : Int32) (x0_gone : Int32) (x0_spent : Int32) (x0_at : Int32) (x0_token : Int32) (x0_from : Int32) (x0_figures : Int64) (x0_fault : Int32) (x0_numbers : (Nat → Int32)) (x0_statements : Int32) (x0_left : (Nat → Int32)) (x0_far : (Nat → Int32)) (x0_tons : Int32) (x0_way : (Nat → Int32)) (x0_steps : Int32) (x0_met : Int64) (x0_queue : (Nat → Int32)) (x0_totals : (Nat → Int32)) (p1 : Int32) (p2 : Int32)  {out : Int32 × ((Nat → Int32) × (Nat → Int32) × (Nat → Int32) × Int32 × (Nat → Int32) × Int32 × Int64 × (Nat → Int32))} (hf : fX7_port n (x0_shelf, x0_rowSort, x0_rowSize, x0_rows, x0_moved, x0_shown, x0_tape, x0_tapeSize, x0_refused, x0_lines, x0_line, x0_changes, x0_coins, x0_goods, x0_good, x0_works, x0_work, x0_years, x0_gone, x0_spent, x0_at, x0_token, x0_from, x0_figures, x0_fault, x0_numbers, x0_statements, x0_left, x0_far, x0_tons, x0_way, x0_steps, x0_met, x0_queue, x0_totals) p1 p2 = some out) : Ct l d yX7_port cX7_port 9 (some .int) { frames := 5, cells := 0, slots := 0, locals := 123 } [.ref (h0 0), .int p1, .int p2] [gMd d h0 a0_kept a0_tried a0_chosen r0_rows r0_line r0_good r0_work x0_shelf x0_rowSort x0_rowSize x0_moved x0_shown x0_tape x0_tapeSize x0_refused x0_lines x0_changes x0_coins x0_goods x0_works x0_years x0_gone x0_spent x0_at x0_token x0_from x0_figures x0_fault x0_numbers x0_statements x0_left x0_far x0_tons x0_way x0_steps x0_met x0_queue x0_totals, gridI d r0_line 20 7 x0_line, gridI d r0_good 8 3 x0_good] (fun _ : Unit => (some (.int out.1), [gMd d h0 a0_kept a0_tried a0_chosen r0_rows r0_line r0_good r0_work x0_shelf x0_rowSort x0_rowSize x0_moved x0_shown x0_tape x0_tapeSize (out.2.1) x0_lines x0_changes x0_coins x0_goods x0_works x0_years x0_gone x0_spent x0_at x0_token x0_from x0_figures x0_fault x0_numbers x0_statements (out.2.2.1) (out.2.2.2.1) (out.2.2.2.2.1) (out.2.2.2.2.2.1) (out.2.2.2.2.2.2.1) (out.2.2.2.2.2.2.2.1) (out.2.2.2.2.2.2.2.2) x0_totals, gridI d r0_line 20 7 x0_line, gridI d r0_good 8 3 x0_good])) := by
  refine Ct.of (by decide) (Nat.le_of_ble_eq_true rfl) ?_
  intro Φ hl hK hR
  subst hl
  have hK : Ok d Φ RX7 "port" cX7_port 9 (some .int) { frames := 5, cells := 0, slots := 0, locals := 123 } := hK
  unfold fX7_port at hf
  have hf := un35 hf
  show J d Φ 9 [gMd d h0 a0_kept a0_tried a0_chosen r0_rows r0_line r0_good r0_work x0_shelf x0_rowSort x0_rowSize x0_moved x0_shown x0_tape x0_tapeSize x0_refused x0_lines x0_changes x0_coins x0_goods x0_works x0_years x0_gone x0_spent x0_at x0_token x0_from x0_figures x0_fault x0_numbers x0_statements x0_left x0_far x0_tons x0_way x0_steps x0_met x0_queue x0_totals, gridI d r0_line 20 7 x0_line, gridI d r0_good 8 3 x0_good] 0 0 0 [(0, .ref (h0 0)), (1, .int p1), (2, .int p2)] []
  refine J_iload_n hK dX7_port_0 rfl 1 rfl rfl ?_
  obtain ⟨v1, e2, hf⟩ := bs hf
  refine J_callS (m' := 3) (ce' := 0) (sl' := 0) (gr := [gMd d h0 a0_kept a0_tried a0_chosen r0_rows r0_line r0_good r0_work x0_shelf x0_rowSort x0_rowSize x0_moved x0_shown x0_tape x0_tapeSize x0_refused x0_lines x0_changes x0_coins x0_goods x0_works x0_years x0_gone x0_spent x0_at x0_token x0_from x0_figures x0_fault x0_numbers x0_statements x0_left x0_far x0_tons x0_way x0_steps x0_met x0_queue x0_totals, gridI d r0_line 20 7 x0_line, gridI d r0_good 8 3 x0_good]) (gs' := fun _ => [gMd d h0 a0_kept a0_tried a0_chosen r0_rows r0_line r0_good r0_work x0_shelf x0_rowSort x0_rowSize x0_moved x0_shown x0_tape x0_tapeSize x0_refused x0_lines x0_changes x0_coins x0_goods x0_works x0_years x0_gone x0_spent x0_at x0_token x0_from x0_figures x0_fault x0_numbers x0_statements x0_left x0_far x0_tons x0_way x0_steps x0_met x0_queue x0_totals, gridI d r0_line 20 7 x0_line, gridI d r0_good 8 3 x0_good]) (st' := fun _ => [.int v1]) (st := []) hK dX7_port_1 cv_RX7_112 ws_yX7_isPlace (As := [.int p1]) (kX7_isPlace _ d p1 e2) rfl rfl (Nat.le_of_ble_eq_true rfl) (by decide) [] [0, 1, 2] rfl rfl rfl rfl [0, 1, 2] rfl (fun _ => rfl) (fun _ => rfl) rfl rfl rfl (fun _ => rfl) (fun _ => ?_)
  refine J_if_ne (tg := 14) hK dX7_port_4 rfl rfl (fun hc4 => ?_) (fun hc4 => ?_)
  · have hf := iq hc4 hf
    refine J_iconst (v := 0) hK dX7_port_14 rfl (by decide) ?_
    refine J_istore_n (L' := [(3, .int (0)), (0, .ref (h0 0)), (1, .int p1), (2, .int p2)]) hK dX7_port_15 rfl rfl (by decide) rfl ?_
    refine J_iconst (v := 0) hK dX7_port_16 rfl (by decide) ?_
    refine J_istore (L' := [(4, .int (0)), (3, .int (0)), (0, .ref (h0 0)), (1, .int p1), (2, .int p2)]) hK dX7_port_17 rfl (by decide) rfl ?_
    obtain ⟨e13, hl3, hf⟩ := bs hf
    have hx3_203 : ∀ (w14 : Int32) (w15 : (Nat → Int32)) (w16 : (Nat → Int32)) (w17 : Int32) (w18 : (Nat → Int32)) (w19 : Int32) (w20 : Int64) (w21 : (Nat → Int32)), (w14, w15, w16, w17, w18, w19, w20, w21) = e13 → J d Φ 9 [gMd d h0 a0_kept a0_tried a0_chosen r0_rows r0_line r0_good r0_work x0_shelf x0_rowSort x0_rowSize x0_moved x0_shown x0_tape x0_tapeSize x0_refused x0_lines x0_changes x0_coins x0_goods x0_works x0_years x0_gone x0_spent x0_at x0_token x0_from x0_figures x0_fault x0_numbers x0_statements w15 w16 w17 w18 w19 w20 w21 x0_totals, gridI d r0_line 20 7 x0_line, gridI d r0_good 8 3 x0_good] 0 0 203 [(3, .int w14)] [] := by
      intro w14 w15 w16 w17 w18 w19 w20 w21 he
      rw [← he] at hf
      have hf := un8 hf
      refine J_iload_n hK dX7_port_203 rfl 0 rfl rfl ?_
      obtain rfl := Option.some.inj hf
      exact J_iret hK hR dX7_port_204 () rfl (by decide) (by decide)
    have lo3 : ∀ (k : Nat) (z4 : Int32) (z5 : Int32) (z6 : (Nat → Int32)) (z7 : (Nat → Int32)) (z8 : Int32) (z9 : (Nat → Int32)) (z10 : Int32) (z11 : Int64) (z12 : (Nat → Int32)), lp (u9 (fX7_port_s19 n p1 p2 x0_shelf x0_rowSort x0_rowSize x0_rows x0_moved x0_shown x0_tape x0_tapeSize x0_refused x0_lines x0_line x0_changes x0_coins x0_goods x0_good x0_works x0_work x0_years x0_gone x0_spent x0_at x0_token x0_from x0_figures x0_fault x0_numbers x0_statements x0_totals)) k (z4, z5, z6, z7, z8, z9, z10, z11, z12) = some e13 → J d Φ 9 [gMd d h0 a0_kept a0_tried a0_chosen r0_rows r0_line r0_good r0_work x0_shelf x0_rowSort x0_rowSize x0_moved x0_shown x0_tape x0_tapeSize x0_refused x0_lines x0_changes x0_coins x0_goods x0_works x0_years x0_gone x0_spent x0_at x0_token x0_from x0_figures x0_fault x0_numbers x0_statements z6 z7 z8 z9 z10 z11 z12 x0_totals, gridI d r0_line 20 7 x0_line, gridI d r0_good 8 3 x0_good] 0 0 19 [(0, .ref (h0 0)), (1, .int p1), (2, .int p2), (3, .int z4), (4, .int z5)] [] := by
      intro k
      induction k with
      | zero => intro z4 z5 z6 z7 z8 z9 z10 z11 z12 h; cases h
      | succ k ih3 =>
        intro z4 z5 z6 z7 z8 z9 z10 z11 z12 h
        obtain ⟨k2, rr3, hk2, hs3, hr3⟩ := lp_ok h
        cases hk2
        have hs3 : fX7_port_s19 n p1 p2 x0_shelf x0_rowSort x0_rowSize x0_rows x0_moved x0_shown x0_tape x0_tapeSize x0_refused x0_lines x0_line x0_changes x0_coins x0_goods x0_good x0_works x0_work x0_years x0_gone x0_spent x0_at x0_token x0_from x0_figures x0_fault x0_numbers x0_statements x0_totals z4 z5 z6 z7 z8 z9 z10 z11 z12 = some rr3 := hs3
        unfold fX7_port_s19 at hs3
        refine J_iload hK dX7_port_19 rfl 4 rfl ?_
        refine J_aload_n hK dX7_port_21 rfl 0 rfl rfl ?_
        refine J_get hK fo_RX7_125 dX7_port_22 rfl 0 0 rfl rfl rfl ?_
        refine J_icmp_ge (tg := 203) hK dX7_port_25 rfl rfl (fun hc25 => ?_) (fun hc25 => ?_)
        · have hs3 := ip hc25 hs3
          exact J_loc [3] rfl (hx3_203 z4 z6 z7 z8 z9 z10 z11 z12 (lpx hs3 hr3))
        · have hs3 := iq hc25 hs3
          refine J_aload_n hK dX7_port_28 rfl 0 rfl rfl ?_
          refine J_iload hK dX7_port_29 rfl 4 rfl ?_
          obtain ⟨⟨v22, ⟨g24, g25, g26, g27, g28, g29, g30⟩⟩, e31, hs3⟩ := bs hs3
          have hs3 := un2 hs3
          have hs3 := un7 hs3
          refine J_callV (m' := 3) (ce' := 0) (sl' := 0) (gr := []) (gs' := fun _ => [gMd d h0 a0_kept a0_tried a0_chosen r0_rows r0_line r0_good r0_work x0_shelf x0_rowSort x0_rowSize x0_moved x0_shown x0_tape x0_tapeSize x0_refused x0_lines x0_changes x0_coins x0_goods x0_works x0_years x0_gone x0_spent x0_at x0_token x0_from x0_figures x0_fault x0_numbers x0_statements g24 g25 g26 g27 g28 g29 g30 x0_totals, gridI d r0_line 20 7 x0_line, gridI d r0_good 8 3 x0_good]) (st' := fun _ => [.int v22]) (st := []) hK dX7_port_31 cv_RX7_282 iv_yX7_findGoods (As := [.int z5]) (kX7_findGoods _ d h0 r0_rows r0_line r0_good r0_work a0_kept a0_tried a0_chosen n x0_shelf x0_rowSort x0_rowSize x0_rows x0_moved x0_shown x0_tape x0_tapeSize x0_refused x0_lines x0_line x0_changes x0_coins x0_goods x0_good x0_works x0_work x0_years x0_gone x0_spent x0_at x0_token x0_from x0_figures x0_fault x0_numbers x0_statements z6 z7 z8 z9 z10 z11 z12 x0_totals z5 e31) rfl rfl (Nat.le_of_ble_eq_true rfl) (by decide) 0 0 rfl rfl rfl [0, 1, 2] [] rfl rfl rfl rfl [0, 1, 2] rfl (fun _ => rfl) (fun _ => rfl) rfl rfl rfl (fun _ => rfl) (fun _ => ?_)
          refine J_if_ne (tg := 40) hK dX7_port_34 rfl rfl (fun hc34 => ?_) (fun hc34 => ?_)
          · have hs3 := iq hc34 hs3
            refine J_aload_n hK dX7_port_40 rfl 0 rfl rfl ?_
            refine J_get hK fo_RX7_48 dX7_port_41 rfl 0 0 rfl rfl rfl ?_
            refine J_iload hK dX7_port_44 rfl 4 rfl ?_
            obtain ⟨q32, eq32, hs3⟩ := bs hs3
            refine J_aald hK dX7_port_46 rfl 0 12 rfl rfl rfl eq32 ?_
            refine J_iconst (v := 0) hK dX7_port_47 rfl (by decide) ?_
            obtain ⟨v33, ev33, hs3⟩ := bs hs3
            refine J_iald hK dX7_port_48 rfl 2 q32 rfl (gridI_at (ck_ok eq32).2.2) ev33 ?_
            refine J_istore (L' := [(5, .int v33), (0, .ref (h0 0)), (1, .int p1), (2, .int p2), (3, .int z4), (4, .int z5)]) hK dX7_port_49 rfl (by decide) rfl ?_
            refine J_iload hK dX7_port_51 rfl 0 rfl ?_
            refine J_iload_n hK dX7_port_53 rfl 2 rfl rfl ?_
            have j62 : ∀ (y34 : Int32), fX7_port_j62 n p1 p2 x0_line x0_good z4 z5 g24 g25 g26 g27 g28 g29 g30 v33 y34 = some rr3 → J d Φ 9 [gMd d h0 a0_kept a0_tried a0_chosen r0_rows r0_line r0_good r0_work x0_shelf x0_rowSort x0_rowSize x0_moved x0_shown x0_tape x0_tapeSize x0_refused x0_lines x0_changes x0_coins x0_goods x0_works x0_years x0_gone x0_spent x0_at x0_token x0_from x0_figures x0_fault x0_numbers x0_statements g24 g25 g26 g27 g28 g29 g30 x0_totals, gridI d r0_line 20 7 x0_line, gridI d r0_good 8 3 x0_good] 0 0 62 [(0, .ref (h0 0)), (1, .int p1), (2, .int p2), (3, .int z4), (4, .int z5), (5, .int v33)] [.int y34] := by
              intro y34 hs3
              unfold fX7_port_j62 at hs3
              refine J_istore (L' := [(6, .int y34), (0, .ref (h0 0)), (1, .int p1), (2, .int p2), (3, .int z4), (4, .int z5), (5, .int v33)]) hK dX7_port_62 rfl (by decide) rfl ?_
              refine J_iconst (v := 1) hK dX7_port_64 rfl (by decide) ?_
              refine J_istore (L' := [(7, .int (1)), (6, .int y34), (0, .ref (h0 0)), (1, .int p1), (2, .int p2), (3, .int z4), (4, .int z5), (5, .int v33)]) hK dX7_port_65 rfl (by decide) rfl ?_
              obtain ⟨e40, hl35, hs3⟩ := bs hs3
              have hx35_172 : ∀ (w41 : Int32) (w42 : Int32), (w41, w42) = e40 → J d Φ 9 [gMd d h0 a0_kept a0_tried a0_chosen r0_rows r0_line r0_good r0_work x0_shelf x0_rowSort x0_rowSize x0_moved x0_shown x0_tape x0_tapeSize x0_refused x0_lines x0_changes x0_coins x0_goods x0_works x0_years x0_gone x0_spent x0_at x0_token x0_from x0_figures x0_fault x0_numbers x0_statements g24 g25 g26 g27 g28 g29 g30 x0_totals, gridI d r0_line 20 7 x0_line, gridI d r0_good 8 3 x0_good] 0 0 172 [(0, .ref (h0 0)), (1, .int p1), (2, .int p2), (3, .int w41), (4, .int z5), (6, .int w42)] [] := by
                intro w41 w42 he
                rw [← he] at hs3
                have hs3 := un2 hs3
                refine J_iload_n hK dX7_port_172 rfl 3 rfl rfl ?_
                refine J_iload_n hK dX7_port_173 rfl 2 rfl rfl ?_
                refine J_if_ne (tg := 194) hK dX7_port_174 rfl rfl (fun hc174 => ?_) (fun hc174 => ?_)
                · have hs3 := iq hc174 hs3
                  refine J_iconst (v := 0) hK dX7_port_194 rfl (by decide) ?_
                  refine J_iadd hK dX7_port_195 rfl ?_
                  refine J_istore_n (L' := [(3, .int (w41 + 0)), (0, .ref (h0 0)), (1, .int p1), (2, .int p2), (4, .int z5), (6, .int w42)]) hK dX7_port_196 rfl rfl (by decide) rfl ?_
                  refine J_iinc (L' := [(4, .int (z5 + 1)), (3, .int (w41 + 0)), (0, .ref (h0 0)), (1, .int p1), (2, .int p2), (6, .int w42)]) (v := (z5 + 1)) hK dX7_port_197 rfl 4 rfl rfl (by decide) rfl ?_
                  refine J_goto hK dX7_port_200 (n := 19) rfl ?_
                  exact J_loc [2, 3, 4, 1, 0] rfl (ih3 (w41 + 0) (z5 + 1) g24 g25 g26 g27 g28 g29 g30 (lpc hs3 hr3))
                · have hs3 := ip hc174 hs3
                  refine J_iload hK dX7_port_177 rfl 5 rfl ?_
                  refine J_if_eq (tg := 194) hK dX7_port_179 rfl rfl (fun hc179 => ?_) (fun hc179 => ?_)
                  · have hs3 := ip hc179 hs3
                    refine J_iconst (v := 0) hK dX7_port_194 rfl (by decide) ?_
                    refine J_iadd hK dX7_port_195 rfl ?_
                    refine J_istore_n (L' := [(3, .int (w41 + 0)), (0, .ref (h0 0)), (1, .int p1), (2, .int p2), (4, .int z5), (6, .int w42)]) hK dX7_port_196 rfl rfl (by decide) rfl ?_
                    refine J_iinc (L' := [(4, .int (z5 + 1)), (3, .int (w41 + 0)), (0, .ref (h0 0)), (1, .int p1), (2, .int p2), (6, .int w42)]) (v := (z5 + 1)) hK dX7_port_197 rfl 4 rfl rfl (by decide) rfl ?_
                    refine J_goto hK dX7_port_200 (n := 19) rfl ?_
                    exact J_loc [2, 3, 4, 1, 0] rfl (ih3 (w41 + 0) (z5 + 1) g24 g25 g26 g27 g28 g29 g30 (lpc hs3 hr3))
                  · have hs3 := iq hc179 hs3
                    refine J_aload_n hK dX7_port_182 rfl 0 rfl rfl ?_
                    refine J_get hK fo_RX7_48 dX7_port_183 rfl 0 0 rfl rfl rfl ?_
                    refine J_iload hK dX7_port_186 rfl 4 rfl ?_
                    obtain ⟨q43, eq43, hs3⟩ := bs hs3
                    refine J_aald hK dX7_port_188 rfl 0 12 rfl rfl rfl eq43 ?_
                    refine J_iconst (v := 2) hK dX7_port_189 rfl (by decide) ?_
                    obtain ⟨v44, ev44, hs3⟩ := bs hs3
                    refine J_iald hK dX7_port_190 rfl 2 q43 rfl (gridI_at (ck_ok eq43).2.2) ev44 ?_
                    refine J_goto hK dX7_port_191 (n := 195) rfl ?_
                    refine J_iadd hK dX7_port_195 rfl ?_
                    refine J_istore_n (L' := [(3, .int (w41 + v44)), (0, .ref (h0 0)), (1, .int p1), (2, .int p2), (4, .int z5), (6, .int w42)]) hK dX7_port_196 rfl rfl (by decide) rfl ?_
                    refine J_iinc (L' := [(4, .int (z5 + 1)), (3, .int (w41 + v44)), (0, .ref (h0 0)), (1, .int p1), (2, .int p2), (6, .int w42)]) (v := (z5 + 1)) hK dX7_port_197 rfl 4 rfl rfl (by decide) rfl ?_
                    refine J_goto hK dX7_port_200 (n := 19) rfl ?_
                    exact J_loc [2, 3, 4, 1, 0] rfl (ih3 (w41 + v44) (z5 + 1) g24 g25 g26 g27 g28 g29 g30 (lpc hs3 hr3))
              have lo35 : ∀ (k : Nat) (z36 : Int32) (z37 : Int32) (z38 : Int32) (z39 : Int32), lp (u4 (fX7_port_s67 p1 p2 x0_line x0_good z5 g27 g28)) k (z36, z37, z38, z39) = some e40 → J d Φ 9 [gMd d h0 a0_kept a0_tried a0_chosen r0_rows r0_line r0_good r0_work x0_shelf x0_rowSort x0_rowSize x0_moved x0_shown x0_tape x0_tapeSize x0_refused x0_lines x0_changes x0_coins x0_goods x0_works x0_years x0_gone x0_spent x0_at x0_token x0_from x0_figures x0_fault x0_numbers x0_statements g24 g25 g26 g27 g28 g29 g30 x0_totals, gridI d r0_line 20 7 x0_line, gridI d r0_good 8 3 x0_good] 0 0 67 [(0, .ref (h0 0)), (1, .int p1), (2, .int p2), (3, .int z36), (4, .int z5), (5, .int z37), (6, .int z38), (7, .int z39)] [] := by
                intro k
                induction k with
                | zero => intro z36 z37 z38 z39 h; cases h
                | succ k ih35 =>
                  intro z36 z37 z38 z39 h
                  obtain ⟨k2, rr35, hk2, hs35, hr35⟩ := lp_ok h
                  cases hk2
                  have hs35 : fX7_port_s67 p1 p2 x0_line x0_good z5 g27 g28 z36 z37 z38 z39 = some rr35 := hs35
                  unfold fX7_port_s67 at hs35
                  refine J_iload hK dX7_port_67 rfl 7 rfl ?_
                  refine J_aload_n hK dX7_port_69 rfl 0 rfl rfl ?_
                  refine J_get hK fo_RX7_267 dX7_port_70 rfl 0 0 rfl rfl rfl ?_
                  refine J_icmp_ge (tg := 172) hK dX7_port_73 rfl rfl (fun hc73 => ?_) (fun hc73 => ?_)
                  · have hs35 := ip hc73 hs35
                    exact J_loc [0, 1, 2, 3, 4, 6] rfl (hx35_172 z36 z38 (lpx hs35 hr35))
                  · have hs35 := iq hc73 hs35
                    refine J_aload_n hK dX7_port_76 rfl 0 rfl rfl ?_
                    refine J_get hK fo_RX7_67 dX7_port_77 rfl 0 0 rfl rfl rfl ?_
                    refine J_iload hK dX7_port_80 rfl 7 rfl ?_
                    obtain ⟨v45, ev45, hs35⟩ := bs hs35
                    refine J_iald hK dX7_port_82 rfl 0 17 rfl rfl ev45 ?_
                    refine J_iconst (v := 3) hK dX7_port_83 rfl (by decide) ?_
                    refine J_icmp_lt (tg := 144) hK dX7_port_84 rfl rfl (fun hc84 => ?_) (fun hc84 => ?_)
                    · have hs35 := ip hc84 hs35
                      refine J_iload_n hK dX7_port_144 rfl 2 rfl rfl ?_
                      refine J_if_eq (tg := 166) hK dX7_port_145 rfl rfl (fun hc145 => ?_) (fun hc145 => ?_)
                      · have hs35 := ip hc145 hs35
                        refine J_iinc (L' := [(7, .int (z39 + 1)), (0, .ref (h0 0)), (1, .int p1), (2, .int p2), (3, .int z36), (4, .int z5), (5, .int z37), (6, .int z38)]) (v := (z39 + 1)) hK dX7_port_166 rfl 7 rfl rfl (by decide) rfl ?_
                        refine J_goto hK dX7_port_169 (n := 67) rfl ?_
                        exact J_loc [1, 2, 3, 4, 5, 6, 7, 0] rfl (ih35 z36 z37 z38 (z39 + 1) (lpc hs35 hr35))
                      · have hs35 := iq hc145 hs35
                        refine J_iload hK dX7_port_148 rfl 5 rfl ?_
                        refine J_iload_n hK dX7_port_150 rfl 1 rfl rfl ?_
                        refine J_icmp_ne (tg := 166) hK dX7_port_151 rfl rfl (fun hc151 => ?_) (fun hc151 => ?_)
                        · have hs35 := iq hc151 hs35
                          refine J_iinc (L' := [(7, .int (z39 + 1)), (0, .ref (h0 0)), (1, .int p1), (2, .int p2), (3, .int z36), (4, .int z5), (5, .int z37), (6, .int z38)]) (v := (z39 + 1)) hK dX7_port_166 rfl 7 rfl rfl (by decide) rfl ?_
                          refine J_goto hK dX7_port_169 (n := 67) rfl ?_
                          exact J_loc [1, 2, 3, 4, 5, 6, 7, 0] rfl (ih35 z36 z37 z38 (z39 + 1) (lpc hs35 hr35))
                        · have hs35 := ip hc151 hs35
                          refine J_iload_n hK dX7_port_154 rfl 3 rfl rfl ?_
                          refine J_aload_n hK dX7_port_155 rfl 0 rfl rfl ?_
                          refine J_get hK fo_RX7_48 dX7_port_156 rfl 0 0 rfl rfl rfl ?_
                          refine J_iload hK dX7_port_159 rfl 4 rfl ?_
                          obtain ⟨q46, eq46, hs35⟩ := bs hs35
                          refine J_aald hK dX7_port_161 rfl 0 12 rfl rfl rfl eq46 ?_
                          refine J_iconst (v := 2) hK dX7_port_162 rfl (by decide) ?_
                          obtain ⟨v47, ev47, hs35⟩ := bs hs35
                          refine J_iald hK dX7_port_163 rfl 2 q46 rfl (gridI_at (ck_ok eq46).2.2) ev47 ?_
                          refine J_iadd hK dX7_port_164 rfl ?_
                          refine J_istore_n (L' := [(3, .int (z36 + v47)), (0, .ref (h0 0)), (1, .int p1), (2, .int p2), (4, .int z5), (5, .int z37), (6, .int z38), (7, .int z39)]) hK dX7_port_165 rfl rfl (by decide) rfl ?_
                          refine J_iinc (L' := [(7, .int (z39 + 1)), (3, .int (z36 + v47)), (0, .ref (h0 0)), (1, .int p1), (2, .int p2), (4, .int z5), (5, .int z37), (6, .int z38)]) (v := (z39 + 1)) hK dX7_port_166 rfl 7 rfl rfl (by decide) rfl ?_
                          refine J_goto hK dX7_port_169 (n := 67) rfl ?_
                          exact J_loc [2, 3, 4, 1, 5, 6, 7, 0] rfl (ih35 (z36 + v47) z37 z38 (z39 + 1) (lpc hs35 hr35))
                    · have hs35 := iq hc84 hs35
                      refine J_aload_n hK dX7_port_87 rfl 0 rfl rfl ?_
                      refine J_get hK fo_RX7_39 dX7_port_88 rfl 0 0 rfl rfl rfl ?_
                      refine J_aload_n hK dX7_port_91 rfl 0 rfl rfl ?_
                      refine J_get hK fo_RX7_67 dX7_port_92 rfl 0 0 rfl rfl rfl ?_
                      refine J_iload hK dX7_port_95 rfl 7 rfl ?_
                      obtain ⟨v48, ev48, hs35⟩ := bs hs35
                      refine J_iald hK dX7_port_97 rfl 0 17 rfl rfl ev48 ?_
                      refine J_iconst (v := 3) hK dX7_port_98 rfl (by decide) ?_
                      refine J_isub hK dX7_port_99 rfl ?_
                      obtain ⟨q49, eq49, hs35⟩ := bs hs35
                      refine J_aald hK dX7_port_100 rfl 0 9 rfl rfl rfl eq49 ?_
                      refine J_astore (L' := [(8, .ref (r0_line q49)), (0, .ref (h0 0)), (1, .int p1), (2, .int p2), (3, .int z36), (4, .int z5), (5, .int z37), (6, .int z38), (7, .int z39)]) hK dX7_port_101 rfl (by decide) rfl ?_
                      refine J_aload hK dX7_port_103 rfl 0 rfl ?_
                      refine J_iconst (v := 0) hK dX7_port_105 rfl (by decide) ?_
                      obtain ⟨v50, ev50, hs35⟩ := bs hs35
                      refine J_iald hK dX7_port_106 rfl 1 q49 rfl (gridI_at (ck_ok eq49).2.2) ev50 ?_
                      refine J_iload hK dX7_port_107 rfl 6 rfl ?_
                      have j123 : ∀ (y51 : Int32), fX7_port_j123 p1 z36 z38 z39 y51 = some rr35 → J d Φ 9 [gMd d h0 a0_kept a0_tried a0_chosen r0_rows r0_line r0_good r0_work x0_shelf x0_rowSort x0_rowSize x0_moved x0_shown x0_tape x0_tapeSize x0_refused x0_lines x0_changes x0_coins x0_goods x0_works x0_years x0_gone x0_spent x0_at x0_token x0_from x0_figures x0_fault x0_numbers x0_statements g24 g25 g26 g27 g28 g29 g30 x0_totals, gridI d r0_line 20 7 x0_line, gridI d r0_good 8 3 x0_good] 0 0 123 [(0, .ref (h0 0)), (1, .int p1), (2, .int p2), (3, .int z36), (4, .int z5), (6, .int z38), (7, .int z39)] [.int y51] := by
                        intro y51 hs35
                        unfold fX7_port_j123 at hs35
                        refine J_istore (L' := [(5, .int y51), (0, .ref (h0 0)), (1, .int p1), (2, .int p2), (3, .int z36), (4, .int z5), (6, .int z38), (7, .int z39)]) hK dX7_port_123 rfl (by decide) rfl ?_
                        refine J_iload hK dX7_port_125 rfl 6 rfl ?_
                        refine J_iload hK dX7_port_127 rfl 0 rfl ?_
                        refine J_iload_n hK dX7_port_129 rfl 2 rfl rfl ?_
                        refine J_icmp_ne (tg := 137) hK dX7_port_130 rfl rfl (fun hc130 => ?_) (fun hc130 => ?_)
                        · have hs35 := iq hc130 hs35
                          refine J_iconst (v := 0) hK dX7_port_137 rfl (by decide) ?_
                          refine J_ior hK dX7_port_138 rfl ?_
                          refine J_istore (L' := [(6, .int (z38 ||| 0)), (5, .int y51), (0, .ref (h0 0)), (1, .int p1), (2, .int p2), (3, .int z36), (4, .int z5), (7, .int z39)]) hK dX7_port_139 rfl (by decide) rfl ?_
                          refine J_goto hK dX7_port_141 (n := 166) rfl ?_
                          refine J_iinc (L' := [(7, .int (z39 + 1)), (6, .int (z38 ||| 0)), (5, .int y51), (0, .ref (h0 0)), (1, .int p1), (2, .int p2), (3, .int z36), (4, .int z5)]) (v := (z39 + 1)) hK dX7_port_166 rfl 7 rfl rfl (by decide) rfl ?_
                          refine J_goto hK dX7_port_169 (n := 67) rfl ?_
                          exact J_loc [3, 4, 5, 6, 7, 2, 1, 0] rfl (ih35 z36 y51 (z38 ||| 0) (z39 + 1) (lpc hs35 hr35))
                        · have hs35 := ip hc130 hs35
                          refine J_iconst (v := 1) hK dX7_port_133 rfl (by decide) ?_
                          refine J_goto hK dX7_port_134 (n := 138) rfl ?_
                          refine J_ior hK dX7_port_138 rfl ?_
                          refine J_istore (L' := [(6, .int (z38 ||| 1)), (5, .int y51), (0, .ref (h0 0)), (1, .int p1), (2, .int p2), (3, .int z36), (4, .int z5), (7, .int z39)]) hK dX7_port_139 rfl (by decide) rfl ?_
                          refine J_goto hK dX7_port_141 (n := 166) rfl ?_
                          refine J_iinc (L' := [(7, .int (z39 + 1)), (6, .int (z38 ||| 1)), (5, .int y51), (0, .ref (h0 0)), (1, .int p1), (2, .int p2), (3, .int z36), (4, .int z5)]) (v := (z39 + 1)) hK dX7_port_166 rfl 7 rfl rfl (by decide) rfl ?_
                          refine J_goto hK dX7_port_169 (n := 67) rfl ?_
                          exact J_loc [3, 4, 5, 6, 7, 2, 1, 0] rfl (ih35 z36 y51 (z38 ||| 1) (z39 + 1) (lpc hs35 hr35))
                      refine J_icmp_ne (tg := 119) hK dX7_port_109 rfl rfl (fun hc109 => ?_) (fun hc109 => ?_)
                      · have hs35 := iq hc109 hs35
                        refine J_aload hK dX7_port_119 rfl 0 rfl ?_
                        refine J_iconst (v := 0) hK dX7_port_121 rfl (by decide) ?_
                        obtain ⟨v52, ev52, hs35⟩ := bs hs35
                        refine J_iald hK dX7_port_122 rfl 1 q49 rfl (gridI_at (ck_ok eq49).2.2) ev52 ?_
                        exact J_loc [1, 2, 3, 4, 5, 7, 8] rfl (j123 v52 hs35)
                      · have hs35 := ip hc109 hs35
                        refine J_aload hK dX7_port_112 rfl 0 rfl ?_
                        refine J_iconst (v := 1) hK dX7_port_114 rfl (by decide) ?_
                        obtain ⟨v53, ev53, hs35⟩ := bs hs35
                        refine J_iald hK dX7_port_115 rfl 1 q49 rfl (gridI_at (ck_ok eq49).2.2) ev53 ?_
                        refine J_goto hK dX7_port_116 (n := 123) rfl ?_
                        exact J_loc [1, 2, 3, 4, 5, 7, 8] rfl (j123 v53 hs35)
              exact J_loc [2, 3, 4, 5, 6, 7, 1, 0] rfl (lo35 n z4 v33 y34 (1) hl35)
            refine J_icmp_ne (tg := 61) hK dX7_port_54 rfl rfl (fun hc54 => ?_) (fun hc54 => ?_)
            · have hs3 := iq hc54 hs3
              refine J_iconst (v := 0) hK dX7_port_61 rfl (by decide) ?_
              exact J_loc [1, 2, 3, 4, 5, 0] rfl (j62 (0) hs3)
            · have hs3 := ip hc54 hs3
              refine J_iconst (v := 1) hK dX7_port_57 rfl (by decide) ?_
              refine J_goto hK dX7_port_58 (n := 62) rfl ?_
              exact J_loc [1, 2, 3, 4, 5, 0] rfl (j62 (1) hs3)
          · have hs3 := ip hc34 hs3
            refine J_goto hK dX7_port_37 (n := 197) rfl ?_
            refine J_iinc (L' := [(4, .int (z5 + 1)), (0, .ref (h0 0)), (1, .int p1), (2, .int p2), (3, .int z4)]) (v := (z5 + 1)) hK dX7_port_197 rfl 4 rfl rfl (by decide) rfl ?_
            refine J_goto hK dX7_port_200 (n := 19) rfl ?_
            exact J_loc [1, 2, 3, 4, 0] rfl (ih3 z4 (z5 + 1) g24 g25 g26 g27 g28 g29 g30 (lpc hs3 hr3))
    exact J_loc [2, 3, 4, 1, 0] rfl (lo3 n (0) (0) x0_left x0_far x0_tons x0_way x0_steps x0_met x0_queue hl3)
  · have hf := ip hc4 hf
    refine J_aload_n hK dX7_port_7 rfl 0 rfl rfl ?_
    refine J_bipush (v := (-2)) hK dX7_port_8 rfl (by decide) ?_
    obtain ⟨⟨v54, g55⟩, e56, hf⟩ := bs hf
    have hf := un2 hf
    refine J_callV (m' := 3) (ce' := 0) (sl' := 0) (gr := [gridI d r0_line 20 7 x0_line, gridI d r0_good 8 3 x0_good]) (gs' := fun _ => [gMd d h0 a0_kept a0_tried a0_chosen r0_rows r0_line r0_good r0_work x0_shelf x0_rowSort x0_rowSize x0_moved x0_shown x0_tape x0_tapeSize g55 x0_lines x0_changes x0_coins x0_goods x0_works x0_years x0_gone x0_spent x0_at x0_token x0_from x0_figures x0_fault x0_numbers x0_statements x0_left x0_far x0_tons x0_way x0_steps x0_met x0_queue x0_totals, gridI d r0_line 20 7 x0_line, gridI d r0_good 8 3 x0_good]) (st' := fun _ => [.int v54]) (st := []) hK dX7_port_10 cv_RX7_94 iv_yX7_refuse (As := [.int (-2)]) (kX7_refuse _ d h0 r0_rows r0_line r0_good r0_work a0_kept a0_tried a0_chosen x0_shelf x0_rowSort x0_rowSize x0_rows x0_moved x0_shown x0_tape x0_tapeSize x0_refused x0_lines x0_line x0_changes x0_coins x0_goods x0_good x0_works x0_work x0_years x0_gone x0_spent x0_at x0_token x0_from x0_figures x0_fault x0_numbers x0_statements x0_left x0_far x0_tons x0_way x0_steps x0_met x0_queue x0_totals (-2) e56) rfl rfl (Nat.le_of_ble_eq_true rfl) (by decide) 0 0 rfl rfl rfl [0] [1, 2] rfl rfl rfl rfl [2, 0, 1] rfl (fun _ => rfl) (fun _ => rfl) rfl rfl rfl (fun _ => rfl) (fun _ => ?_)
    obtain rfl := Option.some.inj hf
    exact J_iret hK hR dX7_port_13 () rfl (by decide) (by decide)

def fX7_hangs_j63 (z4 : Int32) (z5 : (Nat → Nat → Int32)) (q20 : Nat) (f21 : (Nat → Int32)) (v22 : Int32) (g23 : (Nat → Int32)) (g24 : (Nat → Int32)) (g25 : Int32) (q27 : Nat) (f28 : (Nat → Int32)) : Option ((Int32 × Int32 × Int32 × (Nat → Nat → Int32) × (Nat → Int32) × (Nat → Int32) × Int32) ⊕ (Int32 × (Nat → Nat → Int32) × (Nat → Int32) × (Nat → Int32) × Int32)) :=
  some (.inl (z4, v22, (z4 + 1), (va_up (va_up z5 q20 f21) q27 f28), g23, g24, g25))
def fX7_hangs_s6 (n : Nat) (x0_shelf : (Nat → Int32)) (x0_rowSort : (Nat → Int32)) (x0_rowSize : (Nat → Int32)) (x0_rows : (Nat → Nat → Int64)) (x0_moved : (Nat → Int64)) (x0_shown : (Nat → Int32)) (x0_tape : (Nat → Int32)) (x0_tapeSize : Int32) (x0_refused : (Nat → Int32)) (x0_lines : Int32) (x0_changes : (Nat → Int32)) (x0_coins : (Nat → Int32)) (x0_goods : Int32) (x0_good : (Nat → Nat → Int32)) (x0_works : Int32) (x0_work : (Nat → Nat → Int32)) (x0_years : Int32) (x0_gone : Int32) (x0_spent : Int32) (x0_at : Int32) (x0_token : Int32) (x0_from : Int32) (x0_figures : Int64) (x0_fault : Int32) (x0_numbers : (Nat → Int32)) (x0_statements : Int32) (x0_way : (Nat → Int32)) (x0_steps : Int32) (x0_met : Int64) (x0_queue : (Nat → Int32)) (x0_totals : (Nat → Int32)) (z2 : Int32) (z3 : Int32) (z4 : Int32) (z5 : (Nat → Nat → Int32)) (z6 : (Nat → Int32)) (z7 : (Nat → Int32)) (z8 : Int32) : Option ((Int32 × Int32 × Int32 × (Nat → Nat → Int32) × (Nat → Int32) × (Nat → Int32) × Int32) ⊕ (Int32 × (Nat → Nat → Int32) × (Nat → Int32) × (Nat → Int32) × Int32)) :=
  if x0_lines ≤ z4 then (some (.inr (z2, z5, z6, z7, z8))) else ((ck z4 20).bind fun q18 => (rd 7 (z5 q18) (6)).bind fun v19 => if v19 = 0 then ((ck z4 20).bind fun q20 => (wr 7 (z5 q20) (6) (1)).bind fun f21 => (fX7_free n (x0_shelf, x0_rowSort, x0_rowSize, x0_rows, x0_moved, x0_shown, x0_tape, x0_tapeSize, x0_refused, x0_lines, (va_up z5 q20 f21), x0_changes, x0_coins, x0_goods, x0_good, x0_works, x0_work, x0_years, x0_gone, x0_spent, x0_at, x0_token, x0_from, x0_figures, x0_fault, x0_numbers, x0_statements, z6, z7, z8, x0_way, x0_steps, x0_met, x0_queue, x0_totals)).bind (u4 fun v22 g23 g24 g25 => (ck z4 20).bind fun q27 => (wr 7 ((va_up z5 q20 f21) q27) (6) (0)).bind fun f28 => if z2 = (-1) then (fX7_hangs_j63 z4 z5 q20 f21 v22 g23 g24 g25 q27 f28) else (if v22 ≤ z3 then (some (.inl (z2, z3, (z4 + 1), (va_up (va_up z5 q20 f21) q27 f28), g23, g24, g25))) else (fX7_hangs_j63 z4 z5 q20 f21 v22 g23 g24 g25 q27 f28)))) else (some (.inl (z2, z3, (z4 + 1), z5, z6, z7, z8))))
def fX7_hangs (n : Nat) (X0 : MdT) : Option (Int32 × ((Nat → Int32) × (Nat → Nat → Int32) × (Nat → Int32) × (Nat → Int32) × Int32)) :=
  u35 (fun (x0_shelf : (Nat → Int32)) (x0_rowSort : (Nat → Int32)) (x0_rowSize : (Nat → Int32)) (x0_rows : (Nat → Nat → Int64)) (x0_moved : (Nat → Int64)) (x0_shown : (Nat → Int32)) (x0_tape : (Nat → Int32)) (x0_tapeSize : Int32) (x0_refused : (Nat → Int32)) (x0_lines : Int32) (x0_line : (Nat → Nat → Int32)) (x0_changes : (Nat → Int32)) (x0_coins : (Nat → Int32)) (x0_goods : Int32) (x0_good : (Nat → Nat → Int32)) (x0_works : Int32) (x0_work : (Nat → Nat → Int32)) (x0_years : Int32) (x0_gone : Int32) (x0_spent : Int32) (x0_at : Int32) (x0_token : Int32) (x0_from : Int32) (x0_figures : Int64) (x0_fault : Int32) (x0_numbers : (Nat → Int32)) (x0_statements : Int32) (x0_left : (Nat → Int32)) (x0_far : (Nat → Int32)) (x0_tons : Int32) (x0_way : (Nat → Int32)) (x0_steps : Int32) (x0_met : Int64) (x0_queue : (Nat → Int32)) (x0_totals : (Nat → Int32)) => (lp (u7 (fX7_hangs_s6 n x0_shelf x0_rowSort x0_rowSize x0_rows x0_moved x0_shown x0_tape x0_tapeSize x0_refused x0_lines x0_changes x0_coins x0_goods x0_good x0_works x0_work x0_years x0_gone x0_spent x0_at x0_token x0_from x0_figures x0_fault x0_numbers x0_statements x0_way x0_steps x0_met x0_queue x0_totals)) n ((-1), 0, 0, x0_line, x0_left, x0_far, x0_tons)).bind (u5 fun w10 w11 w12 w13 w14 => if w10 = (-1) then ((fX7_refuse (x0_shelf, x0_rowSort, x0_rowSize, x0_rows, x0_moved, x0_shown, x0_tape, x0_tapeSize, x0_refused, x0_lines, w11, x0_changes, x0_coins, x0_goods, x0_good, x0_works, x0_work, x0_years, x0_gone, x0_spent, x0_at, x0_token, x0_from, x0_figures, x0_fault, x0_numbers, x0_statements, w12, w13, w14, x0_way, x0_steps, x0_met, x0_queue, x0_totals) (-5)).bind (u2 fun v15 g16 => some (v15, (g16, w11, w12, w13, w14)))) else (some (w10, (x0_refused, w11, w12, w13, w14))))) X0
set_option maxHeartbeats 4000000 in
set_option maxRecDepth 100000 in
theorem kX7_hangs (l : Launch) (d : DT) (h0 : Nat → Nat) (r0_rows : Nat → Nat) (r0_line : Nat → Nat) (r0_good : Nat → Nat) (r0_work : Nat → Nat) (a0_kept : Option Nat) (a0_tried : Option Nat) (a0_chosen : Option Nat) (n : Nat) (x0_shelf : (Nat → Int32)) (x0_rowSort : (Nat → Int32)) (x0_rowSize : (Nat → Int32)) (x0_rows : (Nat → Nat → Int64)) (x0_moved : (Nat → Int64)) (x0_shown : (Nat → Int32)) (x0_tape : (Nat → Int32)) (x0_tapeSize : Int32) (x0_refused : (Nat → Int32)) (x0_lines : Int32) (x0_line : (Nat → Nat → Int32)) (x0_changes : (Nat → Int32)) (x0_coins : (Nat → Int32)) (x0_goods : Int32) (x0_good : (Nat → Nat → Int32)) (x0_works : Int32) (x0_work : (Nat → Nat → Int32)) (x0_years : Int32) (x0_gone : Int32) (x0_spent : Int32) (x0_at : Int32) (x0_token : Int32) (x0_from : Int32) (x0_figures : Int64) (x0_fault : Int32) (x0_numbers : (Nat → Int32)) (x0_statements : Int32) (x0_left : (Nat → Int32)) (x0_far : (Nat → Int32)) (x0_tons : Int32) (x0_way : (Nat → Int32)) (x0_steps : Int32) (x0_met : Int64) (x0_queue : (Nat → Int32)) (x0_totals : (Nat → Int32))  {out : Int32 × ((Nat → Int32) × (Nat → Nat → Int32) × (Nat → Int32) × (Nat → Int32) × Int32)} (hf : fX7_hangs n (x0_shelf, x0_rowSort, x0_rowSize, x0_rows, x0_moved, x0_shown, x0_tape, x0_tapeSize, x0_refused, x0_lines, x0_line, x0_changes, x0_coins, x0_goods, x0_good, x0_works, x0_work, x0_years, x0_gone, x0_spent, x0_at, x0_token, x0_from, x0_figures, x0_fault, x0_numbers, x0_statements, x0_left, x0_far, x0_tons, x0_way, x0_steps, x0_met, x0_queue, x0_totals) = some out) : Ct l d yX7_hangs cX7_hangs 5 (some .int) { frames := 3, cells := 0, slots := 0, locals := 73 } [.ref (h0 0)] [gMd d h0 a0_kept a0_tried a0_chosen r0_rows r0_line r0_good r0_work x0_shelf x0_rowSort x0_rowSize x0_moved x0_shown x0_tape x0_tapeSize x0_refused x0_lines x0_changes x0_coins x0_goods x0_works x0_years x0_gone x0_spent x0_at x0_token x0_from x0_figures x0_fault x0_numbers x0_statements x0_left x0_far x0_tons x0_way x0_steps x0_met x0_queue x0_totals, gridI d r0_line 20 7 x0_line, gridI d r0_good 8 3 x0_good] (fun _ : Unit => (some (.int out.1), [gMd d h0 a0_kept a0_tried a0_chosen r0_rows r0_line r0_good r0_work x0_shelf x0_rowSort x0_rowSize x0_moved x0_shown x0_tape x0_tapeSize (out.2.1) x0_lines x0_changes x0_coins x0_goods x0_works x0_years x0_gone x0_spent x0_at x0_token x0_from x0_figures x0_fault x0_numbers x0_statements (out.2.2.2.1) (out.2.2.2.2.1) (out.2.2.2.2.2) x0_way x0_steps x0_met x0_queue x0_totals, gridI d r0_line 20 7 (out.2.2.1), gridI d r0_good 8 3 x0_good])) := by
  refine Ct.of (by decide) (Nat.le_of_ble_eq_true rfl) ?_
  intro Φ hl hK hR
  subst hl
  have hK : Ok d Φ RX7 "hangs" cX7_hangs 5 (some .int) { frames := 3, cells := 0, slots := 0, locals := 73 } := hK
  unfold fX7_hangs at hf
  have hf := un35 hf
  show J d Φ 5 [gMd d h0 a0_kept a0_tried a0_chosen r0_rows r0_line r0_good r0_work x0_shelf x0_rowSort x0_rowSize x0_moved x0_shown x0_tape x0_tapeSize x0_refused x0_lines x0_changes x0_coins x0_goods x0_works x0_years x0_gone x0_spent x0_at x0_token x0_from x0_figures x0_fault x0_numbers x0_statements x0_left x0_far x0_tons x0_way x0_steps x0_met x0_queue x0_totals, gridI d r0_line 20 7 x0_line, gridI d r0_good 8 3 x0_good] 0 0 0 [(0, .ref (h0 0))] []
  refine J_iconst (v := (-1)) hK dX7_hangs_0 rfl (by decide) ?_
  refine J_istore_n (L' := [(1, .int (-1)), (0, .ref (h0 0))]) hK dX7_hangs_1 rfl rfl (by decide) rfl ?_
  refine J_iconst (v := 0) hK dX7_hangs_2 rfl (by decide) ?_
  refine J_istore_n (L' := [(2, .int (0)), (1, .int (-1)), (0, .ref (h0 0))]) hK dX7_hangs_3 rfl rfl (by decide) rfl ?_
  refine J_iconst (v := 0) hK dX7_hangs_4 rfl (by decide) ?_
  refine J_istore_n (L' := [(3, .int (0)), (2, .int (0)), (1, .int (-1)), (0, .ref (h0 0))]) hK dX7_hangs_5 rfl rfl (by decide) rfl ?_
  obtain ⟨e9, hl1, hf⟩ := bs hf
  have hx1_74 : ∀ (w10 : Int32) (w11 : (Nat → Nat → Int32)) (w12 : (Nat → Int32)) (w13 : (Nat → Int32)) (w14 : Int32), (w10, w11, w12, w13, w14) = e9 → J d Φ 5 [gMd d h0 a0_kept a0_tried a0_chosen r0_rows r0_line r0_good r0_work x0_shelf x0_rowSort x0_rowSize x0_moved x0_shown x0_tape x0_tapeSize x0_refused x0_lines x0_changes x0_coins x0_goods x0_works x0_years x0_gone x0_spent x0_at x0_token x0_from x0_figures x0_fault x0_numbers x0_statements w12 w13 w14 x0_way x0_steps x0_met x0_queue x0_totals, gridI d r0_line 20 7 w11, gridI d r0_good 8 3 x0_good] 0 0 74 [(0, .ref (h0 0)), (1, .int w10)] [] := by
    intro w10 w11 w12 w13 w14 he
    rw [← he] at hf
    have hf := un5 hf
    refine J_iload_n hK dX7_hangs_74 rfl 1 rfl rfl ?_
    refine J_iconst (v := (-1)) hK dX7_hangs_75 rfl (by decide) ?_
    refine J_icmp_ne (tg := 88) hK dX7_hangs_76 rfl rfl (fun hc76 => ?_) (fun hc76 => ?_)
    · have hf := iq hc76 hf
      refine J_iload_n hK dX7_hangs_88 rfl 1 rfl rfl ?_
      obtain rfl := Option.some.inj hf
      exact J_iret hK hR dX7_hangs_89 () rfl (by decide) (by decide)
    · have hf := ip hc76 hf
      refine J_aload_n hK dX7_hangs_79 rfl 0 rfl rfl ?_
      refine J_bipush (v := (-5)) hK dX7_hangs_80 rfl (by decide) ?_
      obtain ⟨⟨v15, g16⟩, e17, hf⟩ := bs hf
      have hf := un2 hf
      refine J_callV (m' := 3) (ce' := 0) (sl' := 0) (gr := [gridI d r0_line 20 7 w11, gridI d r0_good 8 3 x0_good]) (gs' := fun _ => [gMd d h0 a0_kept a0_tried a0_chosen r0_rows r0_line r0_good r0_work x0_shelf x0_rowSort x0_rowSize x0_moved x0_shown x0_tape x0_tapeSize g16 x0_lines x0_changes x0_coins x0_goods x0_works x0_years x0_gone x0_spent x0_at x0_token x0_from x0_figures x0_fault x0_numbers x0_statements w12 w13 w14 x0_way x0_steps x0_met x0_queue x0_totals, gridI d r0_line 20 7 w11, gridI d r0_good 8 3 x0_good]) (st' := fun _ => [.int v15]) (st := []) hK dX7_hangs_82 cv_RX7_94 iv_yX7_refuse (As := [.int (-5)]) (kX7_refuse _ d h0 r0_rows r0_line r0_good r0_work a0_kept a0_tried a0_chosen x0_shelf x0_rowSort x0_rowSize x0_rows x0_moved x0_shown x0_tape x0_tapeSize x0_refused x0_lines w11 x0_changes x0_coins x0_goods x0_good x0_works x0_work x0_years x0_gone x0_spent x0_at x0_token x0_from x0_figures x0_fault x0_numbers x0_statements w12 w13 w14 x0_way x0_steps x0_met x0_queue x0_totals (-5) e17) rfl rfl (Nat.le_of_ble_eq_true rfl) (by decide) 0 0 rfl rfl rfl [0] [1, 2] rfl rfl rfl rfl [2, 0, 1] rfl (fun _ => rfl) (fun _ => rfl) rfl rfl rfl (fun _ => rfl) (fun _ => ?_)
      refine J_goto hK dX7_hangs_85 (n := 89) rfl ?_
      obtain rfl := Option.some.inj hf
      exact J_iret hK hR dX7_hangs_89 () rfl (by decide) (by decide)
  have lo1 : ∀ (k : Nat) (z2 : Int32) (z3 : Int32) (z4 : Int32) (z5 : (Nat → Nat → Int32)) (z6 : (Nat → Int32)) (z7 : (Nat → Int32)) (z8 : Int32), lp (u7 (fX7_hangs_s6 n x0_shelf x0_rowSort x0_rowSize x0_rows x0_moved x0_shown x0_tape x0_tapeSize x0_refused x0_lines x0_changes x0_coins x0_goods x0_good x0_works x0_work x0_years x0_gone x0_spent x0_at x0_token x0_from x0_figures x0_fault x0_numbers x0_statements x0_way x0_steps x0_met x0_queue x0_totals)) k (z2, z3, z4, z5, z6, z7, z8) = some e9 → J d Φ 5 [gMd d h0 a0_kept a0_tried a0_chosen r0_rows r0_line r0_good r0_work x0_shelf x0_rowSort x0_rowSize x0_moved x0_shown x0_tape x0_tapeSize x0_refused x0_lines x0_changes x0_coins x0_goods x0_works x0_years x0_gone x0_spent x0_at x0_token x0_from x0_figures x0_fault x0_numbers x0_statements z6 z7 z8 x0_way x0_steps x0_met x0_queue x0_totals, gridI d r0_line 20 7 z5, gridI d r0_good 8 3 x0_good] 0 0 6 [(0, .ref (h0 0)), (1, .int z2), (2, .int z3), (3, .int z4)] [] := by
    intro k
    induction k with
    | zero => intro z2 z3 z4 z5 z6 z7 z8 h; cases h
    | succ k ih1 =>
      intro z2 z3 z4 z5 z6 z7 z8 h
      obtain ⟨k2, rr1, hk2, hs1, hr1⟩ := lp_ok h
      cases hk2
      have hs1 : fX7_hangs_s6 n x0_shelf x0_rowSort x0_rowSize x0_rows x0_moved x0_shown x0_tape x0_tapeSize x0_refused x0_lines x0_changes x0_coins x0_goods x0_good x0_works x0_work x0_years x0_gone x0_spent x0_at x0_token x0_from x0_figures x0_fault x0_numbers x0_statements x0_way x0_steps x0_met x0_queue x0_totals z2 z3 z4 z5 z6 z7 z8 = some rr1 := hs1
      unfold fX7_hangs_s6 at hs1
      refine J_iload_n hK dX7_hangs_6 rfl 3 rfl rfl ?_
      refine J_aload_n hK dX7_hangs_7 rfl 0 rfl rfl ?_
      refine J_get hK fo_RX7_82 dX7_hangs_8 rfl 0 0 rfl rfl rfl ?_
      refine J_icmp_ge (tg := 74) hK dX7_hangs_11 rfl rfl (fun hc11 => ?_) (fun hc11 => ?_)
      · have hs1 := ip hc11 hs1
        exact J_loc [0, 1] rfl (hx1_74 z2 z5 z6 z7 z8 (lpx hs1 hr1))
      · have hs1 := iq hc11 hs1
        refine J_aload_n hK dX7_hangs_14 rfl 0 rfl rfl ?_
        refine J_get hK fo_RX7_39 dX7_hangs_15 rfl 0 0 rfl rfl rfl ?_
        refine J_iload_n hK dX7_hangs_18 rfl 3 rfl rfl ?_
        obtain ⟨q18, eq18, hs1⟩ := bs hs1
        refine J_aald hK dX7_hangs_19 rfl 0 9 rfl rfl rfl eq18 ?_
        refine J_bipush (v := 6) hK dX7_hangs_20 rfl (by decide) ?_
        obtain ⟨v19, ev19, hs1⟩ := bs hs1
        refine J_iald hK dX7_hangs_22 rfl 1 q18 rfl (gridI_at (ck_ok eq18).2.2) ev19 ?_
        refine J_if_ne (tg := 68) hK dX7_hangs_23 rfl rfl (fun hc23 => ?_) (fun hc23 => ?_)
        · have hs1 := iq hc23 hs1
          refine J_iinc (L' := [(3, .int (z4 + 1)), (0, .ref (h0 0)), (1, .int z2), (2, .int z3)]) (v := (z4 + 1)) hK dX7_hangs_68 rfl 3 rfl rfl (by decide) rfl ?_
          refine J_goto hK dX7_hangs_71 (n := 6) rfl ?_
          exact J_loc [1, 2, 3, 0] rfl (ih1 z2 z3 (z4 + 1) z5 z6 z7 z8 (lpc hs1 hr1))
        · have hs1 := ip hc23 hs1
          refine J_aload_n hK dX7_hangs_26 rfl 0 rfl rfl ?_
          refine J_get hK fo_RX7_39 dX7_hangs_27 rfl 0 0 rfl rfl rfl ?_
          refine J_iload_n hK dX7_hangs_30 rfl 3 rfl rfl ?_
          obtain ⟨q20, eq20, hs1⟩ := bs hs1
          refine J_aald hK dX7_hangs_31 rfl 0 9 rfl rfl rfl eq20 ?_
          refine J_bipush (v := 6) hK dX7_hangs_32 rfl (by decide) ?_
          refine J_iconst (v := 1) hK dX7_hangs_34 rfl (by decide) ?_
          obtain ⟨f21, ef21, hs1⟩ := bs hs1
          refine J_iast (g' := gridI d r0_line 20 7 (va_up z5 q20 f21)) (gs' := [gMd d h0 a0_kept a0_tried a0_chosen r0_rows r0_line r0_good r0_work x0_shelf x0_rowSort x0_rowSize x0_moved x0_shown x0_tape x0_tapeSize x0_refused x0_lines x0_changes x0_coins x0_goods x0_works x0_years x0_gone x0_spent x0_at x0_token x0_from x0_figures x0_fault x0_numbers x0_statements z6 z7 z8 x0_way x0_steps x0_met x0_queue x0_totals, gridI d r0_line 20 7 (va_up z5 q20 f21), gridI d r0_good 8 3 x0_good]) hK dX7_hangs_35 rfl 1 q20 rfl (gridI_at (ck_ok eq20).2.2) ef21 gridI_set rfl ?_
          refine J_aload_n hK dX7_hangs_36 rfl 0 rfl rfl ?_
          obtain ⟨⟨v22, g23, g24, g25⟩, e26, hs1⟩ := bs hs1
          have hs1 := un4 hs1
          refine J_callV (m' := 3) (ce' := 0) (sl' := 0) (gr := []) (gs' := fun _ => [gMd d h0 a0_kept a0_tried a0_chosen r0_rows r0_line r0_good r0_work x0_shelf x0_rowSort x0_rowSize x0_moved x0_shown x0_tape x0_tapeSize x0_refused x0_lines x0_changes x0_coins x0_goods x0_works x0_years x0_gone x0_spent x0_at x0_token x0_from x0_figures x0_fault x0_numbers x0_statements g23 g24 g25 x0_way x0_steps x0_met x0_queue x0_totals, gridI d r0_line 20 7 (va_up z5 q20 f21), gridI d r0_good 8 3 x0_good]) (st' := fun _ => [.int v22]) (st := []) hK dX7_hangs_37 cv_RX7_288 iv_yX7_free (As := []) (kX7_free _ d h0 r0_rows r0_line r0_good r0_work a0_kept a0_tried a0_chosen n x0_shelf x0_rowSort x0_rowSize x0_rows x0_moved x0_shown x0_tape x0_tapeSize x0_refused x0_lines (va_up z5 q20 f21) x0_changes x0_coins x0_goods x0_good x0_works x0_work x0_years x0_gone x0_spent x0_at x0_token x0_from x0_figures x0_fault x0_numbers x0_statements z6 z7 z8 x0_way x0_steps x0_met x0_queue x0_totals e26) rfl rfl (Nat.le_of_ble_eq_true rfl) (by decide) 0 0 rfl rfl rfl [0, 1, 2] [] rfl rfl rfl rfl [0, 1, 2] rfl (fun _ => rfl) (fun _ => rfl) rfl rfl rfl (fun _ => rfl) (fun _ => ?_)
          refine J_istore (L' := [(4, .int v22), (0, .ref (h0 0)), (1, .int z2), (2, .int z3), (3, .int z4)]) hK dX7_hangs_40 rfl (by decide) rfl ?_
          refine J_aload_n hK dX7_hangs_42 rfl 1 rfl rfl ?_
          refine J_get hK fo_RX7_39 dX7_hangs_43 rfl 0 0 rfl rfl rfl ?_
          refine J_iload_n hK dX7_hangs_46 rfl 4 rfl rfl ?_
          obtain ⟨q27, eq27, hs1⟩ := bs hs1
          refine J_aald hK dX7_hangs_47 rfl 0 9 rfl rfl rfl eq27 ?_
          refine J_bipush (v := 6) hK dX7_hangs_48 rfl (by decide) ?_
          refine J_iconst (v := 0) hK dX7_hangs_50 rfl (by decide) ?_
          obtain ⟨f28, ef28, hs1⟩ := bs hs1
          refine J_iast (g' := gridI d r0_line 20 7 (va_up (va_up z5 q20 f21) q27 f28)) (gs' := [gMd d h0 a0_kept a0_tried a0_chosen r0_rows r0_line r0_good r0_work x0_shelf x0_rowSort x0_rowSize x0_moved x0_shown x0_tape x0_tapeSize x0_refused x0_lines x0_changes x0_coins x0_goods x0_works x0_years x0_gone x0_spent x0_at x0_token x0_from x0_figures x0_fault x0_numbers x0_statements g23 g24 g25 x0_way x0_steps x0_met x0_queue x0_totals, gridI d r0_line 20 7 (va_up (va_up z5 q20 f21) q27 f28), gridI d r0_good 8 3 x0_good]) hK dX7_hangs_51 rfl 1 q27 rfl (gridI_at (ck_ok eq27).2.2) ef28 gridI_set rfl ?_
          refine J_iload_n hK dX7_hangs_52 rfl 2 rfl rfl ?_
          refine J_iconst (v := (-1)) hK dX7_hangs_53 rfl (by decide) ?_
          have j63 : fX7_hangs_j63 z4 z5 q20 f21 v22 g23 g24 g25 q27 f28 = some rr1 → J d Φ 5 [gMd d h0 a0_kept a0_tried a0_chosen r0_rows r0_line r0_good r0_work x0_shelf x0_rowSort x0_rowSize x0_moved x0_shown x0_tape x0_tapeSize x0_refused x0_lines x0_changes x0_coins x0_goods x0_works x0_years x0_gone x0_spent x0_at x0_token x0_from x0_figures x0_fault x0_numbers x0_statements g23 g24 g25 x0_way x0_steps x0_met x0_queue x0_totals, gridI d r0_line 20 7 (va_up (va_up z5 q20 f21) q27 f28), gridI d r0_good 8 3 x0_good] 0 0 63 [(0, .ref (h0 0)), (3, .int z4), (4, .int v22)] [] := by
            intro  hs1
            unfold fX7_hangs_j63 at hs1
            refine J_iload_n hK dX7_hangs_63 rfl 1 rfl rfl ?_
            refine J_istore_n (L' := [(1, .int z4), (0, .ref (h0 0)), (3, .int z4), (4, .int v22)]) hK dX7_hangs_64 rfl rfl (by decide) rfl ?_
            refine J_iload hK dX7_hangs_65 rfl 3 rfl ?_
            refine J_istore_n (L' := [(2, .int v22), (1, .int z4), (0, .ref (h0 0)), (3, .int z4), (4, .int v22)]) hK dX7_hangs_67 rfl rfl (by decide) rfl ?_
            refine J_iinc (L' := [(3, .int (z4 + 1)), (2, .int v22), (1, .int z4), (0, .ref (h0 0)), (4, .int v22)]) (v := (z4 + 1)) hK dX7_hangs_68 rfl 3 rfl rfl (by decide) rfl ?_
            refine J_goto hK dX7_hangs_71 (n := 6) rfl ?_
            exact J_loc [3, 2, 1, 0] rfl (ih1 z4 v22 (z4 + 1) (va_up (va_up z5 q20 f21) q27 f28) g23 g24 g25 (lpc hs1 hr1))
          refine J_icmp_eq (tg := 63) hK dX7_hangs_54 rfl rfl (fun hc54 => ?_) (fun hc54 => ?_)
          · have hs1 := ip hc54 hs1
            exact J_loc [1, 4, 0] rfl (j63  hs1)
          · have hs1 := iq hc54 hs1
            refine J_iload hK dX7_hangs_57 rfl 0 rfl ?_
            refine J_iload_n hK dX7_hangs_59 rfl 3 rfl rfl ?_
            refine J_icmp_le (tg := 68) hK dX7_hangs_60 rfl rfl (fun hc60 => ?_) (fun hc60 => ?_)
            · have hs1 := ip hc60 hs1
              refine J_iinc (L' := [(3, .int (z4 + 1)), (4, .int v22), (0, .ref (h0 0)), (1, .int z2), (2, .int z3)]) (v := (z4 + 1)) hK dX7_hangs_68 rfl 4 rfl rfl (by decide) rfl ?_
              refine J_goto hK dX7_hangs_71 (n := 6) rfl ?_
              exact J_loc [2, 3, 4, 0] rfl (ih1 z2 z3 (z4 + 1) (va_up (va_up z5 q20 f21) q27 f28) g23 g24 g25 (lpc hs1 hr1))
            · have hs1 := iq hc60 hs1
              exact J_loc [1, 4, 0] rfl (j63  hs1)
  exact J_loc [3, 2, 1, 0] rfl (lo1 n (-1) (0) (0) x0_line x0_left x0_far x0_tons hl1)

def fX7_does_j137 (x0_lines : Int32) (x0_changes : (Nat → Int32)) (x0_work : (Nat → Nat → Int32)) (q1 : Nat) (f2 : (Nat → Int32)) (g20 : (Nat → Nat → Int32)) (q22 : Nat) (y24 : Int32) : Option (Int32 × (Nat → Nat → Int32) × (Nat → Int32) × (Nat → Nat → Int32)) :=
  (wr 7 (g20 q22) (4) y24).bind fun f25 => some ((x0_lines + 1), (va_up g20 q22 f25), x0_changes, (va_up x0_work q1 f2))
def fX7_does (X0 : MdT) (p1 : Int32) : Option (Int32 × (Nat → Nat → Int32) × (Nat → Int32) × (Nat → Nat → Int32)) :=
  u35 (fun (x0_shelf : (Nat → Int32)) (x0_rowSort : (Nat → Int32)) (x0_rowSize : (Nat → Int32)) (x0_rows : (Nat → Nat → Int64)) (x0_moved : (Nat → Int64)) (x0_shown : (Nat → Int32)) (x0_tape : (Nat → Int32)) (x0_tapeSize : Int32) (x0_refused : (Nat → Int32)) (x0_lines : Int32) (x0_line : (Nat → Nat → Int32)) (x0_changes : (Nat → Int32)) (x0_coins : (Nat → Int32)) (x0_goods : Int32) (x0_good : (Nat → Nat → Int32)) (x0_works : Int32) (x0_work : (Nat → Nat → Int32)) (x0_years : Int32) (x0_gone : Int32) (x0_spent : Int32) (x0_at : Int32) (x0_token : Int32) (x0_from : Int32) (x0_figures : Int64) (x0_fault : Int32) (x0_numbers : (Nat → Int32)) (x0_statements : Int32) (x0_left : (Nat → Int32)) (x0_far : (Nat → Int32)) (x0_tons : Int32) (x0_way : (Nat → Int32)) (x0_steps : Int32) (x0_met : Int64) (x0_queue : (Nat → Int32)) (x0_totals : (Nat → Int32)) => (ck p1 7).bind fun q1 => (wr 5 (x0_work q1) (4) (1)).bind fun f2 => (rd 5 ((va_up x0_work q1 f2) q1) (0)).bind fun v3 => if v3 = 1 then ((rd 5 ((va_up x0_work q1 f2) q1) (1)).bind fun v4 => (ck v4 20).bind fun q5 => (rd 5 ((va_up x0_work q1 f2) q1) (2)).bind fun v6 => (some ((1 : Int32) <<< (v6 &&& 31))).bind fun t7 => (wr 7 (x0_line q5) (2) t7).bind fun f8 => some (x0_lines, (va_up x0_line q5 f8), x0_changes, (va_up x0_work q1 f2))) else (if v3 = 2 then ((rd 5 ((va_up x0_work q1 f2) q1) (1)).bind fun v9 => (ck v9 20).bind fun q10 => (rd 7 (x0_line q10) (2)).bind fun v11 => (rd 5 ((va_up x0_work q1 f2) q1) (2)).bind fun v12 => (some (v11 ||| ((1 : Int32) <<< (v12 &&& 31)))).bind fun t13 => (wr 7 (x0_line q10) (2) t13).bind fun f14 => some (x0_lines, (va_up x0_line q10 f14), x0_changes, (va_up x0_work q1 f2))) else (if v3 = 3 then ((rd 5 ((va_up x0_work q1 f2) q1) (1)).bind fun v15 => (rd 5 ((va_up x0_work q1 f2) q1) (2)).bind fun v16 => (wr 12 x0_changes v15 v16).bind fun f17 => some (x0_lines, x0_line, f17, (va_up x0_work q1 f2))) else (if 20 ≤ x0_lines then (some (x0_lines, x0_line, x0_changes, (va_up x0_work q1 f2))) else ((rd 5 ((va_up x0_work q1 f2) q1) (1)).bind fun v18 => (rd 5 ((va_up x0_work q1 f2) q1) (2)).bind fun v19 => (fX7_newLine (x0_shelf, x0_rowSort, x0_rowSize, x0_rows, x0_moved, x0_shown, x0_tape, x0_tapeSize, x0_refused, x0_lines, x0_line, x0_changes, x0_coins, x0_goods, x0_good, x0_works, (va_up x0_work q1 f2), x0_years, x0_gone, x0_spent, x0_at, x0_token, x0_from, x0_figures, x0_fault, x0_numbers, x0_statements, x0_left, x0_far, x0_tons, x0_way, x0_steps, x0_met, x0_queue, x0_totals) v18 v19).bind (fun g20 => (ck x0_lines 20).bind fun q22 => (rd 5 ((va_up x0_work q1 f2) q1) (0)).bind fun v23 => if v23 = 4 then (fX7_does_j137 x0_lines x0_changes x0_work q1 f2 g20 q22 (99)) else (fX7_does_j137 x0_lines x0_changes x0_work q1 f2 g20 q22 (198)))))))) X0
set_option maxHeartbeats 4000000 in
set_option maxRecDepth 100000 in
theorem kX7_does (l : Launch) (d : DT) (h0 : Nat → Nat) (r0_rows : Nat → Nat) (r0_line : Nat → Nat) (r0_good : Nat → Nat) (r0_work : Nat → Nat) (a0_kept : Option Nat) (a0_tried : Option Nat) (a0_chosen : Option Nat) (x0_shelf : (Nat → Int32)) (x0_rowSort : (Nat → Int32)) (x0_rowSize : (Nat → Int32)) (x0_rows : (Nat → Nat → Int64)) (x0_moved : (Nat → Int64)) (x0_shown : (Nat → Int32)) (x0_tape : (Nat → Int32)) (x0_tapeSize : Int32) (x0_refused : (Nat → Int32)) (x0_lines : Int32) (x0_line : (Nat → Nat → Int32)) (x0_changes : (Nat → Int32)) (x0_coins : (Nat → Int32)) (x0_goods : Int32) (x0_good : (Nat → Nat → Int32)) (x0_works : Int32) (x0_work : (Nat → Nat → Int32)) (x0_years : Int32) (x0_gone : Int32) (x0_spent : Int32) (x0_at : Int32) (x0_token : Int32) (x0_from : Int32) (x0_figures : Int64) (x0_fault : Int32) (x0_numbers : (Nat → Int32)) (x0_statements : Int32) (x0_left : (Nat → Int32)) (x0_far : (Nat → Int32)) (x0_tons : Int32) (x0_way : (Nat → Int32)) (x0_steps : Int32) (x0_met : Int64) (x0_queue : (Nat → Int32)) (x0_totals : (Nat → Int32)) (p1 : Int32)  {out : Int32 × (Nat → Nat → Int32) × (Nat → Int32) × (Nat → Nat → Int32)} (hf : fX7_does (x0_shelf, x0_rowSort, x0_rowSize, x0_rows, x0_moved, x0_shown, x0_tape, x0_tapeSize, x0_refused, x0_lines, x0_line, x0_changes, x0_coins, x0_goods, x0_good, x0_works, x0_work, x0_years, x0_gone, x0_spent, x0_at, x0_token, x0_from, x0_figures, x0_fault, x0_numbers, x0_statements, x0_left, x0_far, x0_tons, x0_way, x0_steps, x0_met, x0_queue, x0_totals) p1 = some out) : Ct l d yX7_does cX7_does 3 none { frames := 1, cells := 0, slots := 0, locals := 23 } [.ref (h0 0), .int p1] [gMd d h0 a0_kept a0_tried a0_chosen r0_rows r0_line r0_good r0_work x0_shelf x0_rowSort x0_rowSize x0_moved x0_shown x0_tape x0_tapeSize x0_refused x0_lines x0_changes x0_coins x0_goods x0_works x0_years x0_gone x0_spent x0_at x0_token x0_from x0_figures x0_fault x0_numbers x0_statements x0_left x0_far x0_tons x0_way x0_steps x0_met x0_queue x0_totals, gridI d r0_line 20 7 x0_line, gridI d r0_work 7 5 x0_work] (fun _ : Unit => (none, [gMd d h0 a0_kept a0_tried a0_chosen r0_rows r0_line r0_good r0_work x0_shelf x0_rowSort x0_rowSize x0_moved x0_shown x0_tape x0_tapeSize x0_refused (out.1) (out.2.2.1) x0_coins x0_goods x0_works x0_years x0_gone x0_spent x0_at x0_token x0_from x0_figures x0_fault x0_numbers x0_statements x0_left x0_far x0_tons x0_way x0_steps x0_met x0_queue x0_totals, gridI d r0_line 20 7 (out.2.1), gridI d r0_work 7 5 (out.2.2.2)])) := by
  refine Ct.of (by decide) (Nat.le_of_ble_eq_true rfl) ?_
  intro Φ hl hK hR
  subst hl
  have hK : Ok d Φ RX7 "does" cX7_does 3 none { frames := 1, cells := 0, slots := 0, locals := 23 } := hK
  unfold fX7_does at hf
  have hf := un35 hf
  show J d Φ 3 [gMd d h0 a0_kept a0_tried a0_chosen r0_rows r0_line r0_good r0_work x0_shelf x0_rowSort x0_rowSize x0_moved x0_shown x0_tape x0_tapeSize x0_refused x0_lines x0_changes x0_coins x0_goods x0_works x0_years x0_gone x0_spent x0_at x0_token x0_from x0_figures x0_fault x0_numbers x0_statements x0_left x0_far x0_tons x0_way x0_steps x0_met x0_queue x0_totals, gridI d r0_line 20 7 x0_line, gridI d r0_work 7 5 x0_work] 0 0 0 [(0, .ref (h0 0)), (1, .int p1)] []
  refine J_aload_n hK dX7_does_0 rfl 0 rfl rfl ?_
  refine J_get hK fo_RX7_51 dX7_does_1 rfl 0 0 rfl rfl rfl ?_
  refine J_iload_n hK dX7_does_4 rfl 1 rfl rfl ?_
  obtain ⟨q1, eq1, hf⟩ := bs hf
  refine J_aald hK dX7_does_5 rfl 0 13 rfl rfl rfl eq1 ?_
  refine J_astore_n (L' := [(2, .ref (r0_work q1)), (0, .ref (h0 0)), (1, .int p1)]) hK dX7_does_6 rfl rfl (by decide) rfl ?_
  refine J_aload_n hK dX7_does_7 rfl 0 rfl rfl ?_
  refine J_iconst (v := 4) hK dX7_does_8 rfl (by decide) ?_
  refine J_iconst (v := 1) hK dX7_does_9 rfl (by decide) ?_
  obtain ⟨f2, ef2, hf⟩ := bs hf
  refine J_iast (g' := gridI d r0_work 7 5 (va_up x0_work q1 f2)) (gs' := [gMd d h0 a0_kept a0_tried a0_chosen r0_rows r0_line r0_good r0_work x0_shelf x0_rowSort x0_rowSize x0_moved x0_shown x0_tape x0_tapeSize x0_refused x0_lines x0_changes x0_coins x0_goods x0_works x0_years x0_gone x0_spent x0_at x0_token x0_from x0_figures x0_fault x0_numbers x0_statements x0_left x0_far x0_tons x0_way x0_steps x0_met x0_queue x0_totals, gridI d r0_line 20 7 x0_line, gridI d r0_work 7 5 (va_up x0_work q1 f2)]) hK dX7_does_10 rfl 2 q1 rfl (gridI_at (ck_ok eq1).2.2) ef2 gridI_set rfl ?_
  refine J_aload_n hK dX7_does_11 rfl 0 rfl rfl ?_
  refine J_iconst (v := 0) hK dX7_does_12 rfl (by decide) ?_
  obtain ⟨v3, ev3, hf⟩ := bs hf
  refine J_iald hK dX7_does_13 rfl 2 q1 rfl (gridI_at (ck_ok eq1).2.2) ev3 ?_
  by_cases hc14_1 : v3 = 1
  · have hf := ip hc14_1 hf
    refine J_swI (tg := 40) hK dX7_does_14 (by rw [hc14_1]; decide) (by rw [hc14_1]; decide) (by rw [hc14_1]; rfl) rfl ?_
    refine J_aload_n hK dX7_does_40 rfl 1 rfl rfl ?_
    refine J_get hK fo_RX7_39 dX7_does_41 rfl 0 0 rfl rfl rfl ?_
    refine J_aload_n hK dX7_does_44 rfl 0 rfl rfl ?_
    refine J_iconst (v := 1) hK dX7_does_45 rfl (by decide) ?_
    obtain ⟨v4, ev4, hf⟩ := bs hf
    refine J_iald hK dX7_does_46 rfl 2 q1 rfl (gridI_at (ck_ok eq1).2.2) ev4 ?_
    obtain ⟨q5, eq5, hf⟩ := bs hf
    refine J_aald hK dX7_does_47 rfl 0 9 rfl rfl rfl eq5 ?_
    refine J_iconst (v := 2) hK dX7_does_48 rfl (by decide) ?_
    refine J_iconst (v := 1) hK dX7_does_49 rfl (by decide) ?_
    refine J_aload_n hK dX7_does_50 rfl 0 rfl rfl ?_
    refine J_iconst (v := 2) hK dX7_does_51 rfl (by decide) ?_
    obtain ⟨v6, ev6, hf⟩ := bs hf
    refine J_iald hK dX7_does_52 rfl 2 q1 rfl (gridI_at (ck_ok eq1).2.2) ev6 ?_
    refine J_ishl hK dX7_does_53 rfl ?_
    obtain ⟨t7, et7, hf⟩ := bs hf
    refine J_nmi et7 ?_
    obtain ⟨f8, ef8, hf⟩ := bs hf
    refine J_iast (g' := gridI d r0_line 20 7 (va_up x0_line q5 f8)) (gs' := [gMd d h0 a0_kept a0_tried a0_chosen r0_rows r0_line r0_good r0_work x0_shelf x0_rowSort x0_rowSize x0_moved x0_shown x0_tape x0_tapeSize x0_refused x0_lines x0_changes x0_coins x0_goods x0_works x0_years x0_gone x0_spent x0_at x0_token x0_from x0_figures x0_fault x0_numbers x0_statements x0_left x0_far x0_tons x0_way x0_steps x0_met x0_queue x0_totals, gridI d r0_line 20 7 (va_up x0_line q5 f8), gridI d r0_work 7 5 (va_up x0_work q1 f2)]) hK dX7_does_54 rfl 1 q5 rfl (gridI_at (ck_ok eq5).2.2) ef8 gridI_set rfl ?_
    refine J_goto hK dX7_does_55 (n := 148) rfl ?_
    obtain rfl := Option.some.inj hf
    exact J_vret hK hR dX7_does_148 () rfl (by decide) (by decide)
  have hf := iq hc14_1 hf
  by_cases hc14_2 : v3 = 2
  · have hf := ip hc14_2 hf
    refine J_swI (tg := 58) hK dX7_does_14 (by rw [hc14_2]; decide) (by rw [hc14_2]; decide) (by rw [hc14_2]; rfl) rfl ?_
    refine J_aload_n hK dX7_does_58 rfl 1 rfl rfl ?_
    refine J_get hK fo_RX7_39 dX7_does_59 rfl 0 0 rfl rfl rfl ?_
    refine J_aload_n hK dX7_does_62 rfl 0 rfl rfl ?_
    refine J_iconst (v := 1) hK dX7_does_63 rfl (by decide) ?_
    obtain ⟨v9, ev9, hf⟩ := bs hf
    refine J_iald hK dX7_does_64 rfl 2 q1 rfl (gridI_at (ck_ok eq1).2.2) ev9 ?_
    obtain ⟨q10, eq10, hf⟩ := bs hf
    refine J_aald hK dX7_does_65 rfl 0 9 rfl rfl rfl eq10 ?_
    refine J_iconst (v := 2) hK dX7_does_66 rfl (by decide) ?_
    refine J_dup2 hK dX7_does_67 rfl rfl rfl ?_
    obtain ⟨v11, ev11, hf⟩ := bs hf
    refine J_iald hK dX7_does_68 rfl 1 q10 rfl (gridI_at (ck_ok eq10).2.2) ev11 ?_
    refine J_iconst (v := 1) hK dX7_does_69 rfl (by decide) ?_
    refine J_aload_n hK dX7_does_70 rfl 0 rfl rfl ?_
    refine J_iconst (v := 2) hK dX7_does_71 rfl (by decide) ?_
    obtain ⟨v12, ev12, hf⟩ := bs hf
    refine J_iald hK dX7_does_72 rfl 2 q1 rfl (gridI_at (ck_ok eq1).2.2) ev12 ?_
    refine J_ishl hK dX7_does_73 rfl ?_
    refine J_ior hK dX7_does_74 rfl ?_
    obtain ⟨t13, et13, hf⟩ := bs hf
    refine J_nmi et13 ?_
    obtain ⟨f14, ef14, hf⟩ := bs hf
    refine J_iast (g' := gridI d r0_line 20 7 (va_up x0_line q10 f14)) (gs' := [gMd d h0 a0_kept a0_tried a0_chosen r0_rows r0_line r0_good r0_work x0_shelf x0_rowSort x0_rowSize x0_moved x0_shown x0_tape x0_tapeSize x0_refused x0_lines x0_changes x0_coins x0_goods x0_works x0_years x0_gone x0_spent x0_at x0_token x0_from x0_figures x0_fault x0_numbers x0_statements x0_left x0_far x0_tons x0_way x0_steps x0_met x0_queue x0_totals, gridI d r0_line 20 7 (va_up x0_line q10 f14), gridI d r0_work 7 5 (va_up x0_work q1 f2)]) hK dX7_does_75 rfl 1 q10 rfl (gridI_at (ck_ok eq10).2.2) ef14 gridI_set rfl ?_
    refine J_goto hK dX7_does_76 (n := 148) rfl ?_
    obtain rfl := Option.some.inj hf
    exact J_vret hK hR dX7_does_148 () rfl (by decide) (by decide)
  have hf := iq hc14_2 hf
  by_cases hc14_3 : v3 = 3
  · have hf := ip hc14_3 hf
    refine J_swI (tg := 79) hK dX7_does_14 (by rw [hc14_3]; decide) (by rw [hc14_3]; decide) (by rw [hc14_3]; rfl) rfl ?_
    refine J_aload_n hK dX7_does_79 rfl 1 rfl rfl ?_
    refine J_get hK fo_RX7_42 dX7_does_80 rfl 0 0 rfl rfl rfl ?_
    refine J_aload_n hK dX7_does_83 rfl 0 rfl rfl ?_
    refine J_iconst (v := 1) hK dX7_does_84 rfl (by decide) ?_
    obtain ⟨v15, ev15, hf⟩ := bs hf
    refine J_iald hK dX7_does_85 rfl 2 q1 rfl (gridI_at (ck_ok eq1).2.2) ev15 ?_
    refine J_aload_n hK dX7_does_86 rfl 0 rfl rfl ?_
    refine J_iconst (v := 2) hK dX7_does_87 rfl (by decide) ?_
    obtain ⟨v16, ev16, hf⟩ := bs hf
    refine J_iald hK dX7_does_88 rfl 2 q1 rfl (gridI_at (ck_ok eq1).2.2) ev16 ?_
    obtain ⟨f17, ef17, hf⟩ := bs hf
    refine J_iast (g' := gMd d h0 a0_kept a0_tried a0_chosen r0_rows r0_line r0_good r0_work x0_shelf x0_rowSort x0_rowSize x0_moved x0_shown x0_tape x0_tapeSize x0_refused x0_lines f17 x0_coins x0_goods x0_works x0_years x0_gone x0_spent x0_at x0_token x0_from x0_figures x0_fault x0_numbers x0_statements x0_left x0_far x0_tons x0_way x0_steps x0_met x0_queue x0_totals) (gs' := [gMd d h0 a0_kept a0_tried a0_chosen r0_rows r0_line r0_good r0_work x0_shelf x0_rowSort x0_rowSize x0_moved x0_shown x0_tape x0_tapeSize x0_refused x0_lines f17 x0_coins x0_goods x0_works x0_years x0_gone x0_spent x0_at x0_token x0_from x0_figures x0_fault x0_numbers x0_statements x0_left x0_far x0_tons x0_way x0_steps x0_met x0_queue x0_totals, gridI d r0_line 20 7 x0_line, gridI d r0_work 7 5 (va_up x0_work q1 f2)]) hK dX7_does_89 rfl 0 10 rfl rfl ef17 rfl rfl ?_
    refine J_goto hK dX7_does_90 (n := 148) rfl ?_
    obtain rfl := Option.some.inj hf
    exact J_vret hK hR dX7_does_148 () rfl (by decide) (by decide)
  have hf := iq hc14_3 hf
  refine J_swO (tg := 93) hK dX7_does_14 (by have q1 : ¬ v3.toInt = 1 := fun h => hc14_1 (Int32.toInt_inj.mp (h.trans (by decide))); have q2 : ¬ v3.toInt = 2 := fun h => hc14_2 (Int32.toInt_inj.mp (h.trans (by decide))); have q3 : ¬ v3.toInt = 3 := fun h => hc14_3 (Int32.toInt_inj.mp (h.trans (by decide))); omega) rfl ?_
  refine J_aload_n hK dX7_does_93 rfl 1 rfl rfl ?_
  refine J_get hK fo_RX7_82 dX7_does_94 rfl 0 0 rfl rfl rfl ?_
  refine J_bipush (v := 20) hK dX7_does_97 rfl (by decide) ?_
  refine J_icmp_ge (tg := 148) hK dX7_does_99 rfl rfl (fun hc99 => ?_) (fun hc99 => ?_)
  · have hf := ip hc99 hf
    obtain rfl := Option.some.inj hf
    exact J_vret hK hR dX7_does_148 () rfl (by decide) (by decide)
  · have hf := iq hc99 hf
    refine J_aload_n hK dX7_does_102 rfl 1 rfl rfl ?_
    refine J_aload_n hK dX7_does_103 rfl 0 rfl rfl ?_
    refine J_iconst (v := 1) hK dX7_does_104 rfl (by decide) ?_
    obtain ⟨v18, ev18, hf⟩ := bs hf
    refine J_iald hK dX7_does_105 rfl 2 q1 rfl (gridI_at (ck_ok eq1).2.2) ev18 ?_
    refine J_aload_n hK dX7_does_106 rfl 0 rfl rfl ?_
    refine J_iconst (v := 2) hK dX7_does_107 rfl (by decide) ?_
    obtain ⟨v19, ev19, hf⟩ := bs hf
    refine J_iald hK dX7_does_108 rfl 2 q1 rfl (gridI_at (ck_ok eq1).2.2) ev19 ?_
    obtain ⟨g20, e21, hf⟩ := bs hf
    refine J_callV (m' := 3) (ce' := 0) (sl' := 0) (gr := [gridI d r0_work 7 5 (va_up x0_work q1 f2)]) (gs' := fun _ => [gMd d h0 a0_kept a0_tried a0_chosen r0_rows r0_line r0_good r0_work x0_shelf x0_rowSort x0_rowSize x0_moved x0_shown x0_tape x0_tapeSize x0_refused x0_lines x0_changes x0_coins x0_goods x0_works x0_years x0_gone x0_spent x0_at x0_token x0_from x0_figures x0_fault x0_numbers x0_statements x0_left x0_far x0_tons x0_way x0_steps x0_met x0_queue x0_totals, gridI d r0_line 20 7 g20, gridI d r0_work 7 5 (va_up x0_work q1 f2)]) (st' := fun _ => []) (st := []) hK dX7_does_109 cv_RX7_119 iv_yX7_newLine (As := [.int v18, .int v19]) (kX7_newLine _ d h0 r0_rows r0_line r0_good r0_work a0_kept a0_tried a0_chosen x0_shelf x0_rowSort x0_rowSize x0_rows x0_moved x0_shown x0_tape x0_tapeSize x0_refused x0_lines x0_line x0_changes x0_coins x0_goods x0_good x0_works (va_up x0_work q1 f2) x0_years x0_gone x0_spent x0_at x0_token x0_from x0_figures x0_fault x0_numbers x0_statements x0_left x0_far x0_tons x0_way x0_steps x0_met x0_queue x0_totals v18 v19 e21) rfl rfl (Nat.le_of_ble_eq_true rfl) (by decide) 0 0 rfl rfl rfl [0, 1] [2] rfl rfl rfl rfl [1, 2, 0] rfl (fun _ => rfl) (fun _ => rfl) rfl rfl rfl (fun _ => rfl) (fun _ => ?_)
    refine J_aload_n hK dX7_does_112 rfl 1 rfl rfl ?_
    refine J_get hK fo_RX7_39 dX7_does_113 rfl 0 0 rfl rfl rfl ?_
    refine J_aload_n hK dX7_does_116 rfl 1 rfl rfl ?_
    refine J_get hK fo_RX7_82 dX7_does_117 rfl 0 0 rfl rfl rfl ?_
    obtain ⟨q22, eq22, hf⟩ := bs hf
    refine J_aald hK dX7_does_120 rfl 0 9 rfl rfl rfl eq22 ?_
    refine J_iconst (v := 4) hK dX7_does_121 rfl (by decide) ?_
    refine J_aload_n hK dX7_does_122 rfl 0 rfl rfl ?_
    refine J_iconst (v := 0) hK dX7_does_123 rfl (by decide) ?_
    obtain ⟨v23, ev23, hf⟩ := bs hf
    refine J_iald hK dX7_does_124 rfl 2 q1 rfl (gridI_at (ck_ok eq1).2.2) ev23 ?_
    refine J_iconst (v := 4) hK dX7_does_125 rfl (by decide) ?_
    have j137 : ∀ (y24 : Int32), fX7_does_j137 x0_lines x0_changes x0_work q1 f2 g20 q22 y24 = some out → J d Φ 3 [gMd d h0 a0_kept a0_tried a0_chosen r0_rows r0_line r0_good r0_work x0_shelf x0_rowSort x0_rowSize x0_moved x0_shown x0_tape x0_tapeSize x0_refused x0_lines x0_changes x0_coins x0_goods x0_works x0_years x0_gone x0_spent x0_at x0_token x0_from x0_figures x0_fault x0_numbers x0_statements x0_left x0_far x0_tons x0_way x0_steps x0_met x0_queue x0_totals, gridI d r0_line 20 7 g20, gridI d r0_work 7 5 (va_up x0_work q1 f2)] 0 0 137 [(0, .ref (h0 0))] [.int y24, .int (4), .ref (r0_line q22)] := by
      intro y24 hf
      unfold fX7_does_j137 at hf
      obtain ⟨f25, ef25, hf⟩ := bs hf
      refine J_iast (g' := gridI d r0_line 20 7 (va_up g20 q22 f25)) (gs' := [gMd d h0 a0_kept a0_tried a0_chosen r0_rows r0_line r0_good r0_work x0_shelf x0_rowSort x0_rowSize x0_moved x0_shown x0_tape x0_tapeSize x0_refused x0_lines x0_changes x0_coins x0_goods x0_works x0_years x0_gone x0_spent x0_at x0_token x0_from x0_figures x0_fault x0_numbers x0_statements x0_left x0_far x0_tons x0_way x0_steps x0_met x0_queue x0_totals, gridI d r0_line 20 7 (va_up g20 q22 f25), gridI d r0_work 7 5 (va_up x0_work q1 f2)]) hK dX7_does_137 rfl 1 q22 rfl (gridI_at (ck_ok eq22).2.2) ef25 gridI_set rfl ?_
      refine J_aload_n hK dX7_does_138 rfl 0 rfl rfl ?_
      refine J_dup hK dX7_does_139 rfl rfl ?_
      refine J_get hK fo_RX7_82 dX7_does_140 rfl 0 0 rfl rfl rfl ?_
      refine J_iconst (v := 1) hK dX7_does_143 rfl (by decide) ?_
      refine J_iadd hK dX7_does_144 rfl ?_
      refine J_put (g' := gMd d h0 a0_kept a0_tried a0_chosen r0_rows r0_line r0_good r0_work x0_shelf x0_rowSort x0_rowSize x0_moved x0_shown x0_tape x0_tapeSize x0_refused (x0_lines + 1) x0_changes x0_coins x0_goods x0_works x0_years x0_gone x0_spent x0_at x0_token x0_from x0_figures x0_fault x0_numbers x0_statements x0_left x0_far x0_tons x0_way x0_steps x0_met x0_queue x0_totals) (gs' := [gMd d h0 a0_kept a0_tried a0_chosen r0_rows r0_line r0_good r0_work x0_shelf x0_rowSort x0_rowSize x0_moved x0_shown x0_tape x0_tapeSize x0_refused (x0_lines + 1) x0_changes x0_coins x0_goods x0_works x0_years x0_gone x0_spent x0_at x0_token x0_from x0_figures x0_fault x0_numbers x0_statements x0_left x0_far x0_tons x0_way x0_steps x0_met x0_queue x0_totals, gridI d r0_line 20 7 (va_up g20 q22 f25), gridI d r0_work 7 5 (va_up x0_work q1 f2)]) hK fp_RX7_82 dX7_does_145 rfl 0 0 rfl rfl rfl rfl (Nat.le_of_ble_eq_true rfl) rfl rfl ?_
      obtain rfl := Option.some.inj hf
      exact J_vret hK hR dX7_does_148 () rfl (by decide) (by decide)
    refine J_icmp_ne (tg := 134) hK dX7_does_126 rfl rfl (fun hc126 => ?_) (fun hc126 => ?_)
    · have hf := iq hc126 hf
      refine J_sipush (v := 198) hK dX7_does_134 rfl (by decide) ?_
      exact J_loc [1] rfl (j137 (198) hf)
    · have hf := ip hc126 hf
      refine J_bipush (v := 99) hK dX7_does_129 rfl (by decide) ?_
      refine J_goto hK dX7_does_131 (n := 137) rfl ?_
      exact J_loc [1] rfl (j137 (99) hf)

def fX7_totalOf_s10 (p1 : Int32) (x0_works : Int32) (x1_shelf : (Nat → Int32)) (x1_rowSort : (Nat → Int32)) (x1_rowSize : (Nat → Int32)) (x1_rows : (Nat → Nat → Int64)) (x1_moved : (Nat → Int64)) (x1_shown : (Nat → Int32)) (x1_tape : (Nat → Int32)) (x1_tapeSize : Int32) (x1_refused : (Nat → Int32)) (x1_at : Int32) (x1_token : Int32) (x1_from : Int32) (x1_figures : Int64) (x1_fault : Int32) (x1_numbers : (Nat → Int32)) (x1_statements : Int32) (x1_left : (Nat → Int32)) (x1_far : (Nat → Int32)) (x1_tons : Int32) (x1_way : (Nat → Int32)) (x1_steps : Int32) (x1_met : Int64) (x1_queue : (Nat → Int32)) (x1_totals : (Nat → Int32)) (g5 : (Nat → Int32)) (g6 : Int32) (g7 : (Nat → Nat → Int32)) (g8 : Int32) (g10 : Int32) (g11 : Int32) (g12 : Int32) (z15 : Int32) (z16 : Int32) (z17 : Int32) (z18 : (Nat → Nat → Int32)) (z19 : (Nat → Int32)) (z20 : (Nat → Nat → Int32)) : Option ((Int32 × Int32 × Int32 × (Nat → Nat → Int32) × (Nat → Int32) × (Nat → Nat → Int32)) ⊕ (Int32 × Int32 × (Nat → Nat → Int32) × (Nat → Int32) × (Nat → Nat → Int32))) :=
  if x0_works ≤ z16 then (some (.inr (z15, z17, z18, z19, z20))) else (if ((p1 >>> (z16 &&& 31)) &&& 1) = 0 then (some (.inl (z15, (z16 + 1), z17, z18, z19, z20))) else ((ck z16 7).bind fun q32 => (rd 5 (z20 q32) (4)).bind fun v33 => if v33 = 0 then ((ck z16 7).bind fun q34 => (rd 5 (z20 q34) (3)).bind fun v35 => (fX7_does (x1_shelf, x1_rowSort, x1_rowSize, x1_rows, x1_moved, x1_shown, x1_tape, x1_tapeSize, x1_refused, z17, z18, z19, g5, g6, g7, g8, z20, g10, g11, g12, x1_at, x1_token, x1_from, x1_figures, x1_fault, x1_numbers, x1_statements, x1_left, x1_far, x1_tons, x1_way, x1_steps, x1_met, x1_queue, x1_totals) z16).bind (u4 fun g36 g37 g38 g39 => some (.inl ((z15 + v35), (z16 + 1), g36, g37, g38, g39)))) else (some (.inl (z15, (z16 + 1), z17, z18, z19, z20)))))
def fX7_totalOf (n : Nat) (X0 : MdT) (X1 : MdT) (p1 : Int32) : Option (Int32 × (Int32 × (Nat → Nat → Int32) × (Nat → Int32) × (Nat → Int32) × Int32 × (Nat → Nat → Int32) × Int32 × (Nat → Nat → Int32) × Int32 × Int32 × Int32 × (Nat → Int32) × (Nat → Int32) × Int32)) :=
  u35 (fun (x0_shelf : (Nat → Int32)) (x0_rowSort : (Nat → Int32)) (x0_rowSize : (Nat → Int32)) (x0_rows : (Nat → Nat → Int64)) (x0_moved : (Nat → Int64)) (x0_shown : (Nat → Int32)) (x0_tape : (Nat → Int32)) (x0_tapeSize : Int32) (x0_refused : (Nat → Int32)) (x0_lines : Int32) (x0_line : (Nat → Nat → Int32)) (x0_changes : (Nat → Int32)) (x0_coins : (Nat → Int32)) (x0_goods : Int32) (x0_good : (Nat → Nat → Int32)) (x0_works : Int32) (x0_work : (Nat → Nat → Int32)) (x0_years : Int32) (x0_gone : Int32) (x0_spent : Int32) (x0_at : Int32) (x0_token : Int32) (x0_from : Int32) (x0_figures : Int64) (x0_fault : Int32) (x0_numbers : (Nat → Int32)) (x0_statements : Int32) (x0_left : (Nat → Int32)) (x0_far : (Nat → Int32)) (x0_tons : Int32) (x0_way : (Nat → Int32)) (x0_steps : Int32) (x0_met : Int64) (x0_queue : (Nat → Int32)) (x0_totals : (Nat → Int32)) => u35 (fun (x1_shelf : (Nat → Int32)) (x1_rowSort : (Nat → Int32)) (x1_rowSize : (Nat → Int32)) (x1_rows : (Nat → Nat → Int64)) (x1_moved : (Nat → Int64)) (x1_shown : (Nat → Int32)) (x1_tape : (Nat → Int32)) (x1_tapeSize : Int32) (x1_refused : (Nat → Int32)) (x1_lines : Int32) (x1_line : (Nat → Nat → Int32)) (x1_changes : (Nat → Int32)) (x1_coins : (Nat → Int32)) (x1_goods : Int32) (x1_good : (Nat → Nat → Int32)) (x1_works : Int32) (x1_work : (Nat → Nat → Int32)) (x1_years : Int32) (x1_gone : Int32) (x1_spent : Int32) (x1_at : Int32) (x1_token : Int32) (x1_from : Int32) (x1_figures : Int64) (x1_fault : Int32) (x1_numbers : (Nat → Int32)) (x1_statements : Int32) (x1_left : (Nat → Int32)) (x1_far : (Nat → Int32)) (x1_tons : Int32) (x1_way : (Nat → Int32)) (x1_steps : Int32) (x1_met : Int64) (x1_queue : (Nat → Int32)) (x1_totals : (Nat → Int32)) => (fX7_fresh n (x0_shelf, x0_rowSort, x0_rowSize, x0_rows, x0_moved, x0_shown, x0_tape, x0_tapeSize, x0_refused, x0_lines, x0_line, x0_changes, x0_coins, x0_goods, x0_good, x0_works, x0_work, x0_years, x0_gone, x0_spent, x0_at, x0_token, x0_from, x0_figures, x0_fault, x0_numbers, x0_statements, x0_left, x0_far, x0_tons, x0_way, x0_steps, x0_met, x0_queue, x0_totals) (x1_shelf, x1_rowSort, x1_rowSize, x1_rows, x1_moved, x1_shown, x1_tape, x1_tapeSize, x1_refused, x1_lines, x1_line, x1_changes, x1_coins, x1_goods, x1_good, x1_works, x1_work, x1_years, x1_gone, x1_spent, x1_at, x1_token, x1_from, x1_figures, x1_fault, x1_numbers, x1_statements, x1_left, x1_far, x1_tons, x1_way, x1_steps, x1_met, x1_queue, x1_totals)).bind (fun G1 => u11 (fun g2 g3 g4 g5 g6 g7 g8 g9 g10 g11 g12 => (lp (u6 (fX7_totalOf_s10 p1 x0_works x1_shelf x1_rowSort x1_rowSize x1_rows x1_moved x1_shown x1_tape x1_tapeSize x1_refused x1_at x1_token x1_from x1_figures x1_fault x1_numbers x1_statements x1_left x1_far x1_tons x1_way x1_steps x1_met x1_queue x1_totals g5 g6 g7 g8 g10 g11 g12)) n (0, 0, g2, g3, g4, g9)).bind (u5 fun w22 w23 w24 w25 w26 => (fX7_free n (x1_shelf, x1_rowSort, x1_rowSize, x1_rows, x1_moved, x1_shown, x1_tape, x1_tapeSize, x1_refused, w23, w24, w25, g5, g6, g7, g8, w26, g10, g11, g12, x1_at, x1_token, x1_from, x1_figures, x1_fault, x1_numbers, x1_statements, x1_left, x1_far, x1_tons, x1_way, x1_steps, x1_met, x1_queue, x1_totals)).bind (u4 fun v27 g28 g29 g30 => some ((w22 + (x0_years * v27)), (w23, w24, w25, g5, g6, g7, g8, w26, g10, g11, g12, g28, g29, g30))))) G1)) X1) X0
set_option maxHeartbeats 4000000 in
set_option maxRecDepth 100000 in
theorem kX7_totalOf (l : Launch) (d : DT) (h0 : Nat → Nat) (r0_rows : Nat → Nat) (r0_line : Nat → Nat) (r0_good : Nat → Nat) (r0_work : Nat → Nat) (a0_kept : Option Nat) (a0_chosen : Option Nat) (h1 : Nat → Nat) (r1_rows : Nat → Nat) (r1_line : Nat → Nat) (r1_good : Nat → Nat) (r1_work : Nat → Nat) (a1_kept : Option Nat) (a1_tried : Option Nat) (a1_chosen : Option Nat) (n : Nat) (x0_shelf : (Nat → Int32)) (x0_rowSort : (Nat → Int32)) (x0_rowSize : (Nat → Int32)) (x0_rows : (Nat → Nat → Int64)) (x0_moved : (Nat → Int64)) (x0_shown : (Nat → Int32)) (x0_tape : (Nat → Int32)) (x0_tapeSize : Int32) (x0_refused : (Nat → Int32)) (x0_lines : Int32) (x0_line : (Nat → Nat → Int32)) (x0_changes : (Nat → Int32)) (x0_coins : (Nat → Int32)) (x0_goods : Int32) (x0_good : (Nat → Nat → Int32)) (x0_works : Int32) (x0_work : (Nat → Nat → Int32)) (x0_years : Int32) (x0_gone : Int32) (x0_spent : Int32) (x0_at : Int32) (x0_token : Int32) (x0_from : Int32) (x0_figures : Int64) (x0_fault : Int32) (x0_numbers : (Nat → Int32)) (x0_statements : Int32) (x0_left : (Nat → Int32)) (x0_far : (Nat → Int32)) (x0_tons : Int32) (x0_way : (Nat → Int32)) (x0_steps : Int32) (x0_met : Int64) (x0_queue : (Nat → Int32)) (x0_totals : (Nat → Int32)) (x1_shelf : (Nat → Int32)) (x1_rowSort : (Nat → Int32)) (x1_rowSize : (Nat → Int32)) (x1_rows : (Nat → Nat → Int64)) (x1_moved : (Nat → Int64)) (x1_shown : (Nat → Int32)) (x1_tape : (Nat → Int32)) (x1_tapeSize : Int32) (x1_refused : (Nat → Int32)) (x1_lines : Int32) (x1_line : (Nat → Nat → Int32)) (x1_changes : (Nat → Int32)) (x1_coins : (Nat → Int32)) (x1_goods : Int32) (x1_good : (Nat → Nat → Int32)) (x1_works : Int32) (x1_work : (Nat → Nat → Int32)) (x1_years : Int32) (x1_gone : Int32) (x1_spent : Int32) (x1_at : Int32) (x1_token : Int32) (x1_from : Int32) (x1_figures : Int64) (x1_fault : Int32) (x1_numbers : (Nat → Int32)) (x1_statements : Int32) (x1_left : (Nat → Int32)) (x1_far : (Nat → Int32)) (x1_tons : Int32) (x1_way : (Nat → Int32)) (x1_steps : Int32) (x1_met : Int64) (x1_queue : (Nat → Int32)) (x1_totals : (Nat → Int32)) (p1 : Int32)  {out : Int32 × (Int32 × (Nat → Nat → Int32) × (Nat → Int32) × (Nat → Int32) × Int32 × (Nat → Nat → Int32) × Int32 × (Nat → Nat → Int32) × Int32 × Int32 × Int32 × (Nat → Int32) × (Nat → Int32) × Int32)} (hf : fX7_totalOf n (x0_shelf, x0_rowSort, x0_rowSize, x0_rows, x0_moved, x0_shown, x0_tape, x0_tapeSize, x0_refused, x0_lines, x0_line, x0_changes, x0_coins, x0_goods, x0_good, x0_works, x0_work, x0_years, x0_gone, x0_spent, x0_at, x0_token, x0_from, x0_figures, x0_fault, x0_numbers, x0_statements, x0_left, x0_far, x0_tons, x0_way, x0_steps, x0_met, x0_queue, x0_totals) (x1_shelf, x1_rowSort, x1_rowSize, x1_rows, x1_moved, x1_shown, x1_tape, x1_tapeSize, x1_refused, x1_lines, x1_line, x1_changes, x1_coins, x1_goods, x1_good, x1_works, x1_work, x1_years, x1_gone, x1_spent, x1_at, x1_token, x1_from, x1_figures, x1_fault, x1_numbers, x1_statements, x1_left, x1_far, x1_tons, x1_way, x1_steps, x1_met, x1_queue, x1_totals) p1 = some out) : Ct l d yX7_totalOf cX7_totalOf 5 (some .int) { frames := 4, cells := 0, slots := 0, locals := 85 } [.ref (h0 0), .int p1] [gMd d h0 a0_kept (some (h1 0)) a0_chosen r0_rows r0_line r0_good r0_work x0_shelf x0_rowSort x0_rowSize x0_moved x0_shown x0_tape x0_tapeSize x0_refused x0_lines x0_changes x0_coins x0_goods x0_works x0_years x0_gone x0_spent x0_at x0_token x0_from x0_figures x0_fault x0_numbers x0_statements x0_left x0_far x0_tons x0_way x0_steps x0_met x0_queue x0_totals, gridI d r0_line 20 7 x0_line, gridI d r0_good 8 3 x0_good, gridI d r0_work 7 5 x0_work, gMd d h1 a1_kept a1_tried a1_chosen r1_rows r1_line r1_good r1_work x1_shelf x1_rowSort x1_rowSize x1_moved x1_shown x1_tape x1_tapeSize x1_refused x1_lines x1_changes x1_coins x1_goods x1_works x1_years x1_gone x1_spent x1_at x1_token x1_from x1_figures x1_fault x1_numbers x1_statements x1_left x1_far x1_tons x1_way x1_steps x1_met x1_queue x1_totals, gridI d r1_line 20 7 x1_line, gridI d r1_good 8 3 x1_good, gridI d r1_work 7 5 x1_work] (fun _ : Unit => (some (.int out.1), [gMd d h0 a0_kept (some (h1 0)) a0_chosen r0_rows r0_line r0_good r0_work x0_shelf x0_rowSort x0_rowSize x0_moved x0_shown x0_tape x0_tapeSize x0_refused x0_lines x0_changes x0_coins x0_goods x0_works x0_years x0_gone x0_spent x0_at x0_token x0_from x0_figures x0_fault x0_numbers x0_statements x0_left x0_far x0_tons x0_way x0_steps x0_met x0_queue x0_totals, gridI d r0_line 20 7 x0_line, gridI d r0_good 8 3 x0_good, gridI d r0_work 7 5 x0_work, gMd d h1 a1_kept a1_tried a1_chosen r1_rows r1_line r1_good r1_work x1_shelf x1_rowSort x1_rowSize x1_moved x1_shown x1_tape x1_tapeSize x1_refused (out.2.1) (out.2.2.2.1) (out.2.2.2.2.1) (out.2.2.2.2.2.1) (out.2.2.2.2.2.2.2.1) (out.2.2.2.2.2.2.2.2.2.1) (out.2.2.2.2.2.2.2.2.2.2.1) (out.2.2.2.2.2.2.2.2.2.2.2.1) x1_at x1_token x1_from x1_figures x1_fault x1_numbers x1_statements (out.2.2.2.2.2.2.2.2.2.2.2.2.1) (out.2.2.2.2.2.2.2.2.2.2.2.2.2.1) (out.2.2.2.2.2.2.2.2.2.2.2.2.2.2) x1_way x1_steps x1_met x1_queue x1_totals, gridI d r1_line 20 7 (out.2.2.1), gridI d r1_good 8 3 (out.2.2.2.2.2.2.1), gridI d r1_work 7 5 (out.2.2.2.2.2.2.2.2.1)])) := by
  refine Ct.of (by decide) (Nat.le_of_ble_eq_true rfl) ?_
  intro Φ hl hK hR
  subst hl
  have hK : Ok d Φ RX7 "totalOf" cX7_totalOf 5 (some .int) { frames := 4, cells := 0, slots := 0, locals := 85 } := hK
  unfold fX7_totalOf at hf
  have hf := un35 hf
  have hf := un35 hf
  show J d Φ 5 [gMd d h0 a0_kept (some (h1 0)) a0_chosen r0_rows r0_line r0_good r0_work x0_shelf x0_rowSort x0_rowSize x0_moved x0_shown x0_tape x0_tapeSize x0_refused x0_lines x0_changes x0_coins x0_goods x0_works x0_years x0_gone x0_spent x0_at x0_token x0_from x0_figures x0_fault x0_numbers x0_statements x0_left x0_far x0_tons x0_way x0_steps x0_met x0_queue x0_totals, gridI d r0_line 20 7 x0_line, gridI d r0_good 8 3 x0_good, gridI d r0_work 7 5 x0_work, gMd d h1 a1_kept a1_tried a1_chosen r1_rows r1_line r1_good r1_work x1_shelf x1_rowSort x1_rowSize x1_moved x1_shown x1_tape x1_tapeSize x1_refused x1_lines x1_changes x1_coins x1_goods x1_works x1_years x1_gone x1_spent x1_at x1_token x1_from x1_figures x1_fault x1_numbers x1_statements x1_left x1_far x1_tons x1_way x1_steps x1_met x1_queue x1_totals, gridI d r1_line 20 7 x1_line, gridI d r1_good 8 3 x1_good, gridI d r1_work 7 5 x1_work] 0 0 0 [(0, .ref (h0 0)), (1, .int p1)] []
  refine J_aload_n hK dX7_totalOf_0 rfl 0 rfl rfl ?_
  obtain ⟨⟨g2, g3, g4, g5, g6, g7, g8, g9, g10, g11, g12⟩, e13, hf⟩ := bs hf
  have hf := un11 hf
  refine J_callV (m' := 8) (ce' := 0) (sl' := 0) (gr := []) (gs' := fun _ => [gMd d h0 a0_kept (some (h1 0)) a0_chosen r0_rows r0_line r0_good r0_work x0_shelf x0_rowSort x0_rowSize x0_moved x0_shown x0_tape x0_tapeSize x0_refused x0_lines x0_changes x0_coins x0_goods x0_works x0_years x0_gone x0_spent x0_at x0_token x0_from x0_figures x0_fault x0_numbers x0_statements x0_left x0_far x0_tons x0_way x0_steps x0_met x0_queue x0_totals, gridI d r0_line 20 7 x0_line, gridI d r0_good 8 3 x0_good, gridI d r0_work 7 5 x0_work, gMd d h1 a1_kept a1_tried a1_chosen r1_rows r1_line r1_good r1_work x1_shelf x1_rowSort x1_rowSize x1_moved x1_shown x1_tape x1_tapeSize x1_refused g2 g4 g5 g6 g8 g10 g11 g12 x1_at x1_token x1_from x1_figures x1_fault x1_numbers x1_statements x1_left x1_far x1_tons x1_way x1_steps x1_met x1_queue x1_totals, gridI d r1_line 20 7 g3, gridI d r1_good 8 3 g7, gridI d r1_work 7 5 g9]) (st' := fun _ => [.ref (h1 0)]) (st := []) hK dX7_totalOf_1 cv_RX7_238 iv_yX7_fresh (As := []) (kX7_fresh _ d h0 r0_rows r0_line r0_good r0_work a0_kept a0_chosen h1 r1_rows r1_line r1_good r1_work a1_kept a1_tried a1_chosen n x0_shelf x0_rowSort x0_rowSize x0_rows x0_moved x0_shown x0_tape x0_tapeSize x0_refused x0_lines x0_line x0_changes x0_coins x0_goods x0_good x0_works x0_work x0_years x0_gone x0_spent x0_at x0_token x0_from x0_figures x0_fault x0_numbers x0_statements x0_left x0_far x0_tons x0_way x0_steps x0_met x0_queue x0_totals x1_shelf x1_rowSort x1_rowSize x1_rows x1_moved x1_shown x1_tape x1_tapeSize x1_refused x1_lines x1_line x1_changes x1_coins x1_goods x1_good x1_works x1_work x1_years x1_gone x1_spent x1_at x1_token x1_from x1_figures x1_fault x1_numbers x1_statements x1_left x1_far x1_tons x1_way x1_steps x1_met x1_queue x1_totals e13) rfl rfl (Nat.le_of_ble_eq_true rfl) (by decide) 0 0 rfl rfl rfl [0, 1, 2, 3, 4, 5, 6, 7] [] rfl rfl rfl rfl [0, 1, 2, 3, 4, 5, 6, 7] rfl (fun _ => rfl) (fun _ => rfl) rfl rfl rfl (fun _ => rfl) (fun _ => ?_)
  refine J_astore_n (L' := [(2, .ref (h1 0)), (0, .ref (h0 0)), (1, .int p1)]) hK dX7_totalOf_4 rfl rfl (by decide) rfl ?_
  refine J_iconst (v := 0) hK dX7_totalOf_5 rfl (by decide) ?_
  refine J_istore_n (L' := [(3, .int (0)), (2, .ref (h1 0)), (0, .ref (h0 0)), (1, .int p1)]) hK dX7_totalOf_6 rfl rfl (by decide) rfl ?_
  refine J_iconst (v := 0) hK dX7_totalOf_7 rfl (by decide) ?_
  refine J_istore (L' := [(4, .int (0)), (3, .int (0)), (2, .ref (h1 0)), (0, .ref (h0 0)), (1, .int p1)]) hK dX7_totalOf_8 rfl (by decide) rfl ?_
  obtain ⟨e21, hl14, hf⟩ := bs hf
  have hx14_64 : ∀ (w22 : Int32) (w23 : Int32) (w24 : (Nat → Nat → Int32)) (w25 : (Nat → Int32)) (w26 : (Nat → Nat → Int32)), (w22, w23, w24, w25, w26) = e21 → J d Φ 5 [gMd d h0 a0_kept (some (h1 0)) a0_chosen r0_rows r0_line r0_good r0_work x0_shelf x0_rowSort x0_rowSize x0_moved x0_shown x0_tape x0_tapeSize x0_refused x0_lines x0_changes x0_coins x0_goods x0_works x0_years x0_gone x0_spent x0_at x0_token x0_from x0_figures x0_fault x0_numbers x0_statements x0_left x0_far x0_tons x0_way x0_steps x0_met x0_queue x0_totals, gridI d r0_line 20 7 x0_line, gridI d r0_good 8 3 x0_good, gridI d r0_work 7 5 x0_work, gMd d h1 a1_kept a1_tried a1_chosen r1_rows r1_line r1_good r1_work x1_shelf x1_rowSort x1_rowSize x1_moved x1_shown x1_tape x1_tapeSize x1_refused w23 w25 g5 g6 g8 g10 g11 g12 x1_at x1_token x1_from x1_figures x1_fault x1_numbers x1_statements x1_left x1_far x1_tons x1_way x1_steps x1_met x1_queue x1_totals, gridI d r1_line 20 7 w24, gridI d r1_good 8 3 g7, gridI d r1_work 7 5 w26] 0 0 64 [(0, .ref (h0 0)), (2, .ref (h1 0)), (3, .int w22)] [] := by
    intro w22 w23 w24 w25 w26 he
    rw [← he] at hf
    have hf := un5 hf
    refine J_iload_n hK dX7_totalOf_64 rfl 2 rfl rfl ?_
    refine J_aload_n hK dX7_totalOf_65 rfl 0 rfl rfl ?_
    refine J_get hK fo_RX7_54 dX7_totalOf_66 rfl 0 0 rfl rfl rfl ?_
    refine J_aload_n hK dX7_totalOf_69 rfl 1 rfl rfl ?_
    obtain ⟨⟨v27, g28, g29, g30⟩, e31, hf⟩ := bs hf
    have hf := un4 hf
    refine J_callV (m' := 8) (ce' := 0) (sl' := 0) (gr := [gMd d h0 a0_kept (some (h1 0)) a0_chosen r0_rows r0_line r0_good r0_work x0_shelf x0_rowSort x0_rowSize x0_moved x0_shown x0_tape x0_tapeSize x0_refused x0_lines x0_changes x0_coins x0_goods x0_works x0_years x0_gone x0_spent x0_at x0_token x0_from x0_figures x0_fault x0_numbers x0_statements x0_left x0_far x0_tons x0_way x0_steps x0_met x0_queue x0_totals, gridI d r0_line 20 7 x0_line, gridI d r0_good 8 3 x0_good, gridI d r0_work 7 5 x0_work, gridI d r1_work 7 5 w26]) (gs' := fun _ => [gMd d h0 a0_kept (some (h1 0)) a0_chosen r0_rows r0_line r0_good r0_work x0_shelf x0_rowSort x0_rowSize x0_moved x0_shown x0_tape x0_tapeSize x0_refused x0_lines x0_changes x0_coins x0_goods x0_works x0_years x0_gone x0_spent x0_at x0_token x0_from x0_figures x0_fault x0_numbers x0_statements x0_left x0_far x0_tons x0_way x0_steps x0_met x0_queue x0_totals, gridI d r0_line 20 7 x0_line, gridI d r0_good 8 3 x0_good, gridI d r0_work 7 5 x0_work, gMd d h1 a1_kept a1_tried a1_chosen r1_rows r1_line r1_good r1_work x1_shelf x1_rowSort x1_rowSize x1_moved x1_shown x1_tape x1_tapeSize x1_refused w23 w25 g5 g6 g8 g10 g11 g12 x1_at x1_token x1_from x1_figures x1_fault x1_numbers x1_statements g28 g29 g30 x1_way x1_steps x1_met x1_queue x1_totals, gridI d r1_line 20 7 w24, gridI d r1_good 8 3 g7, gridI d r1_work 7 5 w26]) (st' := fun _ => [.int v27, .int x0_years, .int w22]) (st := [.int x0_years, .int w22]) hK dX7_totalOf_70 cv_RX7_288 iv_yX7_free (As := []) (kX7_free _ d h1 r1_rows r1_line r1_good r1_work a1_kept a1_tried a1_chosen n x1_shelf x1_rowSort x1_rowSize x1_rows x1_moved x1_shown x1_tape x1_tapeSize x1_refused w23 w24 w25 g5 g6 g7 g8 w26 g10 g11 g12 x1_at x1_token x1_from x1_figures x1_fault x1_numbers x1_statements x1_left x1_far x1_tons x1_way x1_steps x1_met x1_queue x1_totals e31) rfl rfl (Nat.le_of_ble_eq_true rfl) (by decide) 4 0 rfl rfl rfl [4, 5, 6] [0, 1, 2, 3, 7] rfl rfl rfl rfl [0, 1, 2, 3, 5, 6, 7, 4] rfl (fun _ => rfl) (fun _ => rfl) rfl rfl rfl (fun _ => rfl) (fun _ => ?_)
    refine J_imul hK dX7_totalOf_73 rfl ?_
    refine J_iadd hK dX7_totalOf_74 rfl ?_
    obtain rfl := Option.some.inj hf
    exact J_iret hK hR dX7_totalOf_75 () rfl (by decide) (by decide)
  have lo14 : ∀ (k : Nat) (z15 : Int32) (z16 : Int32) (z17 : Int32) (z18 : (Nat → Nat → Int32)) (z19 : (Nat → Int32)) (z20 : (Nat → Nat → Int32)), lp (u6 (fX7_totalOf_s10 p1 x0_works x1_shelf x1_rowSort x1_rowSize x1_rows x1_moved x1_shown x1_tape x1_tapeSize x1_refused x1_at x1_token x1_from x1_figures x1_fault x1_numbers x1_statements x1_left x1_far x1_tons x1_way x1_steps x1_met x1_queue x1_totals g5 g6 g7 g8 g10 g11 g12)) k (z15, z16, z17, z18, z19, z20) = some e21 → J d Φ 5 [gMd d h0 a0_kept (some (h1 0)) a0_chosen r0_rows r0_line r0_good r0_work x0_shelf x0_rowSort x0_rowSize x0_moved x0_shown x0_tape x0_tapeSize x0_refused x0_lines x0_changes x0_coins x0_goods x0_works x0_years x0_gone x0_spent x0_at x0_token x0_from x0_figures x0_fault x0_numbers x0_statements x0_left x0_far x0_tons x0_way x0_steps x0_met x0_queue x0_totals, gridI d r0_line 20 7 x0_line, gridI d r0_good 8 3 x0_good, gridI d r0_work 7 5 x0_work, gMd d h1 a1_kept a1_tried a1_chosen r1_rows r1_line r1_good r1_work x1_shelf x1_rowSort x1_rowSize x1_moved x1_shown x1_tape x1_tapeSize x1_refused z17 z19 g5 g6 g8 g10 g11 g12 x1_at x1_token x1_from x1_figures x1_fault x1_numbers x1_statements x1_left x1_far x1_tons x1_way x1_steps x1_met x1_queue x1_totals, gridI d r1_line 20 7 z18, gridI d r1_good 8 3 g7, gridI d r1_work 7 5 z20] 0 0 10 [(0, .ref (h0 0)), (1, .int p1), (2, .ref (h1 0)), (3, .int z15), (4, .int z16)] [] := by
    intro k
    induction k with
    | zero => intro z15 z16 z17 z18 z19 z20 h; cases h
    | succ k ih14 =>
      intro z15 z16 z17 z18 z19 z20 h
      obtain ⟨k2, rr14, hk2, hs14, hr14⟩ := lp_ok h
      cases hk2
      have hs14 : fX7_totalOf_s10 p1 x0_works x1_shelf x1_rowSort x1_rowSize x1_rows x1_moved x1_shown x1_tape x1_tapeSize x1_refused x1_at x1_token x1_from x1_figures x1_fault x1_numbers x1_statements x1_left x1_far x1_tons x1_way x1_steps x1_met x1_queue x1_totals g5 g6 g7 g8 g10 g11 g12 z15 z16 z17 z18 z19 z20 = some rr14 := hs14
      unfold fX7_totalOf_s10 at hs14
      refine J_iload hK dX7_totalOf_10 rfl 4 rfl ?_
      refine J_aload_n hK dX7_totalOf_12 rfl 0 rfl rfl ?_
      refine J_get hK fo_RX7_85 dX7_totalOf_13 rfl 0 0 rfl rfl rfl ?_
      refine J_icmp_ge (tg := 64) hK dX7_totalOf_16 rfl rfl (fun hc16 => ?_) (fun hc16 => ?_)
      · have hs14 := ip hc16 hs14
        exact J_loc [0, 2, 3] rfl (hx14_64 z15 z17 z18 z19 z20 (lpx hs14 hr14))
      · have hs14 := iq hc16 hs14
        refine J_iload_n hK dX7_totalOf_19 rfl 1 rfl rfl ?_
        refine J_iload hK dX7_totalOf_20 rfl 4 rfl ?_
        refine J_ishr hK dX7_totalOf_22 rfl ?_
        refine J_iconst (v := 1) hK dX7_totalOf_23 rfl (by decide) ?_
        refine J_iand hK dX7_totalOf_24 rfl ?_
        refine J_if_eq (tg := 58) hK dX7_totalOf_25 rfl rfl (fun hc25 => ?_) (fun hc25 => ?_)
        · have hs14 := ip hc25 hs14
          refine J_iinc (L' := [(4, .int (z16 + 1)), (0, .ref (h0 0)), (1, .int p1), (2, .ref (h1 0)), (3, .int z15)]) (v := (z16 + 1)) hK dX7_totalOf_58 rfl 4 rfl rfl (by decide) rfl ?_
          refine J_goto hK dX7_totalOf_61 (n := 10) rfl ?_
          exact J_loc [1, 2, 3, 4, 0] rfl (ih14 z15 (z16 + 1) z17 z18 z19 z20 (lpc hs14 hr14))
        · have hs14 := iq hc25 hs14
          refine J_aload_n hK dX7_totalOf_28 rfl 2 rfl rfl ?_
          refine J_get hK fo_RX7_51 dX7_totalOf_29 rfl 4 0 rfl rfl rfl ?_
          refine J_iload hK dX7_totalOf_32 rfl 4 rfl ?_
          obtain ⟨q32, eq32, hs14⟩ := bs hs14
          refine J_aald hK dX7_totalOf_34 rfl 4 13 rfl rfl rfl eq32 ?_
          refine J_iconst (v := 4) hK dX7_totalOf_35 rfl (by decide) ?_
          obtain ⟨v33, ev33, hs14⟩ := bs hs14
          refine J_iald hK dX7_totalOf_36 rfl 7 q32 rfl (gridI_at (ck_ok eq32).2.2) ev33 ?_
          refine J_if_ne (tg := 58) hK dX7_totalOf_37 rfl rfl (fun hc37 => ?_) (fun hc37 => ?_)
          · have hs14 := iq hc37 hs14
            refine J_iinc (L' := [(4, .int (z16 + 1)), (0, .ref (h0 0)), (1, .int p1), (2, .ref (h1 0)), (3, .int z15)]) (v := (z16 + 1)) hK dX7_totalOf_58 rfl 4 rfl rfl (by decide) rfl ?_
            refine J_goto hK dX7_totalOf_61 (n := 10) rfl ?_
            exact J_loc [1, 2, 3, 4, 0] rfl (ih14 z15 (z16 + 1) z17 z18 z19 z20 (lpc hs14 hr14))
          · have hs14 := ip hc37 hs14
            refine J_iload_n hK dX7_totalOf_40 rfl 3 rfl rfl ?_
            refine J_aload_n hK dX7_totalOf_41 rfl 2 rfl rfl ?_
            refine J_get hK fo_RX7_51 dX7_totalOf_42 rfl 4 0 rfl rfl rfl ?_
            refine J_iload hK dX7_totalOf_45 rfl 4 rfl ?_
            obtain ⟨q34, eq34, hs14⟩ := bs hs14
            refine J_aald hK dX7_totalOf_47 rfl 4 13 rfl rfl rfl eq34 ?_
            refine J_iconst (v := 3) hK dX7_totalOf_48 rfl (by decide) ?_
            obtain ⟨v35, ev35, hs14⟩ := bs hs14
            refine J_iald hK dX7_totalOf_49 rfl 7 q34 rfl (gridI_at (ck_ok eq34).2.2) ev35 ?_
            refine J_iadd hK dX7_totalOf_50 rfl ?_
            refine J_istore_n (L' := [(3, .int (z15 + v35)), (0, .ref (h0 0)), (1, .int p1), (2, .ref (h1 0)), (4, .int z16)]) hK dX7_totalOf_51 rfl rfl (by decide) rfl ?_
            refine J_aload_n hK dX7_totalOf_52 rfl 3 rfl rfl ?_
            refine J_iload hK dX7_totalOf_53 rfl 4 rfl ?_
            obtain ⟨⟨g36, g37, g38, g39⟩, e40, hs14⟩ := bs hs14
            have hs14 := un4 hs14
            refine J_callV (m' := 8) (ce' := 0) (sl' := 0) (gr := [gMd d h0 a0_kept (some (h1 0)) a0_chosen r0_rows r0_line r0_good r0_work x0_shelf x0_rowSort x0_rowSize x0_moved x0_shown x0_tape x0_tapeSize x0_refused x0_lines x0_changes x0_coins x0_goods x0_works x0_years x0_gone x0_spent x0_at x0_token x0_from x0_figures x0_fault x0_numbers x0_statements x0_left x0_far x0_tons x0_way x0_steps x0_met x0_queue x0_totals, gridI d r0_line 20 7 x0_line, gridI d r0_good 8 3 x0_good, gridI d r0_work 7 5 x0_work, gridI d r1_good 8 3 g7]) (gs' := fun _ => [gMd d h0 a0_kept (some (h1 0)) a0_chosen r0_rows r0_line r0_good r0_work x0_shelf x0_rowSort x0_rowSize x0_moved x0_shown x0_tape x0_tapeSize x0_refused x0_lines x0_changes x0_coins x0_goods x0_works x0_years x0_gone x0_spent x0_at x0_token x0_from x0_figures x0_fault x0_numbers x0_statements x0_left x0_far x0_tons x0_way x0_steps x0_met x0_queue x0_totals, gridI d r0_line 20 7 x0_line, gridI d r0_good 8 3 x0_good, gridI d r0_work 7 5 x0_work, gMd d h1 a1_kept a1_tried a1_chosen r1_rows r1_line r1_good r1_work x1_shelf x1_rowSort x1_rowSize x1_moved x1_shown x1_tape x1_tapeSize x1_refused g36 g38 g5 g6 g8 g10 g11 g12 x1_at x1_token x1_from x1_figures x1_fault x1_numbers x1_statements x1_left x1_far x1_tons x1_way x1_steps x1_met x1_queue x1_totals, gridI d r1_line 20 7 g37, gridI d r1_good 8 3 g7, gridI d r1_work 7 5 g39]) (st' := fun _ => []) (st := []) hK dX7_totalOf_55 cv_RX7_296 iv_yX7_does (As := [.int z16]) (kX7_does _ d h1 r1_rows r1_line r1_good r1_work a1_kept a1_tried a1_chosen x1_shelf x1_rowSort x1_rowSize x1_rows x1_moved x1_shown x1_tape x1_tapeSize x1_refused z17 z18 z19 g5 g6 g7 g8 z20 g10 g11 g12 x1_at x1_token x1_from x1_figures x1_fault x1_numbers x1_statements x1_left x1_far x1_tons x1_way x1_steps x1_met x1_queue x1_totals z16 e40) rfl rfl (Nat.le_of_ble_eq_true rfl) (by decide) 4 0 rfl rfl rfl [4, 5, 7] [0, 1, 2, 3, 6] rfl rfl rfl rfl [0, 1, 2, 3, 5, 6, 4, 7] rfl (fun _ => rfl) (fun _ => rfl) rfl rfl rfl (fun _ => rfl) (fun _ => ?_)
            refine J_iinc (L' := [(4, .int (z16 + 1)), (3, .int (z15 + v35)), (0, .ref (h0 0)), (1, .int p1), (2, .ref (h1 0))]) (v := (z16 + 1)) hK dX7_totalOf_58 rfl 4 rfl rfl (by decide) rfl ?_
            refine J_goto hK dX7_totalOf_61 (n := 10) rfl ?_
            exact J_loc [2, 3, 4, 1, 0] rfl (ih14 (z15 + v35) (z16 + 1) g36 g37 g38 g39 (lpc hs14 hr14))
  exact J_loc [3, 4, 2, 1, 0] rfl (lo14 n (0) (0) g2 g3 g4 g9 hl14)

def fX7_total (n : Nat) (X0 : MdT) (X1 : MdT) (p1 : Int32) : Option (Int32 × (Nat → Int32) × (Int32 × (Nat → Nat → Int32) × (Nat → Int32) × (Nat → Int32) × Int32 × (Nat → Nat → Int32) × Int32 × (Nat → Nat → Int32) × Int32 × Int32 × Int32 × (Nat → Int32) × (Nat → Int32) × Int32)) :=
  u35 (fun (x0_shelf : (Nat → Int32)) (x0_rowSort : (Nat → Int32)) (x0_rowSize : (Nat → Int32)) (x0_rows : (Nat → Nat → Int64)) (x0_moved : (Nat → Int64)) (x0_shown : (Nat → Int32)) (x0_tape : (Nat → Int32)) (x0_tapeSize : Int32) (x0_refused : (Nat → Int32)) (x0_lines : Int32) (x0_line : (Nat → Nat → Int32)) (x0_changes : (Nat → Int32)) (x0_coins : (Nat → Int32)) (x0_goods : Int32) (x0_good : (Nat → Nat → Int32)) (x0_works : Int32) (x0_work : (Nat → Nat → Int32)) (x0_years : Int32) (x0_gone : Int32) (x0_spent : Int32) (x0_at : Int32) (x0_token : Int32) (x0_from : Int32) (x0_figures : Int64) (x0_fault : Int32) (x0_numbers : (Nat → Int32)) (x0_statements : Int32) (x0_left : (Nat → Int32)) (x0_far : (Nat → Int32)) (x0_tons : Int32) (x0_way : (Nat → Int32)) (x0_steps : Int32) (x0_met : Int64) (x0_queue : (Nat → Int32)) (x0_totals : (Nat → Int32)) => u35 (fun (x1_shelf : (Nat → Int32)) (x1_rowSort : (Nat → Int32)) (x1_rowSize : (Nat → Int32)) (x1_rows : (Nat → Nat → Int64)) (x1_moved : (Nat → Int64)) (x1_shown : (Nat → Int32)) (x1_tape : (Nat → Int32)) (x1_tapeSize : Int32) (x1_refused : (Nat → Int32)) (x1_lines : Int32) (x1_line : (Nat → Nat → Int32)) (x1_changes : (Nat → Int32)) (x1_coins : (Nat → Int32)) (x1_goods : Int32) (x1_good : (Nat → Nat → Int32)) (x1_works : Int32) (x1_work : (Nat → Nat → Int32)) (x1_years : Int32) (x1_gone : Int32) (x1_spent : Int32) (x1_at : Int32) (x1_token : Int32) (x1_from : Int32) (x1_figures : Int64) (x1_fault : Int32) (x1_numbers : (Nat → Int32)) (x1_statements : Int32) (x1_left : (Nat → Int32)) (x1_far : (Nat → Int32)) (x1_tons : Int32) (x1_way : (Nat → Int32)) (x1_steps : Int32) (x1_met : Int64) (x1_queue : (Nat → Int32)) (x1_totals : (Nat → Int32)) => (fX7_in ((p1).toInt64) (0 : Int64) (((((1 : Int32) <<< (x0_works &&& 31)) - 1)).toInt64)).bind (fun v1 => if v1 = 0 then ((fX7_refuse (x0_shelf, x0_rowSort, x0_rowSize, x0_rows, x0_moved, x0_shown, x0_tape, x0_tapeSize, x0_refused, x0_lines, x0_line, x0_changes, x0_coins, x0_goods, x0_good, x0_works, x0_work, x0_years, x0_gone, x0_spent, x0_at, x0_token, x0_from, x0_figures, x0_fault, x0_numbers, x0_statements, x0_left, x0_far, x0_tons, x0_way, x0_steps, x0_met, x0_queue, x0_totals) (-2)).bind (u2 fun v3 g4 => some (v3, g4, (x1_lines, x1_line, x1_changes, x1_coins, x1_goods, x1_good, x1_works, x1_work, x1_years, x1_gone, x1_spent, x1_left, x1_far, x1_tons)))) else ((fX7_totalOf n (x0_shelf, x0_rowSort, x0_rowSize, x0_rows, x0_moved, x0_shown, x0_tape, x0_tapeSize, x0_refused, x0_lines, x0_line, x0_changes, x0_coins, x0_goods, x0_good, x0_works, x0_work, x0_years, x0_gone, x0_spent, x0_at, x0_token, x0_from, x0_figures, x0_fault, x0_numbers, x0_statements, x0_left, x0_far, x0_tons, x0_way, x0_steps, x0_met, x0_queue, x0_totals) (x1_shelf, x1_rowSort, x1_rowSize, x1_rows, x1_moved, x1_shown, x1_tape, x1_tapeSize, x1_refused, x1_lines, x1_line, x1_changes, x1_coins, x1_goods, x1_good, x1_works, x1_work, x1_years, x1_gone, x1_spent, x1_at, x1_token, x1_from, x1_figures, x1_fault, x1_numbers, x1_statements, x1_left, x1_far, x1_tons, x1_way, x1_steps, x1_met, x1_queue, x1_totals) p1).bind (u2 fun v6 G7 => u14 (fun g8 g9 g10 g11 g12 g13 g14 g15 g16 g17 g18 g19 g20 g21 => some (v6, x0_refused, (g8, g9, g10, g11, g12, g13, g14, g15, g16, g17, g18, g19, g20, g21))) G7)))) X1) X0
set_option maxHeartbeats 4000000 in
set_option maxRecDepth 100000 in
theorem kX7_total (l : Launch) (d : DT) (h0 : Nat → Nat) (r0_rows : Nat → Nat) (r0_line : Nat → Nat) (r0_good : Nat → Nat) (r0_work : Nat → Nat) (a0_kept : Option Nat) (a0_chosen : Option Nat) (h1 : Nat → Nat) (r1_rows : Nat → Nat) (r1_line : Nat → Nat) (r1_good : Nat → Nat) (r1_work : Nat → Nat) (a1_kept : Option Nat) (a1_tried : Option Nat) (a1_chosen : Option Nat) (n : Nat) (x0_shelf : (Nat → Int32)) (x0_rowSort : (Nat → Int32)) (x0_rowSize : (Nat → Int32)) (x0_rows : (Nat → Nat → Int64)) (x0_moved : (Nat → Int64)) (x0_shown : (Nat → Int32)) (x0_tape : (Nat → Int32)) (x0_tapeSize : Int32) (x0_refused : (Nat → Int32)) (x0_lines : Int32) (x0_line : (Nat → Nat → Int32)) (x0_changes : (Nat → Int32)) (x0_coins : (Nat → Int32)) (x0_goods : Int32) (x0_good : (Nat → Nat → Int32)) (x0_works : Int32) (x0_work : (Nat → Nat → Int32)) (x0_years : Int32) (x0_gone : Int32) (x0_spent : Int32) (x0_at : Int32) (x0_token : Int32) (x0_from : Int32) (x0_figures : Int64) (x0_fault : Int32) (x0_numbers : (Nat → Int32)) (x0_statements : Int32) (x0_left : (Nat → Int32)) (x0_far : (Nat → Int32)) (x0_tons : Int32) (x0_way : (Nat → Int32)) (x0_steps : Int32) (x0_met : Int64) (x0_queue : (Nat → Int32)) (x0_totals : (Nat → Int32)) (x1_shelf : (Nat → Int32)) (x1_rowSort : (Nat → Int32)) (x1_rowSize : (Nat → Int32)) (x1_rows : (Nat → Nat → Int64)) (x1_moved : (Nat → Int64)) (x1_shown : (Nat → Int32)) (x1_tape : (Nat → Int32)) (x1_tapeSize : Int32) (x1_refused : (Nat → Int32)) (x1_lines : Int32) (x1_line : (Nat → Nat → Int32)) (x1_changes : (Nat → Int32)) (x1_coins : (Nat → Int32)) (x1_goods : Int32) (x1_good : (Nat → Nat → Int32)) (x1_works : Int32) (x1_work : (Nat → Nat → Int32)) (x1_years : Int32) (x1_gone : Int32) (x1_spent : Int32) (x1_at : Int32) (x1_token : Int32) (x1_from : Int32) (x1_figures : Int64) (x1_fault : Int32) (x1_numbers : (Nat → Int32)) (x1_statements : Int32) (x1_left : (Nat → Int32)) (x1_far : (Nat → Int32)) (x1_tons : Int32) (x1_way : (Nat → Int32)) (x1_steps : Int32) (x1_met : Int64) (x1_queue : (Nat → Int32)) (x1_totals : (Nat → Int32)) (p1 : Int32)  {out : Int32 × (Nat → Int32) × (Int32 × (Nat → Nat → Int32) × (Nat → Int32) × (Nat → Int32) × Int32 × (Nat → Nat → Int32) × Int32 × (Nat → Nat → Int32) × Int32 × Int32 × Int32 × (Nat → Int32) × (Nat → Int32) × Int32)} (hf : fX7_total n (x0_shelf, x0_rowSort, x0_rowSize, x0_rows, x0_moved, x0_shown, x0_tape, x0_tapeSize, x0_refused, x0_lines, x0_line, x0_changes, x0_coins, x0_goods, x0_good, x0_works, x0_work, x0_years, x0_gone, x0_spent, x0_at, x0_token, x0_from, x0_figures, x0_fault, x0_numbers, x0_statements, x0_left, x0_far, x0_tons, x0_way, x0_steps, x0_met, x0_queue, x0_totals) (x1_shelf, x1_rowSort, x1_rowSize, x1_rows, x1_moved, x1_shown, x1_tape, x1_tapeSize, x1_refused, x1_lines, x1_line, x1_changes, x1_coins, x1_goods, x1_good, x1_works, x1_work, x1_years, x1_gone, x1_spent, x1_at, x1_token, x1_from, x1_figures, x1_fault, x1_numbers, x1_statements, x1_left, x1_far, x1_tons, x1_way, x1_steps, x1_met, x1_queue, x1_totals) p1 = some out) : Ct l d yX7_total cX7_total 2 (some .int) { frames := 5, cells := 0, slots := 0, locals := 109 } [.ref (h0 0), .int p1] [gMd d h0 a0_kept (some (h1 0)) a0_chosen r0_rows r0_line r0_good r0_work x0_shelf x0_rowSort x0_rowSize x0_moved x0_shown x0_tape x0_tapeSize x0_refused x0_lines x0_changes x0_coins x0_goods x0_works x0_years x0_gone x0_spent x0_at x0_token x0_from x0_figures x0_fault x0_numbers x0_statements x0_left x0_far x0_tons x0_way x0_steps x0_met x0_queue x0_totals, gridI d r0_line 20 7 x0_line, gridI d r0_good 8 3 x0_good, gridI d r0_work 7 5 x0_work, gMd d h1 a1_kept a1_tried a1_chosen r1_rows r1_line r1_good r1_work x1_shelf x1_rowSort x1_rowSize x1_moved x1_shown x1_tape x1_tapeSize x1_refused x1_lines x1_changes x1_coins x1_goods x1_works x1_years x1_gone x1_spent x1_at x1_token x1_from x1_figures x1_fault x1_numbers x1_statements x1_left x1_far x1_tons x1_way x1_steps x1_met x1_queue x1_totals, gridI d r1_line 20 7 x1_line, gridI d r1_good 8 3 x1_good, gridI d r1_work 7 5 x1_work] (fun _ : Unit => (some (.int out.1), [gMd d h0 a0_kept (some (h1 0)) a0_chosen r0_rows r0_line r0_good r0_work x0_shelf x0_rowSort x0_rowSize x0_moved x0_shown x0_tape x0_tapeSize (out.2.1) x0_lines x0_changes x0_coins x0_goods x0_works x0_years x0_gone x0_spent x0_at x0_token x0_from x0_figures x0_fault x0_numbers x0_statements x0_left x0_far x0_tons x0_way x0_steps x0_met x0_queue x0_totals, gridI d r0_line 20 7 x0_line, gridI d r0_good 8 3 x0_good, gridI d r0_work 7 5 x0_work, gMd d h1 a1_kept a1_tried a1_chosen r1_rows r1_line r1_good r1_work x1_shelf x1_rowSort x1_rowSize x1_moved x1_shown x1_tape x1_tapeSize x1_refused (out.2.2.1) (out.2.2.2.2.1) (out.2.2.2.2.2.1) (out.2.2.2.2.2.2.1) (out.2.2.2.2.2.2.2.2.1) (out.2.2.2.2.2.2.2.2.2.2.1) (out.2.2.2.2.2.2.2.2.2.2.2.1) (out.2.2.2.2.2.2.2.2.2.2.2.2.1) x1_at x1_token x1_from x1_figures x1_fault x1_numbers x1_statements (out.2.2.2.2.2.2.2.2.2.2.2.2.2.1) (out.2.2.2.2.2.2.2.2.2.2.2.2.2.2.1) (out.2.2.2.2.2.2.2.2.2.2.2.2.2.2.2) x1_way x1_steps x1_met x1_queue x1_totals, gridI d r1_line 20 7 (out.2.2.2.1), gridI d r1_good 8 3 (out.2.2.2.2.2.2.2.1), gridI d r1_work 7 5 (out.2.2.2.2.2.2.2.2.2.1)])) := by
  refine Ct.of (by decide) (Nat.le_of_ble_eq_true rfl) ?_
  intro Φ hl hK hR
  subst hl
  have hK : Ok d Φ RX7 "total" cX7_total 2 (some .int) { frames := 5, cells := 0, slots := 0, locals := 109 } := hK
  unfold fX7_total at hf
  have hf := un35 hf
  have hf := un35 hf
  show J d Φ 2 [gMd d h0 a0_kept (some (h1 0)) a0_chosen r0_rows r0_line r0_good r0_work x0_shelf x0_rowSort x0_rowSize x0_moved x0_shown x0_tape x0_tapeSize x0_refused x0_lines x0_changes x0_coins x0_goods x0_works x0_years x0_gone x0_spent x0_at x0_token x0_from x0_figures x0_fault x0_numbers x0_statements x0_left x0_far x0_tons x0_way x0_steps x0_met x0_queue x0_totals, gridI d r0_line 20 7 x0_line, gridI d r0_good 8 3 x0_good, gridI d r0_work 7 5 x0_work, gMd d h1 a1_kept a1_tried a1_chosen r1_rows r1_line r1_good r1_work x1_shelf x1_rowSort x1_rowSize x1_moved x1_shown x1_tape x1_tapeSize x1_refused x1_lines x1_changes x1_coins x1_goods x1_works x1_years x1_gone x1_spent x1_at x1_token x1_from x1_figures x1_fault x1_numbers x1_statements x1_left x1_far x1_tons x1_way x1_steps x1_met x1_queue x1_totals, gridI d r1_line 20 7 x1_line, gridI d r1_good 8 3 x1_good, gridI d r1_work 7 5 x1_work] 0 0 0 [(0, .ref (h0 0)), (1, .int p1)] []
  refine J_iload_n hK dX7_total_0 rfl 1 rfl rfl ?_
  refine J_i2l hK dX7_total_1 rfl ?_
  refine J_lconst (v := 0) hK dX7_total_2 rfl (by decide) ?_
  refine J_iconst (v := 1) hK dX7_total_3 rfl (by decide) ?_
  refine J_aload_n hK dX7_total_4 rfl 0 rfl rfl ?_
  refine J_get hK fo_RX7_85 dX7_total_5 rfl 0 0 rfl rfl rfl ?_
  refine J_ishl hK dX7_total_8 rfl ?_
  refine J_iconst (v := 1) hK dX7_total_9 rfl (by decide) ?_
  refine J_isub hK dX7_total_10 rfl ?_
  refine J_i2l hK dX7_total_11 rfl ?_
  obtain ⟨v1, e2, hf⟩ := bs hf
  refine J_callS (m' := 8) (ce' := 0) (sl' := 0) (gr := [gMd d h0 a0_kept (some (h1 0)) a0_chosen r0_rows r0_line r0_good r0_work x0_shelf x0_rowSort x0_rowSize x0_moved x0_shown x0_tape x0_tapeSize x0_refused x0_lines x0_changes x0_coins x0_goods x0_works x0_years x0_gone x0_spent x0_at x0_token x0_from x0_figures x0_fault x0_numbers x0_statements x0_left x0_far x0_tons x0_way x0_steps x0_met x0_queue x0_totals, gridI d r0_line 20 7 x0_line, gridI d r0_good 8 3 x0_good, gridI d r0_work 7 5 x0_work, gMd d h1 a1_kept a1_tried a1_chosen r1_rows r1_line r1_good r1_work x1_shelf x1_rowSort x1_rowSize x1_moved x1_shown x1_tape x1_tapeSize x1_refused x1_lines x1_changes x1_coins x1_goods x1_works x1_years x1_gone x1_spent x1_at x1_token x1_from x1_figures x1_fault x1_numbers x1_statements x1_left x1_far x1_tons x1_way x1_steps x1_met x1_queue x1_totals, gridI d r1_line 20 7 x1_line, gridI d r1_good 8 3 x1_good, gridI d r1_work 7 5 x1_work]) (gs' := fun _ => [gMd d h0 a0_kept (some (h1 0)) a0_chosen r0_rows r0_line r0_good r0_work x0_shelf x0_rowSort x0_rowSize x0_moved x0_shown x0_tape x0_tapeSize x0_refused x0_lines x0_changes x0_coins x0_goods x0_works x0_years x0_gone x0_spent x0_at x0_token x0_from x0_figures x0_fault x0_numbers x0_statements x0_left x0_far x0_tons x0_way x0_steps x0_met x0_queue x0_totals, gridI d r0_line 20 7 x0_line, gridI d r0_good 8 3 x0_good, gridI d r0_work 7 5 x0_work, gMd d h1 a1_kept a1_tried a1_chosen r1_rows r1_line r1_good r1_work x1_shelf x1_rowSort x1_rowSize x1_moved x1_shown x1_tape x1_tapeSize x1_refused x1_lines x1_changes x1_coins x1_goods x1_works x1_years x1_gone x1_spent x1_at x1_token x1_from x1_figures x1_fault x1_numbers x1_statements x1_left x1_far x1_tons x1_way x1_steps x1_met x1_queue x1_totals, gridI d r1_line 20 7 x1_line, gridI d r1_good 8 3 x1_good, gridI d r1_work 7 5 x1_work]) (st' := fun _ => [.int v1]) (st := []) hK dX7_total_12 cv_RX7_78 ws_yX7_in (As := [.long ((p1).toInt64), .long (0 : Int64), .long (((((1 : Int32) <<< (x0_works &&& 31)) - 1)).toInt64)]) (kX7_in _ d ((p1).toInt64) (0 : Int64) (((((1 : Int32) <<< (x0_works &&& 31)) - 1)).toInt64) e2) rfl rfl (Nat.le_of_ble_eq_true rfl) (by decide) [] [0, 1, 2, 3, 4, 5, 6, 7] rfl rfl rfl rfl [0, 1, 2, 3, 4, 5, 6, 7] rfl (fun _ => rfl) (fun _ => rfl) rfl rfl rfl (fun _ => rfl) (fun _ => ?_)
  refine J_if_eq (tg := 26) hK dX7_total_15 rfl rfl (fun hc15 => ?_) (fun hc15 => ?_)
  · have hf := ip hc15 hf
    refine J_aload_n hK dX7_total_26 rfl 0 rfl rfl ?_
    refine J_bipush (v := (-2)) hK dX7_total_27 rfl (by decide) ?_
    obtain ⟨⟨v3, g4⟩, e5, hf⟩ := bs hf
    have hf := un2 hf
    refine J_callV (m' := 8) (ce' := 0) (sl' := 0) (gr := [gridI d r0_line 20 7 x0_line, gridI d r0_good 8 3 x0_good, gridI d r0_work 7 5 x0_work, gMd d h1 a1_kept a1_tried a1_chosen r1_rows r1_line r1_good r1_work x1_shelf x1_rowSort x1_rowSize x1_moved x1_shown x1_tape x1_tapeSize x1_refused x1_lines x1_changes x1_coins x1_goods x1_works x1_years x1_gone x1_spent x1_at x1_token x1_from x1_figures x1_fault x1_numbers x1_statements x1_left x1_far x1_tons x1_way x1_steps x1_met x1_queue x1_totals, gridI d r1_line 20 7 x1_line, gridI d r1_good 8 3 x1_good, gridI d r1_work 7 5 x1_work]) (gs' := fun _ => [gMd d h0 a0_kept (some (h1 0)) a0_chosen r0_rows r0_line r0_good r0_work x0_shelf x0_rowSort x0_rowSize x0_moved x0_shown x0_tape x0_tapeSize g4 x0_lines x0_changes x0_coins x0_goods x0_works x0_years x0_gone x0_spent x0_at x0_token x0_from x0_figures x0_fault x0_numbers x0_statements x0_left x0_far x0_tons x0_way x0_steps x0_met x0_queue x0_totals, gridI d r0_line 20 7 x0_line, gridI d r0_good 8 3 x0_good, gridI d r0_work 7 5 x0_work, gMd d h1 a1_kept a1_tried a1_chosen r1_rows r1_line r1_good r1_work x1_shelf x1_rowSort x1_rowSize x1_moved x1_shown x1_tape x1_tapeSize x1_refused x1_lines x1_changes x1_coins x1_goods x1_works x1_years x1_gone x1_spent x1_at x1_token x1_from x1_figures x1_fault x1_numbers x1_statements x1_left x1_far x1_tons x1_way x1_steps x1_met x1_queue x1_totals, gridI d r1_line 20 7 x1_line, gridI d r1_good 8 3 x1_good, gridI d r1_work 7 5 x1_work]) (st' := fun _ => [.int v3]) (st := []) hK dX7_total_29 cv_RX7_94 iv_yX7_refuse (As := [.int (-2)]) (kX7_refuse _ d h0 r0_rows r0_line r0_good r0_work a0_kept (some (h1 0)) a0_chosen x0_shelf x0_rowSort x0_rowSize x0_rows x0_moved x0_shown x0_tape x0_tapeSize x0_refused x0_lines x0_line x0_changes x0_coins x0_goods x0_good x0_works x0_work x0_years x0_gone x0_spent x0_at x0_token x0_from x0_figures x0_fault x0_numbers x0_statements x0_left x0_far x0_tons x0_way x0_steps x0_met x0_queue x0_totals (-2) e5) rfl rfl (Nat.le_of_ble_eq_true rfl) (by decide) 0 0 rfl rfl rfl [0] [1, 2, 3, 4, 5, 6, 7] rfl rfl rfl rfl [7, 0, 1, 2, 3, 4, 5, 6] rfl (fun _ => rfl) (fun _ => rfl) rfl rfl rfl (fun _ => rfl) (fun _ => ?_)
    obtain rfl := Option.some.inj hf
    exact J_iret hK hR dX7_total_32 () rfl (by decide) (by decide)
  · have hf := iq hc15 hf
    refine J_aload_n hK dX7_total_18 rfl 0 rfl rfl ?_
    refine J_iload_n hK dX7_total_19 rfl 1 rfl rfl ?_
    obtain ⟨⟨v6, ⟨g8, g9, g10, g11, g12, g13, g14, g15, g16, g17, g18, g19, g20, g21⟩⟩, e22, hf⟩ := bs hf
    have hf := un2 hf
    have hf := un14 hf
    refine J_callV (m' := 8) (ce' := 0) (sl' := 0) (gr := []) (gs' := fun _ => [gMd d h0 a0_kept (some (h1 0)) a0_chosen r0_rows r0_line r0_good r0_work x0_shelf x0_rowSort x0_rowSize x0_moved x0_shown x0_tape x0_tapeSize x0_refused x0_lines x0_changes x0_coins x0_goods x0_works x0_years x0_gone x0_spent x0_at x0_token x0_from x0_figures x0_fault x0_numbers x0_statements x0_left x0_far x0_tons x0_way x0_steps x0_met x0_queue x0_totals, gridI d r0_line 20 7 x0_line, gridI d r0_good 8 3 x0_good, gridI d r0_work 7 5 x0_work, gMd d h1 a1_kept a1_tried a1_chosen r1_rows r1_line r1_good r1_work x1_shelf x1_rowSort x1_rowSize x1_moved x1_shown x1_tape x1_tapeSize x1_refused g8 g10 g11 g12 g14 g16 g17 g18 x1_at x1_token x1_from x1_figures x1_fault x1_numbers x1_statements g19 g20 g21 x1_way x1_steps x1_met x1_queue x1_totals, gridI d r1_line 20 7 g9, gridI d r1_good 8 3 g13, gridI d r1_work 7 5 g15]) (st' := fun _ => [.int v6]) (st := []) hK dX7_total_20 cv_RX7_300 iv_yX7_totalOf (As := [.int p1]) (kX7_totalOf _ d h0 r0_rows r0_line r0_good r0_work a0_kept a0_chosen h1 r1_rows r1_line r1_good r1_work a1_kept a1_tried a1_chosen n x0_shelf x0_rowSort x0_rowSize x0_rows x0_moved x0_shown x0_tape x0_tapeSize x0_refused x0_lines x0_line x0_changes x0_coins x0_goods x0_good x0_works x0_work x0_years x0_gone x0_spent x0_at x0_token x0_from x0_figures x0_fault x0_numbers x0_statements x0_left x0_far x0_tons x0_way x0_steps x0_met x0_queue x0_totals x1_shelf x1_rowSort x1_rowSize x1_rows x1_moved x1_shown x1_tape x1_tapeSize x1_refused x1_lines x1_line x1_changes x1_coins x1_goods x1_good x1_works x1_work x1_years x1_gone x1_spent x1_at x1_token x1_from x1_figures x1_fault x1_numbers x1_statements x1_left x1_far x1_tons x1_way x1_steps x1_met x1_queue x1_totals p1 e22) rfl rfl (Nat.le_of_ble_eq_true rfl) (by decide) 0 0 rfl rfl rfl [0, 1, 2, 3, 4, 5, 6, 7] [] rfl rfl rfl rfl [0, 1, 2, 3, 4, 5, 6, 7] rfl (fun _ => rfl) (fun _ => rfl) rfl rfl rfl (fun _ => rfl) (fun _ => ?_)
    refine J_goto hK dX7_total_23 (n := 32) rfl ?_
    obtain rfl := Option.some.inj hf
    exact J_iret hK hR dX7_total_32 () rfl (by decide) (by decide)

def fX7_best_s10 (n : Nat) (x0_shelf : (Nat → Int32)) (x0_rowSort : (Nat → Int32)) (x0_rowSize : (Nat → Int32)) (x0_rows : (Nat → Nat → Int64)) (x0_moved : (Nat → Int64)) (x0_shown : (Nat → Int32)) (x0_tape : (Nat → Int32)) (x0_tapeSize : Int32) (x0_refused : (Nat → Int32)) (x0_lines : Int32) (x0_line : (Nat → Nat → Int32)) (x0_changes : (Nat → Int32)) (x0_coins : (Nat → Int32)) (x0_goods : Int32) (x0_good : (Nat → Nat → Int32)) (x0_works : Int32) (x0_work : (Nat → Nat → Int32)) (x0_years : Int32) (x0_gone : Int32) (x0_spent : Int32) (x0_at : Int32) (x0_token : Int32) (x0_from : Int32) (x0_figures : Int64) (x0_fault : Int32) (x0_numbers : (Nat → Int32)) (x0_statements : Int32) (x0_left : (Nat → Int32)) (x0_far : (Nat → Int32)) (x0_tons : Int32) (x0_way : (Nat → Int32)) (x0_steps : Int32) (x0_met : Int64) (x0_queue : (Nat → Int32)) (x0_totals : (Nat → Int32)) (x1_shelf : (Nat → Int32)) (x1_rowSort : (Nat → Int32)) (x1_rowSize : (Nat → Int32)) (x1_rows : (Nat → Nat → Int64)) (x1_moved : (Nat → Int64)) (x1_shown : (Nat → Int32)) (x1_tape : (Nat → Int32)) (x1_tapeSize : Int32) (x1_refused : (Nat → Int32)) (x1_at : Int32) (x1_token : Int32) (x1_from : Int32) (x1_figures : Int64) (x1_fault : Int32) (x1_numbers : (Nat → Int32)) (x1_statements : Int32) (x1_way : (Nat → Int32)) (x1_steps : Int32) (x1_met : Int64) (x1_queue : (Nat → Int32)) (x1_totals : (Nat → Int32)) (z19 : Int32) (z20 : Int32) (z21 : Int32) (z22 : Int32) (z23 : (Nat → Nat → Int32)) (z24 : (Nat → Int32)) (z25 : (Nat → Int32)) (z26 : Int32) (z27 : (Nat → Nat → Int32)) (z28 : Int32) (z29 : (Nat → Nat → Int32)) (z30 : Int32) (z31 : Int32) (z32 : Int32) (z33 : (Nat → Int32)) (z34 : (Nat → Int32)) (z35 : Int32) : Option ((Int32 × Int32 × Int32 × Int32 × (Nat → Nat → Int32) × (Nat → Int32) × (Nat → Int32) × Int32 × (Nat → Nat → Int32) × Int32 × (Nat → Nat → Int32) × Int32 × Int32 × Int32 × (Nat → Int32) × (Nat → Int32) × Int32) ⊕ (Int32 × Int32 × (Nat → Nat → Int32) × (Nat → Int32) × (Nat → Int32) × Int32 × (Nat → Nat → Int32) × Int32 × (Nat → Nat → Int32) × Int32 × Int32 × Int32 × (Nat → Int32) × (Nat → Int32) × Int32)) :=
  if ((1 : Int32) <<< (x0_works &&& 31)) ≤ z21 then (some (.inr (z19, z22, z23, z24, z25, z26, z27, z28, z29, z30, z31, z32, z33, z34, z35))) else ((fX7_totalOf n (x0_shelf, x0_rowSort, x0_rowSize, x0_rows, x0_moved, x0_shown, x0_tape, x0_tapeSize, x0_refused, x0_lines, x0_line, x0_changes, x0_coins, x0_goods, x0_good, x0_works, x0_work, x0_years, x0_gone, x0_spent, x0_at, x0_token, x0_from, x0_figures, x0_fault, x0_numbers, x0_statements, x0_left, x0_far, x0_tons, x0_way, x0_steps, x0_met, x0_queue, x0_totals) (x1_shelf, x1_rowSort, x1_rowSize, x1_rows, x1_moved, x1_shown, x1_tape, x1_tapeSize, x1_refused, z22, z23, z24, z25, z26, z27, z28, z29, z30, z31, z32, x1_at, x1_token, x1_from, x1_figures, x1_fault, x1_numbers, x1_statements, z33, z34, z35, x1_way, x1_steps, x1_met, x1_queue, x1_totals) z21).bind (u2 fun v52 G53 => u14 (fun g54 g55 g56 g57 g58 g59 g60 g61 g62 g63 g64 g65 g66 g67 => if z20 ≤ v52 then (some (.inl (z19, z20, (z21 + 1), g54, g55, g56, g57, g58, g59, g60, g61, g62, g63, g64, g65, g66, g67))) else (some (.inl (z21, v52, (z21 + 1), g54, g55, g56, g57, g58, g59, g60, g61, g62, g63, g64, g65, g66, g67)))) G53))
def fX7_best (n : Nat) (X0 : MdT) (X1 : MdT) : Option (Int32 × (Int32 × (Nat → Nat → Int32) × (Nat → Int32) × (Nat → Int32) × Int32 × (Nat → Nat → Int32) × Int32 × (Nat → Nat → Int32) × Int32 × Int32 × Int32 × (Nat → Int32) × (Nat → Int32) × Int32)) :=
  u35 (fun (x0_shelf : (Nat → Int32)) (x0_rowSort : (Nat → Int32)) (x0_rowSize : (Nat → Int32)) (x0_rows : (Nat → Nat → Int64)) (x0_moved : (Nat → Int64)) (x0_shown : (Nat → Int32)) (x0_tape : (Nat → Int32)) (x0_tapeSize : Int32) (x0_refused : (Nat → Int32)) (x0_lines : Int32) (x0_line : (Nat → Nat → Int32)) (x0_changes : (Nat → Int32)) (x0_coins : (Nat → Int32)) (x0_goods : Int32) (x0_good : (Nat → Nat → Int32)) (x0_works : Int32) (x0_work : (Nat → Nat → Int32)) (x0_years : Int32) (x0_gone : Int32) (x0_spent : Int32) (x0_at : Int32) (x0_token : Int32) (x0_from : Int32) (x0_figures : Int64) (x0_fault : Int32) (x0_numbers : (Nat → Int32)) (x0_statements : Int32) (x0_left : (Nat → Int32)) (x0_far : (Nat → Int32)) (x0_tons : Int32) (x0_way : (Nat → Int32)) (x0_steps : Int32) (x0_met : Int64) (x0_queue : (Nat → Int32)) (x0_totals : (Nat → Int32)) => u35 (fun (x1_shelf : (Nat → Int32)) (x1_rowSort : (Nat → Int32)) (x1_rowSize : (Nat → Int32)) (x1_rows : (Nat → Nat → Int64)) (x1_moved : (Nat → Int64)) (x1_shown : (Nat → Int32)) (x1_tape : (Nat → Int32)) (x1_tapeSize : Int32) (x1_refused : (Nat → Int32)) (x1_lines : Int32) (x1_line : (Nat → Nat → Int32)) (x1_changes : (Nat → Int32)) (x1_coins : (Nat → Int32)) (x1_goods : Int32) (x1_good : (Nat → Nat → Int32)) (x1_works : Int32) (x1_work : (Nat → Nat → Int32)) (x1_years : Int32) (x1_gone : Int32) (x1_spent : Int32) (x1_at : Int32) (x1_token : Int32) (x1_from : Int32) (x1_figures : Int64) (x1_fault : Int32) (x1_numbers : (Nat → Int32)) (x1_statements : Int32) (x1_left : (Nat → Int32)) (x1_far : (Nat → Int32)) (x1_tons : Int32) (x1_way : (Nat → Int32)) (x1_steps : Int32) (x1_met : Int64) (x1_queue : (Nat → Int32)) (x1_totals : (Nat → Int32)) => (fX7_totalOf n (x0_shelf, x0_rowSort, x0_rowSize, x0_rows, x0_moved, x0_shown, x0_tape, x0_tapeSize, x0_refused, x0_lines, x0_line, x0_changes, x0_coins, x0_goods, x0_good, x0_works, x0_work, x0_years, x0_gone, x0_spent, x0_at, x0_token, x0_from, x0_figures, x0_fault, x0_numbers, x0_statements, x0_left, x0_far, x0_tons, x0_way, x0_steps, x0_met, x0_queue, x0_totals) (x1_shelf, x1_rowSort, x1_rowSize, x1_rows, x1_moved, x1_shown, x1_tape, x1_tapeSize, x1_refused, x1_lines, x1_line, x1_changes, x1_coins, x1_goods, x1_good, x1_works, x1_work, x1_years, x1_gone, x1_spent, x1_at, x1_token, x1_from, x1_figures, x1_fault, x1_numbers, x1_statements, x1_left, x1_far, x1_tons, x1_way, x1_steps, x1_met, x1_queue, x1_totals) (0)).bind (u2 fun v1 G2 => u14 (fun g3 g4 g5 g6 g7 g8 g9 g10 g11 g12 g13 g14 g15 g16 => (lp (u17 (fX7_best_s10 n x0_shelf x0_rowSort x0_rowSize x0_rows x0_moved x0_shown x0_tape x0_tapeSize x0_refused x0_lines x0_line x0_changes x0_coins x0_goods x0_good x0_works x0_work x0_years x0_gone x0_spent x0_at x0_token x0_from x0_figures x0_fault x0_numbers x0_statements x0_left x0_far x0_tons x0_way x0_steps x0_met x0_queue x0_totals x1_shelf x1_rowSort x1_rowSize x1_rows x1_moved x1_shown x1_tape x1_tapeSize x1_refused x1_at x1_token x1_from x1_figures x1_fault x1_numbers x1_statements x1_way x1_steps x1_met x1_queue x1_totals)) n (0, v1, 1, g3, g4, g5, g6, g7, g8, g9, g10, g11, g12, g13, g14, g15, g16)).bind (u15 fun w37 w38 w39 w40 w41 w42 w43 w44 w45 w46 w47 w48 w49 w50 w51 => some (w37, (w38, w39, w40, w41, w42, w43, w44, w45, w46, w47, w48, w49, w50, w51)))) G2)) X1) X0
set_option maxHeartbeats 4000000 in
set_option maxRecDepth 100000 in
theorem kX7_best (l : Launch) (d : DT) (h0 : Nat → Nat) (r0_rows : Nat → Nat) (r0_line : Nat → Nat) (r0_good : Nat → Nat) (r0_work : Nat → Nat) (a0_kept : Option Nat) (a0_chosen : Option Nat) (h1 : Nat → Nat) (r1_rows : Nat → Nat) (r1_line : Nat → Nat) (r1_good : Nat → Nat) (r1_work : Nat → Nat) (a1_kept : Option Nat) (a1_tried : Option Nat) (a1_chosen : Option Nat) (n : Nat) (x0_shelf : (Nat → Int32)) (x0_rowSort : (Nat → Int32)) (x0_rowSize : (Nat → Int32)) (x0_rows : (Nat → Nat → Int64)) (x0_moved : (Nat → Int64)) (x0_shown : (Nat → Int32)) (x0_tape : (Nat → Int32)) (x0_tapeSize : Int32) (x0_refused : (Nat → Int32)) (x0_lines : Int32) (x0_line : (Nat → Nat → Int32)) (x0_changes : (Nat → Int32)) (x0_coins : (Nat → Int32)) (x0_goods : Int32) (x0_good : (Nat → Nat → Int32)) (x0_works : Int32) (x0_work : (Nat → Nat → Int32)) (x0_years : Int32) (x0_gone : Int32) (x0_spent : Int32) (x0_at : Int32) (x0_token : Int32) (x0_from : Int32) (x0_figures : Int64) (x0_fault : Int32) (x0_numbers : (Nat → Int32)) (x0_statements : Int32) (x0_left : (Nat → Int32)) (x0_far : (Nat → Int32)) (x0_tons : Int32) (x0_way : (Nat → Int32)) (x0_steps : Int32) (x0_met : Int64) (x0_queue : (Nat → Int32)) (x0_totals : (Nat → Int32)) (x1_shelf : (Nat → Int32)) (x1_rowSort : (Nat → Int32)) (x1_rowSize : (Nat → Int32)) (x1_rows : (Nat → Nat → Int64)) (x1_moved : (Nat → Int64)) (x1_shown : (Nat → Int32)) (x1_tape : (Nat → Int32)) (x1_tapeSize : Int32) (x1_refused : (Nat → Int32)) (x1_lines : Int32) (x1_line : (Nat → Nat → Int32)) (x1_changes : (Nat → Int32)) (x1_coins : (Nat → Int32)) (x1_goods : Int32) (x1_good : (Nat → Nat → Int32)) (x1_works : Int32) (x1_work : (Nat → Nat → Int32)) (x1_years : Int32) (x1_gone : Int32) (x1_spent : Int32) (x1_at : Int32) (x1_token : Int32) (x1_from : Int32) (x1_figures : Int64) (x1_fault : Int32) (x1_numbers : (Nat → Int32)) (x1_statements : Int32) (x1_left : (Nat → Int32)) (x1_far : (Nat → Int32)) (x1_tons : Int32) (x1_way : (Nat → Int32)) (x1_steps : Int32) (x1_met : Int64) (x1_queue : (Nat → Int32)) (x1_totals : (Nat → Int32))  {out : Int32 × (Int32 × (Nat → Nat → Int32) × (Nat → Int32) × (Nat → Int32) × Int32 × (Nat → Nat → Int32) × Int32 × (Nat → Nat → Int32) × Int32 × Int32 × Int32 × (Nat → Int32) × (Nat → Int32) × Int32)} (hf : fX7_best n (x0_shelf, x0_rowSort, x0_rowSize, x0_rows, x0_moved, x0_shown, x0_tape, x0_tapeSize, x0_refused, x0_lines, x0_line, x0_changes, x0_coins, x0_goods, x0_good, x0_works, x0_work, x0_years, x0_gone, x0_spent, x0_at, x0_token, x0_from, x0_figures, x0_fault, x0_numbers, x0_statements, x0_left, x0_far, x0_tons, x0_way, x0_steps, x0_met, x0_queue, x0_totals) (x1_shelf, x1_rowSort, x1_rowSize, x1_rows, x1_moved, x1_shown, x1_tape, x1_tapeSize, x1_refused, x1_lines, x1_line, x1_changes, x1_coins, x1_goods, x1_good, x1_works, x1_work, x1_years, x1_gone, x1_spent, x1_at, x1_token, x1_from, x1_figures, x1_fault, x1_numbers, x1_statements, x1_left, x1_far, x1_tons, x1_way, x1_steps, x1_met, x1_queue, x1_totals) = some out) : Ct l d yX7_best cX7_best 5 (some .int) { frames := 5, cells := 0, slots := 0, locals := 109 } [.ref (h0 0)] [gMd d h0 a0_kept (some (h1 0)) a0_chosen r0_rows r0_line r0_good r0_work x0_shelf x0_rowSort x0_rowSize x0_moved x0_shown x0_tape x0_tapeSize x0_refused x0_lines x0_changes x0_coins x0_goods x0_works x0_years x0_gone x0_spent x0_at x0_token x0_from x0_figures x0_fault x0_numbers x0_statements x0_left x0_far x0_tons x0_way x0_steps x0_met x0_queue x0_totals, gridI d r0_line 20 7 x0_line, gridI d r0_good 8 3 x0_good, gridI d r0_work 7 5 x0_work, gMd d h1 a1_kept a1_tried a1_chosen r1_rows r1_line r1_good r1_work x1_shelf x1_rowSort x1_rowSize x1_moved x1_shown x1_tape x1_tapeSize x1_refused x1_lines x1_changes x1_coins x1_goods x1_works x1_years x1_gone x1_spent x1_at x1_token x1_from x1_figures x1_fault x1_numbers x1_statements x1_left x1_far x1_tons x1_way x1_steps x1_met x1_queue x1_totals, gridI d r1_line 20 7 x1_line, gridI d r1_good 8 3 x1_good, gridI d r1_work 7 5 x1_work] (fun _ : Unit => (some (.int out.1), [gMd d h0 a0_kept (some (h1 0)) a0_chosen r0_rows r0_line r0_good r0_work x0_shelf x0_rowSort x0_rowSize x0_moved x0_shown x0_tape x0_tapeSize x0_refused x0_lines x0_changes x0_coins x0_goods x0_works x0_years x0_gone x0_spent x0_at x0_token x0_from x0_figures x0_fault x0_numbers x0_statements x0_left x0_far x0_tons x0_way x0_steps x0_met x0_queue x0_totals, gridI d r0_line 20 7 x0_line, gridI d r0_good 8 3 x0_good, gridI d r0_work 7 5 x0_work, gMd d h1 a1_kept a1_tried a1_chosen r1_rows r1_line r1_good r1_work x1_shelf x1_rowSort x1_rowSize x1_moved x1_shown x1_tape x1_tapeSize x1_refused (out.2.1) (out.2.2.2.1) (out.2.2.2.2.1) (out.2.2.2.2.2.1) (out.2.2.2.2.2.2.2.1) (out.2.2.2.2.2.2.2.2.2.1) (out.2.2.2.2.2.2.2.2.2.2.1) (out.2.2.2.2.2.2.2.2.2.2.2.1) x1_at x1_token x1_from x1_figures x1_fault x1_numbers x1_statements (out.2.2.2.2.2.2.2.2.2.2.2.2.1) (out.2.2.2.2.2.2.2.2.2.2.2.2.2.1) (out.2.2.2.2.2.2.2.2.2.2.2.2.2.2) x1_way x1_steps x1_met x1_queue x1_totals, gridI d r1_line 20 7 (out.2.2.1), gridI d r1_good 8 3 (out.2.2.2.2.2.2.1), gridI d r1_work 7 5 (out.2.2.2.2.2.2.2.2.1)])) := by
  refine Ct.of (by decide) (Nat.le_of_ble_eq_true rfl) ?_
  intro Φ hl hK hR
  subst hl
  have hK : Ok d Φ RX7 "best" cX7_best 5 (some .int) { frames := 5, cells := 0, slots := 0, locals := 109 } := hK
  unfold fX7_best at hf
  have hf := un35 hf
  have hf := un35 hf
  show J d Φ 5 [gMd d h0 a0_kept (some (h1 0)) a0_chosen r0_rows r0_line r0_good r0_work x0_shelf x0_rowSort x0_rowSize x0_moved x0_shown x0_tape x0_tapeSize x0_refused x0_lines x0_changes x0_coins x0_goods x0_works x0_years x0_gone x0_spent x0_at x0_token x0_from x0_figures x0_fault x0_numbers x0_statements x0_left x0_far x0_tons x0_way x0_steps x0_met x0_queue x0_totals, gridI d r0_line 20 7 x0_line, gridI d r0_good 8 3 x0_good, gridI d r0_work 7 5 x0_work, gMd d h1 a1_kept a1_tried a1_chosen r1_rows r1_line r1_good r1_work x1_shelf x1_rowSort x1_rowSize x1_moved x1_shown x1_tape x1_tapeSize x1_refused x1_lines x1_changes x1_coins x1_goods x1_works x1_years x1_gone x1_spent x1_at x1_token x1_from x1_figures x1_fault x1_numbers x1_statements x1_left x1_far x1_tons x1_way x1_steps x1_met x1_queue x1_totals, gridI d r1_line 20 7 x1_line, gridI d r1_good 8 3 x1_good, gridI d r1_work 7 5 x1_work] 0 0 0 [(0, .ref (h0 0))] []
  refine J_iconst (v := 0) hK dX7_best_0 rfl (by decide) ?_
  refine J_istore_n (L' := [(1, .int (0)), (0, .ref (h0 0))]) hK dX7_best_1 rfl rfl (by decide) rfl ?_
  refine J_aload_n hK dX7_best_2 rfl 1 rfl rfl ?_
  refine J_iconst (v := 0) hK dX7_best_3 rfl (by decide) ?_
  obtain ⟨⟨v1, ⟨g3, g4, g5, g6, g7, g8, g9, g10, g11, g12, g13, g14, g15, g16⟩⟩, e17, hf⟩ := bs hf
  have hf := un2 hf
  have hf := un14 hf
  refine J_callV (m' := 8) (ce' := 0) (sl' := 0) (gr := []) (gs' := fun _ => [gMd d h0 a0_kept (some (h1 0)) a0_chosen r0_rows r0_line r0_good r0_work x0_shelf x0_rowSort x0_rowSize x0_moved x0_shown x0_tape x0_tapeSize x0_refused x0_lines x0_changes x0_coins x0_goods x0_works x0_years x0_gone x0_spent x0_at x0_token x0_from x0_figures x0_fault x0_numbers x0_statements x0_left x0_far x0_tons x0_way x0_steps x0_met x0_queue x0_totals, gridI d r0_line 20 7 x0_line, gridI d r0_good 8 3 x0_good, gridI d r0_work 7 5 x0_work, gMd d h1 a1_kept a1_tried a1_chosen r1_rows r1_line r1_good r1_work x1_shelf x1_rowSort x1_rowSize x1_moved x1_shown x1_tape x1_tapeSize x1_refused g3 g5 g6 g7 g9 g11 g12 g13 x1_at x1_token x1_from x1_figures x1_fault x1_numbers x1_statements g14 g15 g16 x1_way x1_steps x1_met x1_queue x1_totals, gridI d r1_line 20 7 g4, gridI d r1_good 8 3 g8, gridI d r1_work 7 5 g10]) (st' := fun _ => [.int v1]) (st := []) hK dX7_best_4 cv_RX7_300 iv_yX7_totalOf (As := [.int (0)]) (kX7_totalOf _ d h0 r0_rows r0_line r0_good r0_work a0_kept a0_chosen h1 r1_rows r1_line r1_good r1_work a1_kept a1_tried a1_chosen n x0_shelf x0_rowSort x0_rowSize x0_rows x0_moved x0_shown x0_tape x0_tapeSize x0_refused x0_lines x0_line x0_changes x0_coins x0_goods x0_good x0_works x0_work x0_years x0_gone x0_spent x0_at x0_token x0_from x0_figures x0_fault x0_numbers x0_statements x0_left x0_far x0_tons x0_way x0_steps x0_met x0_queue x0_totals x1_shelf x1_rowSort x1_rowSize x1_rows x1_moved x1_shown x1_tape x1_tapeSize x1_refused x1_lines x1_line x1_changes x1_coins x1_goods x1_good x1_works x1_work x1_years x1_gone x1_spent x1_at x1_token x1_from x1_figures x1_fault x1_numbers x1_statements x1_left x1_far x1_tons x1_way x1_steps x1_met x1_queue x1_totals (0) e17) rfl rfl (Nat.le_of_ble_eq_true rfl) (by decide) 0 0 rfl rfl rfl [0, 1, 2, 3, 4, 5, 6, 7] [] rfl rfl rfl rfl [0, 1, 2, 3, 4, 5, 6, 7] rfl (fun _ => rfl) (fun _ => rfl) rfl rfl rfl (fun _ => rfl) (fun _ => ?_)
  refine J_istore_n (L' := [(2, .int v1), (1, .int (0)), (0, .ref (h0 0))]) hK dX7_best_7 rfl rfl (by decide) rfl ?_
  refine J_iconst (v := 1) hK dX7_best_8 rfl (by decide) ?_
  refine J_istore_n (L' := [(3, .int (1)), (2, .int v1), (1, .int (0)), (0, .ref (h0 0))]) hK dX7_best_9 rfl rfl (by decide) rfl ?_
  obtain ⟨e36, hl18, hf⟩ := bs hf
  have hx18_44 : ∀ (w37 : Int32) (w38 : Int32) (w39 : (Nat → Nat → Int32)) (w40 : (Nat → Int32)) (w41 : (Nat → Int32)) (w42 : Int32) (w43 : (Nat → Nat → Int32)) (w44 : Int32) (w45 : (Nat → Nat → Int32)) (w46 : Int32) (w47 : Int32) (w48 : Int32) (w49 : (Nat → Int32)) (w50 : (Nat → Int32)) (w51 : Int32), (w37, w38, w39, w40, w41, w42, w43, w44, w45, w46, w47, w48, w49, w50, w51) = e36 → J d Φ 5 [gMd d h0 a0_kept (some (h1 0)) a0_chosen r0_rows r0_line r0_good r0_work x0_shelf x0_rowSort x0_rowSize x0_moved x0_shown x0_tape x0_tapeSize x0_refused x0_lines x0_changes x0_coins x0_goods x0_works x0_years x0_gone x0_spent x0_at x0_token x0_from x0_figures x0_fault x0_numbers x0_statements x0_left x0_far x0_tons x0_way x0_steps x0_met x0_queue x0_totals, gridI d r0_line 20 7 x0_line, gridI d r0_good 8 3 x0_good, gridI d r0_work 7 5 x0_work, gMd d h1 a1_kept a1_tried a1_chosen r1_rows r1_line r1_good r1_work x1_shelf x1_rowSort x1_rowSize x1_moved x1_shown x1_tape x1_tapeSize x1_refused w38 w40 w41 w42 w44 w46 w47 w48 x1_at x1_token x1_from x1_figures x1_fault x1_numbers x1_statements w49 w50 w51 x1_way x1_steps x1_met x1_queue x1_totals, gridI d r1_line 20 7 w39, gridI d r1_good 8 3 w43, gridI d r1_work 7 5 w45] 0 0 44 [(1, .int w37)] [] := by
    intro w37 w38 w39 w40 w41 w42 w43 w44 w45 w46 w47 w48 w49 w50 w51 he
    rw [← he] at hf
    have hf := un15 hf
    refine J_iload_n hK dX7_best_44 rfl 0 rfl rfl ?_
    obtain rfl := Option.some.inj hf
    exact J_iret hK hR dX7_best_45 () rfl (by decide) (by decide)
  have lo18 : ∀ (k : Nat) (z19 : Int32) (z20 : Int32) (z21 : Int32) (z22 : Int32) (z23 : (Nat → Nat → Int32)) (z24 : (Nat → Int32)) (z25 : (Nat → Int32)) (z26 : Int32) (z27 : (Nat → Nat → Int32)) (z28 : Int32) (z29 : (Nat → Nat → Int32)) (z30 : Int32) (z31 : Int32) (z32 : Int32) (z33 : (Nat → Int32)) (z34 : (Nat → Int32)) (z35 : Int32), lp (u17 (fX7_best_s10 n x0_shelf x0_rowSort x0_rowSize x0_rows x0_moved x0_shown x0_tape x0_tapeSize x0_refused x0_lines x0_line x0_changes x0_coins x0_goods x0_good x0_works x0_work x0_years x0_gone x0_spent x0_at x0_token x0_from x0_figures x0_fault x0_numbers x0_statements x0_left x0_far x0_tons x0_way x0_steps x0_met x0_queue x0_totals x1_shelf x1_rowSort x1_rowSize x1_rows x1_moved x1_shown x1_tape x1_tapeSize x1_refused x1_at x1_token x1_from x1_figures x1_fault x1_numbers x1_statements x1_way x1_steps x1_met x1_queue x1_totals)) k (z19, z20, z21, z22, z23, z24, z25, z26, z27, z28, z29, z30, z31, z32, z33, z34, z35) = some e36 → J d Φ 5 [gMd d h0 a0_kept (some (h1 0)) a0_chosen r0_rows r0_line r0_good r0_work x0_shelf x0_rowSort x0_rowSize x0_moved x0_shown x0_tape x0_tapeSize x0_refused x0_lines x0_changes x0_coins x0_goods x0_works x0_years x0_gone x0_spent x0_at x0_token x0_from x0_figures x0_fault x0_numbers x0_statements x0_left x0_far x0_tons x0_way x0_steps x0_met x0_queue x0_totals, gridI d r0_line 20 7 x0_line, gridI d r0_good 8 3 x0_good, gridI d r0_work 7 5 x0_work, gMd d h1 a1_kept a1_tried a1_chosen r1_rows r1_line r1_good r1_work x1_shelf x1_rowSort x1_rowSize x1_moved x1_shown x1_tape x1_tapeSize x1_refused z22 z24 z25 z26 z28 z30 z31 z32 x1_at x1_token x1_from x1_figures x1_fault x1_numbers x1_statements z33 z34 z35 x1_way x1_steps x1_met x1_queue x1_totals, gridI d r1_line 20 7 z23, gridI d r1_good 8 3 z27, gridI d r1_work 7 5 z29] 0 0 10 [(0, .ref (h0 0)), (1, .int z19), (2, .int z20), (3, .int z21)] [] := by
    intro k
    induction k with
    | zero => intro z19 z20 z21 z22 z23 z24 z25 z26 z27 z28 z29 z30 z31 z32 z33 z34 z35 h; cases h
    | succ k ih18 =>
      intro z19 z20 z21 z22 z23 z24 z25 z26 z27 z28 z29 z30 z31 z32 z33 z34 z35 h
      obtain ⟨k2, rr18, hk2, hs18, hr18⟩ := lp_ok h
      cases hk2
      have hs18 : fX7_best_s10 n x0_shelf x0_rowSort x0_rowSize x0_rows x0_moved x0_shown x0_tape x0_tapeSize x0_refused x0_lines x0_line x0_changes x0_coins x0_goods x0_good x0_works x0_work x0_years x0_gone x0_spent x0_at x0_token x0_from x0_figures x0_fault x0_numbers x0_statements x0_left x0_far x0_tons x0_way x0_steps x0_met x0_queue x0_totals x1_shelf x1_rowSort x1_rowSize x1_rows x1_moved x1_shown x1_tape x1_tapeSize x1_refused x1_at x1_token x1_from x1_figures x1_fault x1_numbers x1_statements x1_way x1_steps x1_met x1_queue x1_totals z19 z20 z21 z22 z23 z24 z25 z26 z27 z28 z29 z30 z31 z32 z33 z34 z35 = some rr18 := hs18
      unfold fX7_best_s10 at hs18
      refine J_iload_n hK dX7_best_10 rfl 3 rfl rfl ?_
      refine J_iconst (v := 1) hK dX7_best_11 rfl (by decide) ?_
      refine J_aload_n hK dX7_best_12 rfl 0 rfl rfl ?_
      refine J_get hK fo_RX7_85 dX7_best_13 rfl 0 0 rfl rfl rfl ?_
      refine J_ishl hK dX7_best_16 rfl ?_
      refine J_icmp_ge (tg := 44) hK dX7_best_17 rfl rfl (fun hc17 => ?_) (fun hc17 => ?_)
      · have hs18 := ip hc17 hs18
        exact J_loc [1] rfl (hx18_44 z19 z22 z23 z24 z25 z26 z27 z28 z29 z30 z31 z32 z33 z34 z35 (lpx hs18 hr18))
      · have hs18 := iq hc17 hs18
        refine J_aload_n hK dX7_best_20 rfl 0 rfl rfl ?_
        refine J_iload_n hK dX7_best_21 rfl 3 rfl rfl ?_
        obtain ⟨⟨v52, ⟨g54, g55, g56, g57, g58, g59, g60, g61, g62, g63, g64, g65, g66, g67⟩⟩, e68, hs18⟩ := bs hs18
        have hs18 := un2 hs18
        have hs18 := un14 hs18
        refine J_callV (m' := 8) (ce' := 0) (sl' := 0) (gr := []) (gs' := fun _ => [gMd d h0 a0_kept (some (h1 0)) a0_chosen r0_rows r0_line r0_good r0_work x0_shelf x0_rowSort x0_rowSize x0_moved x0_shown x0_tape x0_tapeSize x0_refused x0_lines x0_changes x0_coins x0_goods x0_works x0_years x0_gone x0_spent x0_at x0_token x0_from x0_figures x0_fault x0_numbers x0_statements x0_left x0_far x0_tons x0_way x0_steps x0_met x0_queue x0_totals, gridI d r0_line 20 7 x0_line, gridI d r0_good 8 3 x0_good, gridI d r0_work 7 5 x0_work, gMd d h1 a1_kept a1_tried a1_chosen r1_rows r1_line r1_good r1_work x1_shelf x1_rowSort x1_rowSize x1_moved x1_shown x1_tape x1_tapeSize x1_refused g54 g56 g57 g58 g60 g62 g63 g64 x1_at x1_token x1_from x1_figures x1_fault x1_numbers x1_statements g65 g66 g67 x1_way x1_steps x1_met x1_queue x1_totals, gridI d r1_line 20 7 g55, gridI d r1_good 8 3 g59, gridI d r1_work 7 5 g61]) (st' := fun _ => [.int v52]) (st := []) hK dX7_best_22 cv_RX7_300 iv_yX7_totalOf (As := [.int z21]) (kX7_totalOf _ d h0 r0_rows r0_line r0_good r0_work a0_kept a0_chosen h1 r1_rows r1_line r1_good r1_work a1_kept a1_tried a1_chosen n x0_shelf x0_rowSort x0_rowSize x0_rows x0_moved x0_shown x0_tape x0_tapeSize x0_refused x0_lines x0_line x0_changes x0_coins x0_goods x0_good x0_works x0_work x0_years x0_gone x0_spent x0_at x0_token x0_from x0_figures x0_fault x0_numbers x0_statements x0_left x0_far x0_tons x0_way x0_steps x0_met x0_queue x0_totals x1_shelf x1_rowSort x1_rowSize x1_rows x1_moved x1_shown x1_tape x1_tapeSize x1_refused z22 z23 z24 z25 z26 z27 z28 z29 z30 z31 z32 x1_at x1_token x1_from x1_figures x1_fault x1_numbers x1_statements z33 z34 z35 x1_way x1_steps x1_met x1_queue x1_totals z21 e68) rfl rfl (Nat.le_of_ble_eq_true rfl) (by decide) 0 0 rfl rfl rfl [0, 1, 2, 3, 4, 5, 6, 7] [] rfl rfl rfl rfl [0, 1, 2, 3, 4, 5, 6, 7] rfl (fun _ => rfl) (fun _ => rfl) rfl rfl rfl (fun _ => rfl) (fun _ => ?_)
        refine J_istore (L' := [(4, .int v52), (0, .ref (h0 0)), (1, .int z19), (2, .int z20), (3, .int z21)]) hK dX7_best_25 rfl (by decide) rfl ?_
        refine J_iload hK dX7_best_27 rfl 0 rfl ?_
        refine J_iload_n hK dX7_best_29 rfl 3 rfl rfl ?_
        refine J_icmp_ge (tg := 38) hK dX7_best_30 rfl rfl (fun hc30 => ?_) (fun hc30 => ?_)
        · have hs18 := ip hc30 hs18
          refine J_iinc (L' := [(3, .int (z21 + 1)), (4, .int v52), (0, .ref (h0 0)), (1, .int z19), (2, .int z20)]) (v := (z21 + 1)) hK dX7_best_38 rfl 4 rfl rfl (by decide) rfl ?_
          refine J_goto hK dX7_best_41 (n := 10) rfl ?_
          exact J_loc [2, 3, 4, 0] rfl (ih18 z19 z20 (z21 + 1) g54 g55 g56 g57 g58 g59 g60 g61 g62 g63 g64 g65 g66 g67 (lpc hs18 hr18))
        · have hs18 := iq hc30 hs18
          refine J_iload hK dX7_best_33 rfl 0 rfl ?_
          refine J_istore_n (L' := [(2, .int v52), (4, .int v52), (0, .ref (h0 0)), (1, .int z19), (3, .int z21)]) hK dX7_best_35 rfl rfl (by decide) rfl ?_
          refine J_iload_n hK dX7_best_36 rfl 4 rfl rfl ?_
          refine J_istore_n (L' := [(1, .int z21), (2, .int v52), (4, .int v52), (0, .ref (h0 0)), (3, .int z21)]) hK dX7_best_37 rfl rfl (by decide) rfl ?_
          refine J_iinc (L' := [(3, .int (z21 + 1)), (1, .int z21), (2, .int v52), (4, .int v52), (0, .ref (h0 0))]) (v := (z21 + 1)) hK dX7_best_38 rfl 4 rfl rfl (by decide) rfl ?_
          refine J_goto hK dX7_best_41 (n := 10) rfl ?_
          exact J_loc [4, 1, 2, 0] rfl (ih18 z21 v52 (z21 + 1) g54 g55 g56 g57 g58 g59 g60 g61 g62 g63 g64 g65 g66 g67 (lpc hs18 hr18))
  exact J_loc [3, 2, 1, 0] rfl (lo18 n (0) v1 (1) g3 g4 g5 g6 g7 g8 g9 g10 g11 g12 g13 g14 g15 g16 hl18)

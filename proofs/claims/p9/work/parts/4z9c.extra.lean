def ShRd (shelf shown : Nat → Int32) : Prop := ∀ k : Nat, shelf k = 2 → 0 ≤ shown k ∧ shown k ≤ 6
theorem ShR_up {shelf shown : Nat → Int32} {i : Nat} {c x : Int32} (h : ∀ k : Nat, shelf k = 2 → 0 ≤ shown k ∧ shown k ≤ 6) (hc : c = 2 → 0 ≤ x ∧ x ≤ 6) : ∀ k : Nat, va_up shelf i c k = 2 → 0 ≤ va_up shown i x k ∧ va_up shown i x k ≤ 6 := by
  intro k hk
  by_cases hi : k = i
  · subst hi
    rw [va_up_self] at hk ⊢
    exact hc hk
  · rw [va_up_ne _ _ hi] at hk ⊢
    exact h k hk
theorem ShR_up1 {shelf shown : Nat → Int32} {i : Nat} {c : Int32} (h : ∀ k : Nat, shelf k = 2 → 0 ≤ shown k ∧ shown k ≤ 6) (hc : c ≠ 2) : ∀ k : Nat, va_up shelf i c k = 2 → 0 ≤ shown k ∧ shown k ≤ 6 := by
  intro k hk
  by_cases hi : k = i
  · subst hi
    rw [va_up_self] at hk
    exact absurd hk hc
  · rw [va_up_ne _ _ hi] at hk
    exact h k hk
set_option maxHeartbeats 1000000 in
theorem esX6_refuse {x0_refused : (Nat → Int32)} {x0_isKept x0_gone x0_spent p1 : Int32}   : Sf (fX6_refuse (x0_refused, x0_isKept, x0_gone, x0_spent) p1) (fun r => (r.1 = p1)) := by
  unfold fX6_refuse
  dsimp only [u4]
  refine Sf.bind (sX6_within ) ?_
  intro v1 hr1
  have hx_v1 : ((v1 = 1 ∧ (-6) ≤ p1 ∧ p1 ≤ (-2)) ∨ (v1 = 0 ∧ (p1 < (-6) ∨ (-2) < p1))) := hr1
  refine Sf.ite (fun hc2 => ?_) (fun hc2 => ?_)
  · exact Sf.ok (show (p1 = p1) from (by grind))
  · have hq3 : 0 ≤ ((-2) - p1) ∧ ((-2) - p1) < 5 := by grind
    refine Sf.rdb 5 rfl hq3 (fun v3 e_v3 => ?_)
    clear e_v3
    refine Sf.wrb 5 rfl hq3 (fun f4 e_f4 => ?_)
    clear e_f4
    exact Sf.ok (show (p1 = p1) from (by grind))
set_option maxHeartbeats 1000000 in
theorem esX6_row {n : Nat} {x0_refused : (Nat → Int32)} {x0_isKept x0_gone x0_spent : Int32} {x1_elements : (Nat → Nat → Int64)} {x1_held x1_sizes : (Nat → Int32)} {p1 p2 p3 : Int32} (hn : 1000000000000 ≤ n) (h_x1_held : (AI (-1) 16 x1_held)) (h_x1_sizes : (AI 0 40 x1_sizes)) : Sf (fX6_row n (x0_refused, x0_isKept, x0_gone, x0_spent) (x1_elements, x1_held, x1_sizes) p1 p2 p3) (fun r => (AI (-1) 16 r.2.2.2.1) ∧ (AI 0 40 r.2.2.2.2) ∧ ((r.1 = 1 ∧ (0 ≤ p1 ∧ p1 ≤ 7) ∧ (0 ≤ p2 ∧ p2 ≤ 4) ∧ (0 ≤ p3 ∧ p3 ≤ 40)) ∨ (r.1 = (-2) ∧ ¬ ((0 ≤ p1 ∧ p1 ≤ 7) ∧ (0 ≤ p2 ∧ p2 ≤ 4) ∧ (0 ≤ p3 ∧ p3 ≤ 40))))) := by
  unfold fX6_row
  dsimp only [u3, u4]
  refine Sf.bind (sX2_has ) ?_
  intro v1 hr1
  have hx_v1 : ((v1 = 1 ∧ 0 ≤ p1 ∧ p1 ≤ 7) ∨ (v1 = 0 ∧ (p1 < 0 ∨ 7 < p1))) := hr1
  refine Sf.ite (fun hc2 => ?_) (fun hc2 => ?_)
  · refine Sf.bind (esX6_refuse ) ?_
    rintro ⟨v3, g4⟩ hr3
    have hx_v3 : (v3 = (-2)) := hr3
    dsimp only [u2]
    exact Sf.ok (show (AI (-1) 16 x1_held) ∧ (AI 0 40 x1_sizes) ∧ ((v3 = 1 ∧ (0 ≤ p1 ∧ p1 ≤ 7) ∧ (0 ≤ p2 ∧ p2 ≤ 4) ∧ (0 ≤ p3 ∧ p3 ≤ 40)) ∨ (v3 = (-2) ∧ ¬ ((0 ≤ p1 ∧ p1 ≤ 7) ∧ (0 ≤ p2 ∧ p2 ≤ 4) ∧ (0 ≤ p3 ∧ p3 ≤ 40)))) from ⟨h_x1_held, h_x1_sizes, (by grind)⟩)
  · refine Sf.bind (sX6_within ) ?_
    intro v6 hr4
    have hx_v6 : ((v6 = 1 ∧ 0 ≤ p2 ∧ p2 ≤ 4) ∨ (v6 = 0 ∧ (p2 < 0 ∨ 4 < p2))) := hr4
    refine Sf.ite (fun hc5 => ?_) (fun hc5 => ?_)
    · refine Sf.bind (esX6_refuse ) ?_
      rintro ⟨v8, g9⟩ hr6
      have hx_v8 : (v8 = (-2)) := hr6
      dsimp only [u2]
      exact Sf.ok (show (AI (-1) 16 x1_held) ∧ (AI 0 40 x1_sizes) ∧ ((v8 = 1 ∧ (0 ≤ p1 ∧ p1 ≤ 7) ∧ (0 ≤ p2 ∧ p2 ≤ 4) ∧ (0 ≤ p3 ∧ p3 ≤ 40)) ∨ (v8 = (-2) ∧ ¬ ((0 ≤ p1 ∧ p1 ≤ 7) ∧ (0 ≤ p2 ∧ p2 ≤ 4) ∧ (0 ≤ p3 ∧ p3 ≤ 40)))) from ⟨h_x1_held, h_x1_sizes, (by grind)⟩)
    · refine Sf.bind (sX6_within ) ?_
      intro v11 hr7
      have hx_v11 : ((v11 = 1 ∧ 0 ≤ p3 ∧ p3 ≤ 40) ∨ (v11 = 0 ∧ (p3 < 0 ∨ 40 < p3))) := hr7
      refine Sf.ite (fun hc8 => ?_) (fun hc8 => ?_)
      · refine Sf.bind (esX6_refuse ) ?_
        rintro ⟨v17, g18⟩ hr9
        have hx_v17 : (v17 = (-2)) := hr9
        dsimp only [u2]
        exact Sf.ok (show (AI (-1) 16 x1_held) ∧ (AI 0 40 x1_sizes) ∧ ((v17 = 1 ∧ (0 ≤ p1 ∧ p1 ≤ 7) ∧ (0 ≤ p2 ∧ p2 ≤ 4) ∧ (0 ≤ p3 ∧ p3 ≤ 40)) ∨ (v17 = (-2) ∧ ¬ ((0 ≤ p1 ∧ p1 ≤ 7) ∧ (0 ≤ p2 ∧ p2 ≤ 4) ∧ (0 ≤ p3 ∧ p3 ≤ 40)))) from ⟨h_x1_held, h_x1_sizes, (by grind)⟩)
      · refine Sf.bind (sX2_putRow hn h_x1_held h_x1_sizes (by grind) (by grind) (by grind)) ?_
        rintro ⟨g13, g14, g15⟩ hr10
        obtain ⟨h_g14, h_g15⟩ : (AI (-1) 16 g14) ∧ (AI 0 40 g15) := hr10
        dsimp only [u3]
        exact Sf.ok (show (AI (-1) 16 g14) ∧ (AI 0 40 g15) ∧ ((1 = 1 ∧ (0 ≤ p1 ∧ p1 ≤ 7) ∧ (0 ≤ p2 ∧ p2 ≤ 4) ∧ (0 ≤ p3 ∧ p3 ≤ 40)) ∨ (1 = (-2) ∧ ¬ ((0 ≤ p1 ∧ p1 ≤ 7) ∧ (0 ≤ p2 ∧ p2 ≤ 4) ∧ (0 ≤ p3 ∧ p3 ≤ 40)))) from ⟨h_g14, h_g15, (by grind)⟩)
theorem eTX7_row_s67 {p1 z17 : Int32} {z18 : (Nat → Nat → Int64)}  (h_p1 : (0 ≤ p1 ∧ p1 ≤ 7)) (h_z17 : (0 ≤ z17)) : Sf (fX7_row_s67 p1 z17 z18) (LQ (u2 (fun z17 z18 => (0 ≤ z17))) (u2 (fun z17 z18 => muUp z17)) (muUp z17) (fun e => True)) := by
  unfold fX7_row_s67
  refine Sf.ite (fun hc1 => ?_) (fun hc1 => ?_)
  · exact Sf.inr trivial
  · refine Sf.ckb 8 rfl (by grind) (fun q21 e_q21 h_q21 => ?_)
    refine Sf.wrb 40 rfl (by grind) (fun f22 e_f22 => ?_)
    exact Sf.inl (show (0 ≤ (z17 + 1)) from (by grind)) (muUp_lt hc1)
theorem eLX7_row_s67 {n : Nat} {p1 z17 : Int32} {z18 : (Nat → Nat → Int64)} (hn : 1000000000000 ≤ n) (h_p1 : (0 ≤ p1 ∧ p1 ≤ 7)) (h_z17 : (0 ≤ z17)) : Sf (lp (u2 (fX7_row_s67 p1)) n (z17, z18)) (fun e => True) :=
  Sf.loop2 (fun z17 z18 => (0 ≤ z17)) (fun z17 z18 => muUp z17) (fun z17 z18 h => eTX7_row_s67 h_p1 h) h_z17 (muUp_n hn)
set_option maxHeartbeats 1000000 in
theorem esX7_row {n : Nat} {x0_shelf x0_rowSort x0_rowSize : (Nat → Int32)} {x0_rows : (Nat → Nat → Int64)} {x0_moved : (Nat → Int64)} {x0_shown x0_tape : (Nat → Int32)} {x0_tapeSize : Int32} {x0_refused : (Nat → Int32)} {x0_lines : Int32} {x0_line : (Nat → Nat → Int32)} {x0_changes x0_coins : (Nat → Int32)} {x0_goods : Int32} {x0_good : (Nat → Nat → Int32)} {x0_works : Int32} {x0_work : (Nat → Nat → Int32)} {x0_years x0_gone x0_spent x0_at x0_token x0_from : Int32} {x0_figures : Int64} {x0_fault : Int32} {x0_numbers : (Nat → Int32)} {x0_statements : Int32} {x0_left x0_far : (Nat → Int32)} {x0_tons : Int32} {x0_way : (Nat → Int32)} {x0_steps : Int32} {x0_met : Int64} {x0_queue x0_totals : (Nat → Int32)} {p1 p2 p3 : Int32} (hn : 1000000000000 ≤ n) (h_x0_shelf : (AI 0 2 x0_shelf)) (h_x0_rowSize : (AI 0 40 x0_rowSize)) (h_x0_tapeSize : (0 ≤ x0_tapeSize ∧ x0_tapeSize ≤ 250)) (h_x0_lines : (0 ≤ x0_lines ∧ x0_lines ≤ 20)) (h_x0_line : (LnM x0_line)) (h_x0_changes : (AI 0 99 x0_changes)) (h_x0_coins : (AI 0 9 x0_coins)) (h_x0_goods : (0 ≤ x0_goods ∧ x0_goods ≤ 8)) (h_x0_good : (GdM x0_good)) (h_x0_works : (0 ≤ x0_works ∧ x0_works ≤ 7)) (h_x0_work : (WkM x0_work)) (h_x0_years : (1 ≤ x0_years ∧ x0_years ≤ 30)) (h_x0_from : (0 ≤ x0_from ∧ x0_from ≤ 250)) (h_x0_far : (AI 0 1000000000 x0_far)) (h_x0_way : (AI 0 22 x0_way)) (h_x0_steps : (0 ≤ x0_steps ∧ x0_steps ≤ 37)) (h_x0_queue : (AI 0 35 x0_queue)) (he_0 : ∀ k : Nat, x0_shelf k = 2 → 0 ≤ x0_shown k ∧ x0_shown k ≤ 6) : Sf (fX7_row n (x0_shelf, x0_rowSort, x0_rowSize, x0_rows, x0_moved, x0_shown, x0_tape, x0_tapeSize, x0_refused, x0_lines, x0_line, x0_changes, x0_coins, x0_goods, x0_good, x0_works, x0_work, x0_years, x0_gone, x0_spent, x0_at, x0_token, x0_from, x0_figures, x0_fault, x0_numbers, x0_statements, x0_left, x0_far, x0_tons, x0_way, x0_steps, x0_met, x0_queue, x0_totals) p1 p2 p3) (fun r => (AI 0 2 r.2.1) ∧ (AI 0 40 r.2.2.2.1) ∧ (((r.1 = 1 ∧ (0 ≤ p1 ∧ p1 ≤ 7) ∧ (0 ≤ p2 ∧ p2 ≤ 4) ∧ (0 ≤ p3 ∧ p3 ≤ 40)) ∨ (r.1 = (-2) ∧ ¬ ((0 ≤ p1 ∧ p1 ≤ 7) ∧ (0 ≤ p2 ∧ p2 ≤ 4) ∧ (0 ≤ p3 ∧ p3 ≤ 40)))) ∧ ∀ k : Nat, r.2.1 k = 2 → 0 ≤ x0_shown k ∧ x0_shown k ≤ 6)) := by
  unfold fX7_row
  dsimp only [u35]
  refine Sf.bind (s_inq p1 0 7 (by decide) (by decide)) ?_
  intro v1 hr_v1
  refine Sf.ite (fun hc1 => ?_) (fun hc1 => ?_)
  · refine Sf.bind (sX7_refuse h_x0_shelf h_x0_rowSize h_x0_tapeSize h_x0_lines h_x0_line h_x0_changes h_x0_coins h_x0_goods h_x0_good h_x0_works h_x0_work h_x0_years h_x0_from h_x0_far h_x0_way h_x0_steps h_x0_queue (by decide)) ?_
    rintro ⟨v3, g4⟩ hr2
    have hx_v3 : (v3 = (-2)) := hr2
    dsimp only [u2]
    exact Sf.ok (show (AI 0 2 x0_shelf) ∧ (AI 0 40 x0_rowSize) ∧ (((v3 = 1 ∧ (0 ≤ p1 ∧ p1 ≤ 7) ∧ (0 ≤ p2 ∧ p2 ≤ 4) ∧ (0 ≤ p3 ∧ p3 ≤ 40)) ∨ (v3 = (-2) ∧ ¬ ((0 ≤ p1 ∧ p1 ≤ 7) ∧ (0 ≤ p2 ∧ p2 ≤ 4) ∧ (0 ≤ p3 ∧ p3 ≤ 40)))) ∧ ∀ k : Nat, x0_shelf k = 2 → 0 ≤ x0_shown k ∧ x0_shown k ≤ 6) from ⟨h_x0_shelf, h_x0_rowSize, (by refine ⟨by grind, ?_⟩; first | exact he_0 | (rw [e_f13]; exact ShR_up1 he_0 (by decide)))⟩)
  · refine Sf.bind (s_inq p2 0 4 (by decide) (by decide)) ?_
    intro v6 hr_v6
    refine Sf.ite (fun hc3 => ?_) (fun hc3 => ?_)
    · refine Sf.bind (sX7_refuse h_x0_shelf h_x0_rowSize h_x0_tapeSize h_x0_lines h_x0_line h_x0_changes h_x0_coins h_x0_goods h_x0_good h_x0_works h_x0_work h_x0_years h_x0_from h_x0_far h_x0_way h_x0_steps h_x0_queue (by decide)) ?_
      rintro ⟨v8, g9⟩ hr4
      have hx_v8 : (v8 = (-2)) := hr4
      dsimp only [u2]
      exact Sf.ok (show (AI 0 2 x0_shelf) ∧ (AI 0 40 x0_rowSize) ∧ (((v8 = 1 ∧ (0 ≤ p1 ∧ p1 ≤ 7) ∧ (0 ≤ p2 ∧ p2 ≤ 4) ∧ (0 ≤ p3 ∧ p3 ≤ 40)) ∨ (v8 = (-2) ∧ ¬ ((0 ≤ p1 ∧ p1 ≤ 7) ∧ (0 ≤ p2 ∧ p2 ≤ 4) ∧ (0 ≤ p3 ∧ p3 ≤ 40)))) ∧ ∀ k : Nat, x0_shelf k = 2 → 0 ≤ x0_shown k ∧ x0_shown k ≤ 6) from ⟨h_x0_shelf, h_x0_rowSize, (by refine ⟨by grind, ?_⟩; first | exact he_0 | (rw [e_f13]; exact ShR_up1 he_0 (by decide)))⟩)
    · refine Sf.bind (s_inq p3 0 40 (by decide) (by decide)) ?_
      intro v11 hr_v11
      refine Sf.ite (fun hc5 => ?_) (fun hc5 => ?_)
      · refine Sf.bind (sX7_refuse h_x0_shelf h_x0_rowSize h_x0_tapeSize h_x0_lines h_x0_line h_x0_changes h_x0_coins h_x0_goods h_x0_good h_x0_works h_x0_work h_x0_years h_x0_from h_x0_far h_x0_way h_x0_steps h_x0_queue (by decide)) ?_
        rintro ⟨v23, g24⟩ hr6
        have hx_v23 : (v23 = (-2)) := hr6
        dsimp only [u2]
        exact Sf.ok (show (AI 0 2 x0_shelf) ∧ (AI 0 40 x0_rowSize) ∧ (((v23 = 1 ∧ (0 ≤ p1 ∧ p1 ≤ 7) ∧ (0 ≤ p2 ∧ p2 ≤ 4) ∧ (0 ≤ p3 ∧ p3 ≤ 40)) ∨ (v23 = (-2) ∧ ¬ ((0 ≤ p1 ∧ p1 ≤ 7) ∧ (0 ≤ p2 ∧ p2 ≤ 4) ∧ (0 ≤ p3 ∧ p3 ≤ 40)))) ∧ ∀ k : Nat, x0_shelf k = 2 → 0 ≤ x0_shown k ∧ x0_shown k ≤ 6) from ⟨h_x0_shelf, h_x0_rowSize, (by refine ⟨by grind, ?_⟩; first | exact he_0 | (rw [e_f13]; exact ShR_up1 he_0 (by decide)))⟩)
      · refine Sf.wrI 8 rfl h_x0_shelf (by grind) (by decide) (fun f13 h_f13 e_f13 => ?_)
        refine Sf.wrb 8 rfl (by grind) (fun f14 e_f14 => ?_)
        refine Sf.wrI 8 rfl h_x0_rowSize (by grind) (by grind) (fun f15 h_f15 e_f15 => ?_)
        refine Sf.bind (eLX7_row_s67 hn (by grind) (by decide)) ?_
        intro w20 hr7
        exact Sf.ok (show (AI 0 2 f13) ∧ (AI 0 40 f15) ∧ (((1 = 1 ∧ (0 ≤ p1 ∧ p1 ≤ 7) ∧ (0 ≤ p2 ∧ p2 ≤ 4) ∧ (0 ≤ p3 ∧ p3 ≤ 40)) ∨ (1 = (-2) ∧ ¬ ((0 ≤ p1 ∧ p1 ≤ 7) ∧ (0 ≤ p2 ∧ p2 ≤ 4) ∧ (0 ≤ p3 ∧ p3 ≤ 40)))) ∧ ∀ k : Nat, f13 k = 2 → 0 ≤ x0_shown k ∧ x0_shown k ≤ 6) from ⟨h_f13, h_f15, (by refine ⟨by grind, ?_⟩; first | exact he_0 | (rw [e_f13]; exact ShR_up1 he_0 (by decide)))⟩)
set_option maxHeartbeats 1000000 in
theorem esX7_show {x0_shelf x0_rowSort x0_rowSize : (Nat → Int32)} {x0_rows : (Nat → Nat → Int64)} {x0_moved : (Nat → Int64)} {x0_shown x0_tape : (Nat → Int32)} {x0_tapeSize : Int32} {x0_refused : (Nat → Int32)} {x0_lines : Int32} {x0_line : (Nat → Nat → Int32)} {x0_changes x0_coins : (Nat → Int32)} {x0_goods : Int32} {x0_good : (Nat → Nat → Int32)} {x0_works : Int32} {x0_work : (Nat → Nat → Int32)} {x0_years x0_gone x0_spent x0_at x0_token x0_from : Int32} {x0_figures : Int64} {x0_fault : Int32} {x0_numbers : (Nat → Int32)} {x0_statements : Int32} {x0_left x0_far : (Nat → Int32)} {x0_tons : Int32} {x0_way : (Nat → Int32)} {x0_steps : Int32} {x0_met : Int64} {x0_queue x0_totals : (Nat → Int32)} {p1 p2 : Int32}  (h_x0_shelf : (AI 0 2 x0_shelf)) (h_x0_rowSize : (AI 0 40 x0_rowSize)) (h_x0_tapeSize : (0 ≤ x0_tapeSize ∧ x0_tapeSize ≤ 250)) (h_x0_lines : (0 ≤ x0_lines ∧ x0_lines ≤ 20)) (h_x0_line : (LnM x0_line)) (h_x0_changes : (AI 0 99 x0_changes)) (h_x0_coins : (AI 0 9 x0_coins)) (h_x0_goods : (0 ≤ x0_goods ∧ x0_goods ≤ 8)) (h_x0_good : (GdM x0_good)) (h_x0_works : (0 ≤ x0_works ∧ x0_works ≤ 7)) (h_x0_work : (WkM x0_work)) (h_x0_years : (1 ≤ x0_years ∧ x0_years ≤ 30)) (h_x0_from : (0 ≤ x0_from ∧ x0_from ≤ 250)) (h_x0_far : (AI 0 1000000000 x0_far)) (h_x0_way : (AI 0 22 x0_way)) (h_x0_steps : (0 ≤ x0_steps ∧ x0_steps ≤ 37)) (h_x0_queue : (AI 0 35 x0_queue)) (he_0 : ∀ k : Nat, x0_shelf k = 2 → 0 ≤ x0_shown k ∧ x0_shown k ≤ 6) : Sf (fX7_show (x0_shelf, x0_rowSort, x0_rowSize, x0_rows, x0_moved, x0_shown, x0_tape, x0_tapeSize, x0_refused, x0_lines, x0_line, x0_changes, x0_coins, x0_goods, x0_good, x0_works, x0_work, x0_years, x0_gone, x0_spent, x0_at, x0_token, x0_from, x0_figures, x0_fault, x0_numbers, x0_statements, x0_left, x0_far, x0_tons, x0_way, x0_steps, x0_met, x0_queue, x0_totals) p1 p2) (fun r => (AI 0 2 r.2.1) ∧ (∀ k : Nat, r.2.1 k = 2 → 0 ≤ r.2.2.1 k ∧ r.2.2.1 k ≤ 6)) := by
  unfold fX7_show
  dsimp only [u35]
  refine Sf.bind (s_inq p1 0 7 (by decide) (by decide)) ?_
  intro v1 hr_v1
  refine Sf.ite (fun hc1 => ?_) (fun hc1 => ?_)
  · refine Sf.bind (sX7_refuse h_x0_shelf h_x0_rowSize h_x0_tapeSize h_x0_lines h_x0_line h_x0_changes h_x0_coins h_x0_goods h_x0_good h_x0_works h_x0_work h_x0_years h_x0_from h_x0_far h_x0_way h_x0_steps h_x0_queue (by decide)) ?_
    rintro ⟨v3, g4⟩ hr2
    have hx_v3 : (v3 = (-2)) := hr2
    dsimp only [u2]
    exact Sf.ok (show (AI 0 2 x0_shelf) ∧ (∀ k : Nat, x0_shelf k = 2 → 0 ≤ x0_shown k ∧ x0_shown k ≤ 6) from ⟨h_x0_shelf, (by first | exact he_0 | (subst_vars; exact ShR_up he_0 (by grind)))⟩)
  · refine Sf.ite (fun hc3 => ?_) (fun hc3 => ?_)
    · unfold fX7_show_j32
      refine Sf.ite (fun hc4 => ?_) (fun hc4 => ?_)
      · unfold fX7_show_j47
        refine Sf.wrI 8 rfl h_x0_shelf (by grind) (by decide) (fun f7 h_f7 e_f7 => ?_)
        refine Sf.wrb 8 rfl (by grind) (fun f8 e_f8 => ?_)
        exact Sf.ok (show (AI 0 2 f7) ∧ (∀ k : Nat, f7 k = 2 → 0 ≤ f8 k ∧ f8 k ≤ 6) from ⟨h_f7, (by first | exact he_0 | (subst_vars; exact ShR_up he_0 (by grind)))⟩)
      · unfold fX7_show_j47
        refine Sf.wrI 8 rfl h_x0_shelf (by grind) (by decide) (fun f7 h_f7 e_f7 => ?_)
        refine Sf.wrb 8 rfl (by grind) (fun f8 e_f8 => ?_)
        exact Sf.ok (show (AI 0 2 f7) ∧ (∀ k : Nat, f7 k = 2 → 0 ≤ f8 k ∧ f8 k ≤ 6) from ⟨h_f7, (by first | exact he_0 | (subst_vars; exact ShR_up he_0 (by grind)))⟩)
    · refine Sf.bind (sX7_isWork h_x0_shelf h_x0_rowSize h_x0_tapeSize h_x0_lines h_x0_line h_x0_changes h_x0_coins h_x0_goods h_x0_good h_x0_works h_x0_work h_x0_years h_x0_from h_x0_far h_x0_way h_x0_steps h_x0_queue) ?_
      intro v9 hr5
      have hx_v9 : ((v9 = 1 ∧ 0 ≤ p2 ∧ p2 < x0_works) ∨ (v9 = 0 ∧ ¬ (0 ≤ p2 ∧ p2 < x0_works))) := hr5
      refine Sf.ite (fun hc6 => ?_) (fun hc6 => ?_)
      · refine Sf.bind (sX7_refuse h_x0_shelf h_x0_rowSize h_x0_tapeSize h_x0_lines h_x0_line h_x0_changes h_x0_coins h_x0_goods h_x0_good h_x0_works h_x0_work h_x0_years h_x0_from h_x0_far h_x0_way h_x0_steps h_x0_queue (by decide)) ?_
        rintro ⟨v11, g12⟩ hr7
        have hx_v11 : (v11 = (-2)) := hr7
        dsimp only [u2]
        exact Sf.ok (show (AI 0 2 x0_shelf) ∧ (∀ k : Nat, x0_shelf k = 2 → 0 ≤ x0_shown k ∧ x0_shown k ≤ 6) from ⟨h_x0_shelf, (by first | exact he_0 | (subst_vars; exact ShR_up he_0 (by grind)))⟩)
      · unfold fX7_show_j32
        refine Sf.ite (fun hc8 => ?_) (fun hc8 => ?_)
        · unfold fX7_show_j47
          refine Sf.wrI 8 rfl h_x0_shelf (by grind) (by decide) (fun f7 h_f7 e_f7 => ?_)
          refine Sf.wrb 8 rfl (by grind) (fun f8 e_f8 => ?_)
          exact Sf.ok (show (AI 0 2 f7) ∧ (∀ k : Nat, f7 k = 2 → 0 ≤ f8 k ∧ f8 k ≤ 6) from ⟨h_f7, (by first | exact he_0 | (subst_vars; exact ShR_up he_0 (by grind)))⟩)
        · unfold fX7_show_j47
          refine Sf.wrI 8 rfl h_x0_shelf (by grind) (by decide) (fun f7 h_f7 e_f7 => ?_)
          refine Sf.wrb 8 rfl (by grind) (fun f8 e_f8 => ?_)
          exact Sf.ok (show (AI 0 2 f7) ∧ (∀ k : Nat, f7 k = 2 → 0 ≤ f8 k ∧ f8 k ≤ 6) from ⟨h_f7, (by first | exact he_0 | (subst_vars; exact ShR_up he_0 (by grind)))⟩)
theorem back_loop {n : Nat} {shown : Nat → Int32} {w : Int32} (hn : 1000000000000 ≤ n) {shelf : Nat → Int32} (h : ∀ k : Nat, shelf k = 2 → 0 ≤ shown k ∧ shown k ≤ 6) : Sf (lp (u2 (fX7_back_s24 shown w)) n (0, shelf)) (fun r => ∀ k : Nat, r k = 2 → 0 ≤ shown k ∧ shown k ≤ 6) := by
  refine Sf.loop2 (fun (z15 : Int32) (z16 : Nat → Int32) => 0 ≤ z15 ∧ ∀ k : Nat, z16 k = 2 → 0 ≤ shown k ∧ shown k ≤ 6) (fun (z15 : Int32) (z16 : Nat → Int32) => muUp z15) (fun z15 z16 hh => ?_) ⟨Int32.le_refl _, h⟩ (muUp_n hn)
  obtain ⟨h15, h16⟩ := hh
  unfold fX7_back_s24
  refine Sf.ite (fun _ => Sf.inr h16) (fun hc => ?_)
  obtain ⟨p15, _, hlt⟩ := up1 h15 (by decide) hc
  have hi : 0 ≤ z15 ∧ z15 < 8 := ⟨h15, hlt⟩
  refine Sf.rdb 8 rfl hi (fun v19 _ => ?_)
  refine Sf.ite (fun _ => ?_) (fun _ => Sf.inl ⟨p15, h16⟩ (muUp_lt hc))
  refine Sf.rdb 8 rfl hi (fun v20 _ => ?_)
  refine Sf.ite (fun _ => Sf.inl ⟨p15, h16⟩ (muUp_lt hc)) (fun _ => ?_)
  refine Sf.wrb 8 rfl hi (fun f21 e21 => ?_)
  subst e21
  exact Sf.inl ⟨p15, ShR_up1 h16 (by decide)⟩ (muUp_lt hc)
theorem eX7_back {n : Nat} {x0_shelf x0_rowSort x0_rowSize : (Nat → Int32)} {x0_rows : (Nat → Nat → Int64)} {x0_moved : (Nat → Int64)} {x0_shown x0_tape : (Nat → Int32)} {x0_tapeSize : Int32} {x0_refused : (Nat → Int32)} {x0_lines : Int32} {x0_line : (Nat → Nat → Int32)} {x0_changes x0_coins : (Nat → Int32)} {x0_goods : Int32} {x0_good : (Nat → Nat → Int32)} {x0_works : Int32} {x0_work : (Nat → Nat → Int32)} {x0_years x0_gone x0_spent x0_at x0_token x0_from : Int32} {x0_figures : Int64} {x0_fault : Int32} {x0_numbers : (Nat → Int32)} {x0_statements : Int32} {x0_left x0_far : (Nat → Int32)} {x0_tons : Int32} {x0_way : (Nat → Int32)} {x0_steps : Int32} {x0_met : Int64} {x0_queue x0_totals x1_shelf x1_rowSort x1_rowSize : (Nat → Int32)} {x1_rows : (Nat → Nat → Int64)} {x1_moved : (Nat → Int64)} {x1_shown x1_tape : (Nat → Int32)} {x1_tapeSize : Int32} {x1_refused : (Nat → Int32)} {x1_lines : Int32} {x1_line : (Nat → Nat → Int32)} {x1_changes x1_coins : (Nat → Int32)} {x1_goods : Int32} {x1_good : (Nat → Nat → Int32)} {x1_works : Int32} {x1_work : (Nat → Nat → Int32)} {x1_years x1_gone x1_spent x1_at x1_token x1_from : Int32} {x1_figures : Int64} {x1_fault : Int32} {x1_numbers : (Nat → Int32)} {x1_statements : Int32} {x1_left x1_far : (Nat → Int32)} {x1_tons : Int32} {x1_way : (Nat → Int32)} {x1_steps : Int32} {x1_met : Int64} {x1_queue x1_totals : (Nat → Int32)} (hn : 1000000000000 ≤ n) (h_x0_shelf : (AI 0 2 x0_shelf)) (h_x0_rowSize : (AI 0 40 x0_rowSize)) (h_x0_tapeSize : (0 ≤ x0_tapeSize ∧ x0_tapeSize ≤ 250)) (h_x0_lines : (0 ≤ x0_lines ∧ x0_lines ≤ 20)) (h_x0_line : (LnM x0_line)) (h_x0_changes : (AI 0 99 x0_changes)) (h_x0_coins : (AI 0 9 x0_coins)) (h_x0_goods : (0 ≤ x0_goods ∧ x0_goods ≤ 8)) (h_x0_good : (GdM x0_good)) (h_x0_works : (0 ≤ x0_works ∧ x0_works ≤ 7)) (h_x0_work : (WkM x0_work)) (h_x0_years : (1 ≤ x0_years ∧ x0_years ≤ 30)) (h_x0_from : (0 ≤ x0_from ∧ x0_from ≤ 250)) (h_x0_far : (AI 0 1000000000 x0_far)) (h_x0_way : (AI 0 22 x0_way)) (h_x0_steps : (0 ≤ x0_steps ∧ x0_steps ≤ 37)) (h_x0_queue : (AI 0 35 x0_queue)) (h_x1_shelf : (AI 0 2 x1_shelf)) (h_x1_rowSize : (AI 0 40 x1_rowSize)) (h_x1_tapeSize : (0 ≤ x1_tapeSize ∧ x1_tapeSize ≤ 250)) (h_x1_lines : (0 ≤ x1_lines ∧ x1_lines ≤ 20)) (h_x1_line : (LnM x1_line)) (h_x1_changes : (AI 0 99 x1_changes)) (h_x1_coins : (AI 0 9 x1_coins)) (h_x1_goods : (0 ≤ x1_goods ∧ x1_goods ≤ 8)) (h_x1_good : (GdM x1_good)) (h_x1_works : (0 ≤ x1_works ∧ x1_works ≤ 7)) (h_x1_work : (WkM x1_work)) (h_x1_years : (1 ≤ x1_years ∧ x1_years ≤ 30)) (h_x1_from : (0 ≤ x1_from ∧ x1_from ≤ 250)) (h_x1_far : (AI 0 1000000000 x1_far)) (h_x1_way : (AI 0 22 x1_way)) (h_x1_steps : (0 ≤ x1_steps ∧ x1_steps ≤ 37)) (h_x1_queue : (AI 0 35 x1_queue)) (he_0 : ∀ k : Nat, x0_shelf k = 2 → 0 ≤ x0_shown k ∧ x0_shown k ≤ 6) : Sf (fX7_back n (x0_shelf, x0_rowSort, x0_rowSize, x0_rows, x0_moved, x0_shown, x0_tape, x0_tapeSize, x0_refused, x0_lines, x0_line, x0_changes, x0_coins, x0_goods, x0_good, x0_works, x0_work, x0_years, x0_gone, x0_spent, x0_at, x0_token, x0_from, x0_figures, x0_fault, x0_numbers, x0_statements, x0_left, x0_far, x0_tons, x0_way, x0_steps, x0_met, x0_queue, x0_totals) (x1_shelf, x1_rowSort, x1_rowSize, x1_rows, x1_moved, x1_shown, x1_tape, x1_tapeSize, x1_refused, x1_lines, x1_line, x1_changes, x1_coins, x1_goods, x1_good, x1_works, x1_work, x1_years, x1_gone, x1_spent, x1_at, x1_token, x1_from, x1_figures, x1_fault, x1_numbers, x1_statements, x1_left, x1_far, x1_tons, x1_way, x1_steps, x1_met, x1_queue, x1_totals)) (fun r => ∀ k : Nat, r.2.1 k = 2 → 0 ≤ x0_shown k ∧ x0_shown k ≤ 6) := by
  unfold fX7_back
  dsimp only [u35]
  refine Sf.bind (sX7_takeFrom hn h_x0_line h_x0_changes h_x0_coins h_x0_good (h_x0_work.1) h_x1_lines h_x1_line h_x1_changes h_x1_coins h_x1_goods h_x1_good h_x1_works h_x1_work h_x1_years) ?_
  rintro ⟨g2, g3, g4, g5, g6, g7, g8, g9, g10, g11, g12⟩ _
  dsimp only [u11]
  exact Sf.bind (back_loop hn he_0) (fun w18 h => Sf.ok h)

theorem TX7_isWord_s28 {p1 : Nat} {x0_tape : Nat → Int32} {x0_from z3 L : Int32} (hL : slen p1 = some L) (hLb : 0 ≤ L ∧ L ≤ 6) (hc : ∀ z : Int32, 0 ≤ z → z < L → ∃ c, schar p1 z = some c) (hs : 0 ≤ x0_from ∧ x0_from ≤ 250) (hb : x0_from + L ≤ 250) (hz : 0 ≤ z3) : Sf (fX7_isWord_s28 p1 x0_tape x0_from z3) (LQ (fun e => 0 ≤ e) (fun e => muUp e) (muUp z3) (fun _ => True)) := by
  unfold fX7_isWord_s28
  rw [hL]
  refine Sf.someb (fun v5 e5 => ?_)
  subst e5
  refine Sf.ite (fun h => Sf.inr trivial) (fun h => ?_)
  have h1 : z3 < v5 := Int32.not_le.mp h
  have hi : 0 ≤ x0_from + z3 ∧ x0_from + z3 < 250 := by grind
  refine Sf.rdb 250 rfl hi (fun v6 _ => ?_)
  obtain ⟨c, ec⟩ := hc z3 hz h1
  rw [ec]
  refine Sf.someb (fun v7 _ => ?_)
  refine Sf.ite (fun _ => Sf.inl (show 0 ≤ z3 + 1 by grind) (muUp_lt h)) (fun _ => Sf.inr trivial)
theorem sX7_isWord {n : Nat} {x0_shelf x0_rowSort x0_rowSize : (Nat → Int32)} {x0_rows : (Nat → Nat → Int64)} {x0_moved : (Nat → Int64)} {x0_shown x0_tape : (Nat → Int32)} {x0_tapeSize : Int32} {x0_refused : (Nat → Int32)} {x0_lines : Int32} {x0_line : (Nat → Nat → Int32)} {x0_changes x0_coins : (Nat → Int32)} {x0_goods : Int32} {x0_good : (Nat → Nat → Int32)} {x0_works : Int32} {x0_work : (Nat → Nat → Int32)} {x0_years x0_gone x0_spent x0_at x0_token x0_from : Int32} {x0_figures : Int64} {x0_fault : Int32} {x0_numbers : (Nat → Int32)} {x0_statements : Int32} {x0_left x0_far : (Nat → Int32)} {x0_tons : Int32} {x0_way : (Nat → Int32)} {x0_steps : Int32} {x0_met : Int64} {x0_queue x0_totals : (Nat → Int32)} {p1 : Nat} (hn : 1000000000000 ≤ n) (h_x0_at : (0 ≤ x0_at ∧ x0_at ≤ 250)) (h_x0_from : (0 ≤ x0_from ∧ x0_from ≤ 250)) (he_0 : p1 < 20) : Sf (fX7_isWord n (x0_shelf, x0_rowSort, x0_rowSize, x0_rows, x0_moved, x0_shown, x0_tape, x0_tapeSize, x0_refused, x0_lines, x0_line, x0_changes, x0_coins, x0_goods, x0_good, x0_works, x0_work, x0_years, x0_gone, x0_spent, x0_at, x0_token, x0_from, x0_figures, x0_fault, x0_numbers, x0_statements, x0_left, x0_far, x0_tons, x0_way, x0_steps, x0_met, x0_queue, x0_totals) p1) (fun r => (0 ≤ r ∧ r ≤ 1) ∧ (r = 0 ∨ x0_token = 1)) := by
  unfold fX7_isWord
  dsimp only [u35]
  have m0 : ((0 : Int32) ≤ 0 ∧ (0 : Int32) ≤ 1) ∧ ((0 : Int32) = 0 ∨ x0_token = 1) := ⟨by decide, Or.inl rfl⟩
  refine Sf.ite (fun ht => ?_) (fun _ => Sf.ok m0)
  have m1 : ((0 : Int32) ≤ 1 ∧ (1 : Int32) ≤ 1) ∧ ((1 : Int32) = 0 ∨ x0_token = 1) := ⟨by decide, Or.inr ht⟩
  obtain ⟨L, eL, hL, hc⟩ := slen_ok he_0
  rw [eL]
  refine Sf.someb (fun v1 e1 => ?_)
  subst e1
  refine Sf.ite (fun h => ?_) (fun _ => Sf.ok m0)
  have hb : x0_from + v1 ≤ 250 := by grind
  refine Sf.bind (Sf.loop (Q := fun _ => True) (fun e => 0 ≤ e) (fun e => muUp e) (fun e he => TX7_isWord_s28 eL hL hc h_x0_from hb he) n 0 (by decide) (muUp_n hn)) (fun r _ => ?_)
  cases r with
  | inl a => exact Sf.ok m0
  | inr a => exact Sf.ok m1


def AllD (works : Int32) (work : Nat → Nat → Int32) : Prop := ∀ (k : Int32), k < works → ∀ (q : Nat), ck k 7 = some q → ∀ (v : Int32), rd 5 (work q) 4 = some v → ¬ v = 0
theorem notAllD {works : Int32} {work : Nat → Nat → Int32} (h : ¬ AllD works work) : ∃ (k : Int32), k < works ∧ ∃ (q : Nat), ck k 7 = some q ∧ ∃ (v : Int32), rd 5 (work q) 4 = some v ∧ v = 0 := by
  refine Classical.byContradiction fun hn => h ?_
  intro k hk q hq v hv h0
  exact hn ⟨k, hk, q, hq, v, hv, h0⟩
theorem fD_in {k : Int32} {q : Nat} (h : ck k 7 = some q) : 0 ≤ k ∧ k < 7 := by
  have h := inb_vp (ck_ok h).1
  refine ⟨Int32.not_lt.mp fun z => h (Or.inl z), ?_⟩
  have h2 : k.toNatClampNeg < 7 := Nat.not_le.mp fun z => h (Or.inr z)
  rw [Int32.lt_iff_toInt_lt]
  have e : (7 : Int32).toInt = 7 := rfl
  rw [e]
  unfold Int32.toNatClampNeg at h2
  omega
theorem fD_step {work : Nat → Nat → Int32} {k0 z4 : Int32} {q0 q : Nat} {v0 v : Int32} (hz : z4 ≤ k0) (hq0 : ck k0 7 = some q0) (hv0 : rd 5 (work q0) 4 = some v0) (h0 : v0 = 0) (eq : ck z4 7 = some q) (ev : rd 5 (work q) 4 = some v) (hv : ¬ v = 0) : z4 + 1 ≤ k0 := by
  by_cases e : z4 = k0
  · subst e; rw [hq0] at eq; cases eq; rw [hv0] at ev; cases ev; exact absurd h0 hv
  · have h1 := fD_in eq
    have h2 := fD_in hq0
    obtain ⟨h3, h4⟩ := h1
    obtain ⟨h5, h6⟩ := h2
    clear hq0 hv0 eq ev
    grind

set_option maxHeartbeats 4000000 in
theorem first_Dl (n : Nat) (x0_shelf : (Nat → Int32)) (x0_rowSort : (Nat → Int32)) (x0_rowSize : (Nat → Int32)) (x0_rows : (Nat → Nat → Int64)) (x0_moved : (Nat → Int64)) (x0_shown : (Nat → Int32)) (x0_tape : (Nat → Int32)) (x0_tapeSize : Int32) (x0_refused : (Nat → Int32)) (x0_lines : Int32) (x0_line : (Nat → Nat → Int32)) (x0_changes : (Nat → Int32)) (x0_coins : (Nat → Int32)) (x0_goods : Int32) (x0_good : (Nat → Nat → Int32)) (x0_works : Int32) (x0_work : (Nat → Nat → Int32)) (x0_years : Int32) (x0_gone : Int32) (x0_spent : Int32) (x0_at : Int32) (x0_token : Int32) (x0_from : Int32) (x0_figures : Int64) (x0_fault : Int32) (x0_numbers : (Nat → Int32)) (x0_statements : Int32) (x0_left : (Nat → Int32)) (x0_far : (Nat → Int32)) (x0_tons : Int32) (x0_way : (Nat → Int32)) (x0_steps : Int32) (x0_met : Int64) (x0_queue : (Nat → Int32)) (x0_totals : (Nat → Int32)) (x1_shelf : (Nat → Int32)) (x1_rowSort : (Nat → Int32)) (x1_rowSize : (Nat → Int32)) (x1_rows : (Nat → Nat → Int64)) (x1_moved : (Nat → Int64)) (x1_shown : (Nat → Int32)) (x1_tape : (Nat → Int32)) (x1_tapeSize : Int32) (x1_refused : (Nat → Int32)) (x1_lines : Int32) (x1_line : (Nat → Nat → Int32)) (x1_changes : (Nat → Int32)) (x1_coins : (Nat → Int32)) (x1_goods : Int32) (x1_good : (Nat → Nat → Int32)) (x1_works : Int32) (x1_work : (Nat → Nat → Int32)) (x1_years : Int32) (x1_gone : Int32) (x1_spent : Int32) (x1_at : Int32) (x1_token : Int32) (x1_from : Int32) (x1_figures : Int64) (x1_fault : Int32) (x1_numbers : (Nat → Int32)) (x1_statements : Int32) (x1_left : (Nat → Int32)) (x1_far : (Nat → Int32)) (x1_tons : Int32) (x1_way : (Nat → Int32)) (x1_steps : Int32) (x1_met : Int64) (x1_queue : (Nat → Int32)) (x1_totals : (Nat → Int32)) (hd : AllD x0_works x0_work) {e : Int32 × (Int32 × (Nat → Nat → Int32) × (Nat → Int32) × (Nat → Int32) × Int32 × (Nat → Nat → Int32) × Int32 × (Nat → Nat → Int32) × Int32 × Int32 × Int32 × (Nat → Int32) × (Nat → Int32) × Int32)} : ∀ (k : Nat) (z2 z3 z4 : Int32), lp (u17 (fX7_first_s6 n x0_shelf x0_rowSort x0_rowSize x0_rows x0_moved x0_shown x0_tape x0_tapeSize x0_refused x0_lines x0_line x0_changes x0_coins x0_goods x0_good x0_works x0_work x0_years x0_gone x0_spent x0_at x0_token x0_from x0_figures x0_fault x0_numbers x0_statements x0_left x0_far x0_tons x0_way x0_steps x0_met x0_queue x0_totals x1_shelf x1_rowSort x1_rowSize x1_rows x1_moved x1_shown x1_tape x1_tapeSize x1_refused x1_at x1_token x1_from x1_figures x1_fault x1_numbers x1_statements x1_way x1_steps x1_met x1_queue x1_totals)) k (z2, z3, z4, x1_lines, x1_line, x1_changes, x1_coins, x1_goods, x1_good, x1_works, x1_work, x1_years, x1_gone, x1_spent, x1_left, x1_far, x1_tons) = some e → e.2 = (x1_lines, x1_line, x1_changes, x1_coins, x1_goods, x1_good, x1_works, x1_work, x1_years, x1_gone, x1_spent, x1_left, x1_far, x1_tons) := by
  intro k
  induction k with
  | zero => intro z2 z3 z4 h; cases h
  | succ k ih =>
    intro z2 z3 z4 h
    obtain ⟨k2, rr1, hk2, hs1, hr1⟩ := lp_ok h
    cases hk2
    have hs1 : fX7_first_s6 n x0_shelf x0_rowSort x0_rowSize x0_rows x0_moved x0_shown x0_tape x0_tapeSize x0_refused x0_lines x0_line x0_changes x0_coins x0_goods x0_good x0_works x0_work x0_years x0_gone x0_spent x0_at x0_token x0_from x0_figures x0_fault x0_numbers x0_statements x0_left x0_far x0_tons x0_way x0_steps x0_met x0_queue x0_totals x1_shelf x1_rowSort x1_rowSize x1_rows x1_moved x1_shown x1_tape x1_tapeSize x1_refused x1_at x1_token x1_from x1_figures x1_fault x1_numbers x1_statements x1_way x1_steps x1_met x1_queue x1_totals z2 z3 z4 x1_lines x1_line x1_changes x1_coins x1_goods x1_good x1_works x1_work x1_years x1_gone x1_spent x1_left x1_far x1_tons = some rr1 := hs1
    unfold fX7_first_s6 at hs1
    by_cases hc : x0_works ≤ z4
    · have hs1 := ip hc hs1
      have he := lpx hs1 hr1
      rw [← he]
    · have hs1 := iq hc hs1
      obtain ⟨q, eq, hs1⟩ := bs hs1
      obtain ⟨v, ev, hs1⟩ := bs hs1
      have hv := hd z4 (Int32.not_le.mp hc) q eq v ev
      have hs1 := iq hv hs1
      unfold fX7_first_j34 at hs1
      by_cases h3 : (0 : Int32) ≤ z3
      · have hs1 := ip h3 hs1
        exact ih z2 z3 (z4 + 1) (lpc hs1 hr1)
      · have hs1 := iq h3 hs1
        exact ih z4 0 (z4 + 1) (lpc hs1 hr1)
set_option maxHeartbeats 4000000 in
theorem first_D {n : Nat} {x0_shelf : (Nat → Int32)} {x0_rowSort : (Nat → Int32)} {x0_rowSize : (Nat → Int32)} {x0_rows : (Nat → Nat → Int64)} {x0_moved : (Nat → Int64)} {x0_shown : (Nat → Int32)} {x0_tape : (Nat → Int32)} {x0_tapeSize : Int32} {x0_refused : (Nat → Int32)} {x0_lines : Int32} {x0_line : (Nat → Nat → Int32)} {x0_changes : (Nat → Int32)} {x0_coins : (Nat → Int32)} {x0_goods : Int32} {x0_good : (Nat → Nat → Int32)} {x0_works : Int32} {x0_work : (Nat → Nat → Int32)} {x0_years : Int32} {x0_gone : Int32} {x0_spent : Int32} {x0_at : Int32} {x0_token : Int32} {x0_from : Int32} {x0_figures : Int64} {x0_fault : Int32} {x0_numbers : (Nat → Int32)} {x0_statements : Int32} {x0_left : (Nat → Int32)} {x0_far : (Nat → Int32)} {x0_tons : Int32} {x0_way : (Nat → Int32)} {x0_steps : Int32} {x0_met : Int64} {x0_queue : (Nat → Int32)} {x0_totals : (Nat → Int32)} {x1_shelf : (Nat → Int32)} {x1_rowSort : (Nat → Int32)} {x1_rowSize : (Nat → Int32)} {x1_rows : (Nat → Nat → Int64)} {x1_moved : (Nat → Int64)} {x1_shown : (Nat → Int32)} {x1_tape : (Nat → Int32)} {x1_tapeSize : Int32} {x1_refused : (Nat → Int32)} {x1_lines : Int32} {x1_line : (Nat → Nat → Int32)} {x1_changes : (Nat → Int32)} {x1_coins : (Nat → Int32)} {x1_goods : Int32} {x1_good : (Nat → Nat → Int32)} {x1_works : Int32} {x1_work : (Nat → Nat → Int32)} {x1_years : Int32} {x1_gone : Int32} {x1_spent : Int32} {x1_at : Int32} {x1_token : Int32} {x1_from : Int32} {x1_figures : Int64} {x1_fault : Int32} {x1_numbers : (Nat → Int32)} {x1_statements : Int32} {x1_left : (Nat → Int32)} {x1_far : (Nat → Int32)} {x1_tons : Int32} {x1_way : (Nat → Int32)} {x1_steps : Int32} {x1_met : Int64} {x1_queue : (Nat → Int32)} {x1_totals : (Nat → Int32)} (hd : AllD x0_works x0_work) {v : Int32} {g_lines : Int32} {g_line : (Nat → Nat → Int32)} {g_changes : (Nat → Int32)} {g_coins : (Nat → Int32)} {g_goods : Int32} {g_good : (Nat → Nat → Int32)} {g_works : Int32} {g_work : (Nat → Nat → Int32)} {g_years : Int32} {g_gone : Int32} {g_spent : Int32} {g_left : (Nat → Int32)} {g_far : (Nat → Int32)} {g_tons : Int32} (hf : fX7_first n (x0_shelf, x0_rowSort, x0_rowSize, x0_rows, x0_moved, x0_shown, x0_tape, x0_tapeSize, x0_refused, x0_lines, x0_line, x0_changes, x0_coins, x0_goods, x0_good, x0_works, x0_work, x0_years, x0_gone, x0_spent, x0_at, x0_token, x0_from, x0_figures, x0_fault, x0_numbers, x0_statements, x0_left, x0_far, x0_tons, x0_way, x0_steps, x0_met, x0_queue, x0_totals) (x1_shelf, x1_rowSort, x1_rowSize, x1_rows, x1_moved, x1_shown, x1_tape, x1_tapeSize, x1_refused, x1_lines, x1_line, x1_changes, x1_coins, x1_goods, x1_good, x1_works, x1_work, x1_years, x1_gone, x1_spent, x1_at, x1_token, x1_from, x1_figures, x1_fault, x1_numbers, x1_statements, x1_left, x1_far, x1_tons, x1_way, x1_steps, x1_met, x1_queue, x1_totals) = some (v, g_lines, g_line, g_changes, g_coins, g_goods, g_good, g_works, g_work, g_years, g_gone, g_spent, g_left, g_far, g_tons)) : g_lines = x1_lines ∧ g_line = x1_line ∧ g_changes = x1_changes ∧ g_coins = x1_coins ∧ g_goods = x1_goods ∧ g_good = x1_good ∧ g_works = x1_works ∧ g_work = x1_work ∧ g_years = x1_years ∧ g_gone = x1_gone ∧ g_spent = x1_spent ∧ g_left = x1_left ∧ g_far = x1_far ∧ g_tons = x1_tons := by
  unfold fX7_first at hf
  have hf := un35 hf
  have hf := un35 hf
  obtain ⟨e, hl, hf⟩ := bs hf
  have he := first_Dl n x0_shelf x0_rowSort x0_rowSize x0_rows x0_moved x0_shown x0_tape x0_tapeSize x0_refused x0_lines x0_line x0_changes x0_coins x0_goods x0_good x0_works x0_work x0_years x0_gone x0_spent x0_at x0_token x0_from x0_figures x0_fault x0_numbers x0_statements x0_left x0_far x0_tons x0_way x0_steps x0_met x0_queue x0_totals x1_shelf x1_rowSort x1_rowSize x1_rows x1_moved x1_shown x1_tape x1_tapeSize x1_refused x1_lines x1_line x1_changes x1_coins x1_goods x1_good x1_works x1_work x1_years x1_gone x1_spent x1_at x1_token x1_from x1_figures x1_fault x1_numbers x1_statements x1_left x1_far x1_tons x1_way x1_steps x1_met x1_queue x1_totals hd n (-1) 0 0 hl
  obtain ⟨e1, e2⟩ := e
  have he : e2 = (x1_lines, x1_line, x1_changes, x1_coins, x1_goods, x1_good, x1_works, x1_work, x1_years, x1_gone, x1_spent, x1_left, x1_far, x1_tons) := he
  subst he
  have hf := un15 hf
  simp only [Option.some.injEq, Prod.mk.injEq] at hf
  obtain ⟨_, h0, h1, h2, h3, h4, h5, h6, h7, h8, h9, h10, h11, h12, h13⟩ := hf
  exact ⟨h0.symm, h1.symm, h2.symm, h3.symm, h4.symm, h5.symm, h6.symm, h7.symm, h8.symm, h9.symm, h10.symm, h11.symm, h12.symm, h13.symm⟩

set_option maxHeartbeats 4000000 in
set_option maxRecDepth 100000 in
theorem kX7_firstNtL (l : Launch) (d : DT) (h0 : Nat → Nat) (r0_rows : Nat → Nat) (r0_line : Nat → Nat) (r0_good : Nat → Nat) (r0_work : Nat → Nat) (a0_kept : Option Nat) (a0_chosen : Option Nat) (n : Nat) (x0_shelf : (Nat → Int32)) (x0_rowSort : (Nat → Int32)) (x0_rowSize : (Nat → Int32)) (x0_rows : (Nat → Nat → Int64)) (x0_moved : (Nat → Int64)) (x0_shown : (Nat → Int32)) (x0_tape : (Nat → Int32)) (x0_tapeSize : Int32) (x0_refused : (Nat → Int32)) (x0_lines : Int32) (x0_line : (Nat → Nat → Int32)) (x0_changes : (Nat → Int32)) (x0_coins : (Nat → Int32)) (x0_goods : Int32) (x0_good : (Nat → Nat → Int32)) (x0_works : Int32) (x0_work : (Nat → Nat → Int32)) (x0_years : Int32) (x0_gone : Int32) (x0_spent : Int32) (x0_at : Int32) (x0_token : Int32) (x0_from : Int32) (x0_figures : Int64) (x0_fault : Int32) (x0_numbers : (Nat → Int32)) (x0_statements : Int32) (x0_left : (Nat → Int32)) (x0_far : (Nat → Int32)) (x0_tons : Int32) (x0_way : (Nat → Int32)) (x0_steps : Int32) (x0_met : Int64) (x0_queue : (Nat → Int32)) (x0_totals : (Nat → Int32))  (hd : ¬ AllD x0_works x0_work) {out : Int32 × (Int32 × (Nat → Nat → Int32) × (Nat → Int32) × (Nat → Int32) × Int32 × (Nat → Nat → Int32) × Int32 × (Nat → Nat → Int32) × Int32 × Int32 × Int32 × (Nat → Int32) × (Nat → Int32) × Int32)} (hf : fX7_first n (x0_shelf, x0_rowSort, x0_rowSize, x0_rows, x0_moved, x0_shown, x0_tape, x0_tapeSize, x0_refused, x0_lines, x0_line, x0_changes, x0_coins, x0_goods, x0_good, x0_works, x0_work, x0_years, x0_gone, x0_spent, x0_at, x0_token, x0_from, x0_figures, x0_fault, x0_numbers, x0_statements, x0_left, x0_far, x0_tons, x0_way, x0_steps, x0_met, x0_queue, x0_totals) ((fun _ => 0), (fun _ => 0), (fun _ => 0), (fun _ _ => 0), (fun _ => 0), (fun _ => 0), (fun _ => 0), 0, (fun _ => 0), 0, (fun _ _ => 0), (fillV 12 9 (fun _ => 0)), (va_up (va_up (va_up (fun _ => 0) 0 1) 1 1) 2 1), 0, (fun _ _ => 0), 0, (fun _ _ => 0), 10, 0, 0, 0, 0, 0, 0, 0, (fun _ => 0), 0, (fun _ => 0), (fun _ => 0), 0, (fun _ => 0), 0, 0, (fun _ => 0), (fun _ => 0)) = some out) : Ct l d yX7_first cX7_first 5 (some .int) { frames := 6, cells := 63, slots := 1204, locals := 129 } [.ref (h0 0)] [gMd d h0 a0_kept none a0_chosen r0_rows r0_line r0_good r0_work x0_shelf x0_rowSort x0_rowSize x0_moved x0_shown x0_tape x0_tapeSize x0_refused x0_lines x0_changes x0_coins x0_goods x0_works x0_years x0_gone x0_spent x0_at x0_token x0_from x0_figures x0_fault x0_numbers x0_statements x0_left x0_far x0_tons x0_way x0_steps x0_met x0_queue x0_totals, gridI d r0_line 20 7 x0_line, gridI d r0_good 8 3 x0_good, gridI d r0_work 7 5 x0_work] (fun u : AdM => (some (.int out.1), [gMd d h0 a0_kept (some (u.1 0)) a0_chosen r0_rows r0_line r0_good r0_work x0_shelf x0_rowSort x0_rowSize x0_moved x0_shown x0_tape x0_tapeSize x0_refused x0_lines x0_changes x0_coins x0_goods x0_works x0_years x0_gone x0_spent x0_at x0_token x0_from x0_figures x0_fault x0_numbers x0_statements x0_left x0_far x0_tons x0_way x0_steps x0_met x0_queue x0_totals, gridI d r0_line 20 7 x0_line, gridI d r0_good 8 3 x0_good, gridI d r0_work 7 5 x0_work, gMd d u.1 none none none u.2.1 u.2.2.1 u.2.2.2.1 u.2.2.2.2 (fun _ => 0) (fun _ => 0) (fun _ => 0) (fun _ => 0) (fun _ => 0) (fun _ => 0) (0) (fun _ => 0) (out.2.1) (out.2.2.2.1) (out.2.2.2.2.1) (out.2.2.2.2.2.1) (out.2.2.2.2.2.2.2.1) (out.2.2.2.2.2.2.2.2.2.1) (out.2.2.2.2.2.2.2.2.2.2.1) (out.2.2.2.2.2.2.2.2.2.2.2.1) (0) (0) (0) (0) (0) (fun _ => 0) (0) (out.2.2.2.2.2.2.2.2.2.2.2.2.1) (out.2.2.2.2.2.2.2.2.2.2.2.2.2.1) (out.2.2.2.2.2.2.2.2.2.2.2.2.2.2) (fun _ => 0) (0) (0) (fun _ => 0) (fun _ => 0), gridJ d u.2.1 8 40 (fun _ _ => 0), gridI d u.2.2.1 20 7 (out.2.2.1), gridI d u.2.2.2.1 8 3 (out.2.2.2.2.2.2.1), gridI d u.2.2.2.2 7 5 (out.2.2.2.2.2.2.2.2.1)])) := by
  refine Ct.of (by decide) (Nat.le_of_ble_eq_true rfl) ?_
  intro Φ hl hK hR
  subst hl
  obtain ⟨k0, hk0, q0, hq0, v0, hv0, hz0⟩ := notAllD hd
  have hK : Ok d Φ RX7 "first" cX7_first 5 (some .int) { frames := 6, cells := 63, slots := 1204, locals := 129 } := hK
  unfold fX7_first at hf
  have hf := un35 hf
  have hf := un35 hf
  show J d Φ 5 [gMd d h0 a0_kept none a0_chosen r0_rows r0_line r0_good r0_work x0_shelf x0_rowSort x0_rowSize x0_moved x0_shown x0_tape x0_tapeSize x0_refused x0_lines x0_changes x0_coins x0_goods x0_works x0_years x0_gone x0_spent x0_at x0_token x0_from x0_figures x0_fault x0_numbers x0_statements x0_left x0_far x0_tons x0_way x0_steps x0_met x0_queue x0_totals, gridI d r0_line 20 7 x0_line, gridI d r0_good 8 3 x0_good, gridI d r0_work 7 5 x0_work] 0 0 0 [(0, .ref (h0 0))] []
  refine J_iconst (v := (-1)) hK dX7_first_0 rfl (by decide) ?_
  refine J_istore_n (L' := [(1, .int (-1)), (0, .ref (h0 0))]) hK dX7_first_1 rfl rfl (by decide) rfl ?_
  refine J_iconst (v := 0) hK dX7_first_2 rfl (by decide) ?_
  refine J_istore_n (L' := [(2, .int (0)), (1, .int (-1)), (0, .ref (h0 0))]) hK dX7_first_3 rfl rfl (by decide) rfl ?_
  refine J_iconst (v := 0) hK dX7_first_4 rfl (by decide) ?_
  refine J_istore_n (L' := [(3, .int (0)), (2, .int (0)), (1, .int (-1)), (0, .ref (h0 0))]) hK dX7_first_5 rfl rfl (by decide) rfl ?_
  obtain ⟨e19, hl1, hf⟩ := bs hf
  have hx1_53P : ∀ (uL0 : AdM) (w20 : Int32) (w21 : Int32) (w22 : (Nat → Nat → Int32)) (w23 : (Nat → Int32)) (w24 : (Nat → Int32)) (w25 : Int32) (w26 : (Nat → Nat → Int32)) (w27 : Int32) (w28 : (Nat → Nat → Int32)) (w29 : Int32) (w30 : Int32) (w31 : Int32) (w32 : (Nat → Int32)) (w33 : (Nat → Int32)) (w34 : Int32), (w20, w21, w22, w23, w24, w25, w26, w27, w28, w29, w30, w31, w32, w33, w34) = e19 → J d Φ 5 [gMd d h0 a0_kept (some (uL0.1 0)) a0_chosen r0_rows r0_line r0_good r0_work x0_shelf x0_rowSort x0_rowSize x0_moved x0_shown x0_tape x0_tapeSize x0_refused x0_lines x0_changes x0_coins x0_goods x0_works x0_years x0_gone x0_spent x0_at x0_token x0_from x0_figures x0_fault x0_numbers x0_statements x0_left x0_far x0_tons x0_way x0_steps x0_met x0_queue x0_totals, gridI d r0_line 20 7 x0_line, gridI d r0_good 8 3 x0_good, gridI d r0_work 7 5 x0_work, gMd d uL0.1 none none none uL0.2.1 uL0.2.2.1 uL0.2.2.2.1 uL0.2.2.2.2 (fun _ => 0) (fun _ => 0) (fun _ => 0) (fun _ => 0) (fun _ => 0) (fun _ => 0) (0) (fun _ => 0) w21 w23 w24 w25 w27 w29 w30 w31 (0) (0) (0) (0) (0) (fun _ => 0) (0) w32 w33 w34 (fun _ => 0) (0) (0) (fun _ => 0) (fun _ => 0), gridJ d uL0.2.1 8 40 (fun _ _ => 0), gridI d uL0.2.2.1 20 7 w22, gridI d uL0.2.2.2.1 8 3 w26, gridI d uL0.2.2.2.2 7 5 w28] 63 1204 53 [(1, .int w20)] [] := by
    intro uL0 w20 w21 w22 w23 w24 w25 w26 w27 w28 w29 w30 w31 w32 w33 w34 he
    rw [← he] at hf
    have hf := un15 hf
    refine J_iload_n hK dX7_first_53 rfl 0 rfl rfl ?_
    obtain rfl := Option.some.inj hf
    exact J_iret hK hR dX7_first_54 uL0 rfl (by decide) (by decide)
  have lo1P : ∀ (k : Nat) (uL0 : AdM) (z2 : Int32) (z3 : Int32) (z4 : Int32) (z5 : Int32) (z6 : (Nat → Nat → Int32)) (z7 : (Nat → Int32)) (z8 : (Nat → Int32)) (z9 : Int32) (z10 : (Nat → Nat → Int32)) (z11 : Int32) (z12 : (Nat → Nat → Int32)) (z13 : Int32) (z14 : Int32) (z15 : Int32) (z16 : (Nat → Int32)) (z17 : (Nat → Int32)) (z18 : Int32), lp (u17 (fX7_first_s6 n x0_shelf x0_rowSort x0_rowSize x0_rows x0_moved x0_shown x0_tape x0_tapeSize x0_refused x0_lines x0_line x0_changes x0_coins x0_goods x0_good x0_works x0_work x0_years x0_gone x0_spent x0_at x0_token x0_from x0_figures x0_fault x0_numbers x0_statements x0_left x0_far x0_tons x0_way x0_steps x0_met x0_queue x0_totals (fun _ => 0) (fun _ => 0) (fun _ => 0) (fun _ _ => 0) (fun _ => 0) (fun _ => 0) (fun _ => 0) (0) (fun _ => 0) (0) (0) (0) (0) (0) (fun _ => 0) (0) (fun _ => 0) (0) (0) (fun _ => 0) (fun _ => 0))) k (z2, z3, z4, z5, z6, z7, z8, z9, z10, z11, z12, z13, z14, z15, z16, z17, z18) = some e19 → J d Φ 5 [gMd d h0 a0_kept (some (uL0.1 0)) a0_chosen r0_rows r0_line r0_good r0_work x0_shelf x0_rowSort x0_rowSize x0_moved x0_shown x0_tape x0_tapeSize x0_refused x0_lines x0_changes x0_coins x0_goods x0_works x0_years x0_gone x0_spent x0_at x0_token x0_from x0_figures x0_fault x0_numbers x0_statements x0_left x0_far x0_tons x0_way x0_steps x0_met x0_queue x0_totals, gridI d r0_line 20 7 x0_line, gridI d r0_good 8 3 x0_good, gridI d r0_work 7 5 x0_work, gMd d uL0.1 none none none uL0.2.1 uL0.2.2.1 uL0.2.2.2.1 uL0.2.2.2.2 (fun _ => 0) (fun _ => 0) (fun _ => 0) (fun _ => 0) (fun _ => 0) (fun _ => 0) (0) (fun _ => 0) z5 z7 z8 z9 z11 z13 z14 z15 (0) (0) (0) (0) (0) (fun _ => 0) (0) z16 z17 z18 (fun _ => 0) (0) (0) (fun _ => 0) (fun _ => 0), gridJ d uL0.2.1 8 40 (fun _ _ => 0), gridI d uL0.2.2.1 20 7 z6, gridI d uL0.2.2.2.1 8 3 z10, gridI d uL0.2.2.2.2 7 5 z12] 63 1204 6 [(0, .ref (h0 0)), (1, .int z2), (2, .int z3), (3, .int z4)] [] := by
    intro k
    induction k with
    | zero => intro uL0 z2 z3 z4 z5 z6 z7 z8 z9 z10 z11 z12 z13 z14 z15 z16 z17 z18 h; cases h
    | succ k ih1P =>
      intro uL0 z2 z3 z4 z5 z6 z7 z8 z9 z10 z11 z12 z13 z14 z15 z16 z17 z18 h
      obtain ⟨k2, rr1, hk2, hs1, hr1⟩ := lp_ok h
      cases hk2
      have hs1 : fX7_first_s6 n x0_shelf x0_rowSort x0_rowSize x0_rows x0_moved x0_shown x0_tape x0_tapeSize x0_refused x0_lines x0_line x0_changes x0_coins x0_goods x0_good x0_works x0_work x0_years x0_gone x0_spent x0_at x0_token x0_from x0_figures x0_fault x0_numbers x0_statements x0_left x0_far x0_tons x0_way x0_steps x0_met x0_queue x0_totals (fun _ => 0) (fun _ => 0) (fun _ => 0) (fun _ _ => 0) (fun _ => 0) (fun _ => 0) (fun _ => 0) (0) (fun _ => 0) (0) (0) (0) (0) (0) (fun _ => 0) (0) (fun _ => 0) (0) (0) (fun _ => 0) (fun _ => 0) z2 z3 z4 z5 z6 z7 z8 z9 z10 z11 z12 z13 z14 z15 z16 z17 z18 = some rr1 := hs1
      unfold fX7_first_s6 at hs1
      refine J_iload_n hK dX7_first_6 rfl 3 rfl rfl ?_
      refine J_aload_n hK dX7_first_7 rfl 0 rfl rfl ?_
      refine J_get hK fo_RX7_85 dX7_first_8 rfl 0 0 rfl rfl rfl ?_
      refine J_icmp_ge (tg := 53) hK dX7_first_11 rfl rfl (fun hc11 => ?_) (fun hc11 => ?_)
      · have hs1 := ip hc11 hs1
        exact J_loc [1] rfl (hx1_53P uL0 z2 z5 z6 z7 z8 z9 z10 z11 z12 z13 z14 z15 z16 z17 z18 (lpx hs1 hr1))
      · have hs1 := iq hc11 hs1
        refine J_aload_n hK dX7_first_14 rfl 0 rfl rfl ?_
        refine J_get hK fo_RX7_51 dX7_first_15 rfl 0 0 rfl rfl rfl ?_
        refine J_iload_n hK dX7_first_18 rfl 3 rfl rfl ?_
        obtain ⟨q35, eq35, hs1⟩ := bs hs1
        refine J_aald hK dX7_first_19 rfl 0 13 rfl rfl rfl eq35 ?_
        refine J_iconst (v := 4) hK dX7_first_20 rfl (by decide) ?_
        obtain ⟨v36, ev36, hs1⟩ := bs hs1
        refine J_iald hK dX7_first_21 rfl 3 q35 rfl (gridI_at (ck_ok eq35).2.2) ev36 ?_
        refine J_if_ne (tg := 33) hK dX7_first_22 rfl rfl (fun hc22 => ?_) (fun hc22 => ?_)
        · have hs1 := iq hc22 hs1
          refine J_iconst (v := 0) hK dX7_first_33 rfl (by decide) ?_
          unfold fX7_first_j34 at hs1
          refine J_istore (L' := [(4, .int (0)), (0, .ref (h0 0)), (1, .int z2), (2, .int z3), (3, .int z4)]) hK dX7_first_34 rfl (by decide) rfl ?_
          refine J_iload hK dX7_first_36 rfl 0 rfl ?_
          refine J_iload_n hK dX7_first_38 rfl 3 rfl rfl ?_
          refine J_icmp_le (tg := 47) hK dX7_first_39 rfl rfl (fun hc39 => ?_) (fun hc39 => ?_)
          · have hs1 := ip hc39 hs1
            refine J_iinc (L' := [(3, .int (z4 + 1)), (4, .int (0)), (0, .ref (h0 0)), (1, .int z2), (2, .int z3)]) (v := (z4 + 1)) hK dX7_first_47 rfl 4 rfl rfl (by decide) rfl ?_
            refine J_goto hK dX7_first_50 (n := 6) rfl ?_
            exact J_loc [2, 3, 4, 0] rfl (ih1P uL0 z2 z3 (z4 + 1) z5 z6 z7 z8 z9 z10 z11 z12 z13 z14 z15 z16 z17 z18 (lpc hs1 hr1))
          · have hs1 := iq hc39 hs1
            refine J_iload_n hK dX7_first_42 rfl 4 rfl rfl ?_
            refine J_istore_n (L' := [(1, .int z4), (4, .int (0)), (0, .ref (h0 0)), (2, .int z3), (3, .int z4)]) hK dX7_first_43 rfl rfl (by decide) rfl ?_
            refine J_iload hK dX7_first_44 rfl 1 rfl ?_
            refine J_istore_n (L' := [(2, .int (0)), (1, .int z4), (4, .int (0)), (0, .ref (h0 0)), (3, .int z4)]) hK dX7_first_46 rfl rfl (by decide) rfl ?_
            refine J_iinc (L' := [(3, .int (z4 + 1)), (2, .int (0)), (1, .int z4), (4, .int (0)), (0, .ref (h0 0))]) (v := (z4 + 1)) hK dX7_first_47 rfl 4 rfl rfl (by decide) rfl ?_
            refine J_goto hK dX7_first_50 (n := 6) rfl ?_
            exact J_loc [4, 2, 1, 0] rfl (ih1P uL0 z4 (0) (z4 + 1) z5 z6 z7 z8 z9 z10 z11 z12 z13 z14 z15 z16 z17 z18 (lpc hs1 hr1))
        · have hs1 := ip hc22 hs1
          refine J_aload_n hK dX7_first_25 rfl 0 rfl rfl ?_
          refine J_iload_n hK dX7_first_26 rfl 3 rfl rfl ?_
          obtain ⟨⟨v37, ⟨g39, g40, g41, g42, g43, g44, g45, g46, g47, g48, g49, g50, g51, g52⟩⟩, e53, hs1⟩ := bs hs1
          have hs1 := un2 hs1
          have hs1 := un14 hs1
          refine J_callV (m' := 9) (ce' := 63) (sl' := 1204) (gr := [gridJ d uL0.2.1 8 40 (fun _ _ => 0)]) (gs' := fun _ => [gMd d h0 a0_kept (some (uL0.1 0)) a0_chosen r0_rows r0_line r0_good r0_work x0_shelf x0_rowSort x0_rowSize x0_moved x0_shown x0_tape x0_tapeSize x0_refused x0_lines x0_changes x0_coins x0_goods x0_works x0_years x0_gone x0_spent x0_at x0_token x0_from x0_figures x0_fault x0_numbers x0_statements x0_left x0_far x0_tons x0_way x0_steps x0_met x0_queue x0_totals, gridI d r0_line 20 7 x0_line, gridI d r0_good 8 3 x0_good, gridI d r0_work 7 5 x0_work, gMd d uL0.1 none none none uL0.2.1 uL0.2.2.1 uL0.2.2.2.1 uL0.2.2.2.2 (fun _ => 0) (fun _ => 0) (fun _ => 0) (fun _ => 0) (fun _ => 0) (fun _ => 0) (0) (fun _ => 0) g39 g41 g42 g43 g45 g47 g48 g49 (0) (0) (0) (0) (0) (fun _ => 0) (0) g50 g51 g52 (fun _ => 0) (0) (0) (fun _ => 0) (fun _ => 0), gridJ d uL0.2.1 8 40 (fun _ _ => 0), gridI d uL0.2.2.1 20 7 g40, gridI d uL0.2.2.2.1 8 3 g44, gridI d uL0.2.2.2.2 7 5 g46]) (st' := fun _ => [.int v37]) (st := []) hK dX7_first_27 cv_RX7_307 iv_yX7_worthOf (As := [.int z4]) (kX7_worthOf _ d h0 r0_rows r0_line r0_good r0_work a0_kept a0_chosen uL0.1 uL0.2.1 uL0.2.2.1 uL0.2.2.2.1 uL0.2.2.2.2 none none none n x0_shelf x0_rowSort x0_rowSize x0_rows x0_moved x0_shown x0_tape x0_tapeSize x0_refused x0_lines x0_line x0_changes x0_coins x0_goods x0_good x0_works x0_work x0_years x0_gone x0_spent x0_at x0_token x0_from x0_figures x0_fault x0_numbers x0_statements x0_left x0_far x0_tons x0_way x0_steps x0_met x0_queue x0_totals (fun _ => 0) (fun _ => 0) (fun _ => 0) (fun _ _ => 0) (fun _ => 0) (fun _ => 0) (fun _ => 0) (0) (fun _ => 0) z5 z6 z7 z8 z9 z10 z11 z12 z13 z14 z15 (0) (0) (0) (0) (0) (fun _ => 0) (0) z16 z17 z18 (fun _ => 0) (0) (0) (fun _ => 0) (fun _ => 0) z4 e53) rfl rfl (Nat.le_of_ble_eq_true rfl) (by decide) 0 0 rfl rfl rfl [0, 1, 2, 3, 4, 6, 7, 8] [5] rfl rfl rfl rfl [1, 2, 3, 4, 5, 0, 6, 7, 8] rfl (fun _ => rfl) (fun _ => rfl) rfl rfl rfl (fun _ => rfl) (fun _ => ?_)
          refine J_goto hK dX7_first_30 (n := 34) rfl ?_
          unfold fX7_first_j34 at hs1
          refine J_istore (L' := [(4, .int v37), (0, .ref (h0 0)), (1, .int z2), (2, .int z3), (3, .int z4)]) hK dX7_first_34 rfl (by decide) rfl ?_
          refine J_iload hK dX7_first_36 rfl 0 rfl ?_
          refine J_iload_n hK dX7_first_38 rfl 3 rfl rfl ?_
          refine J_icmp_le (tg := 47) hK dX7_first_39 rfl rfl (fun hc39 => ?_) (fun hc39 => ?_)
          · have hs1 := ip hc39 hs1
            refine J_iinc (L' := [(3, .int (z4 + 1)), (4, .int v37), (0, .ref (h0 0)), (1, .int z2), (2, .int z3)]) (v := (z4 + 1)) hK dX7_first_47 rfl 4 rfl rfl (by decide) rfl ?_
            refine J_goto hK dX7_first_50 (n := 6) rfl ?_
            exact J_loc [2, 3, 4, 0] rfl (ih1P uL0 z2 z3 (z4 + 1) g39 g40 g41 g42 g43 g44 g45 g46 g47 g48 g49 g50 g51 g52 (lpc hs1 hr1))
          · have hs1 := iq hc39 hs1
            refine J_iload_n hK dX7_first_42 rfl 4 rfl rfl ?_
            refine J_istore_n (L' := [(1, .int z4), (4, .int v37), (0, .ref (h0 0)), (2, .int z3), (3, .int z4)]) hK dX7_first_43 rfl rfl (by decide) rfl ?_
            refine J_iload hK dX7_first_44 rfl 1 rfl ?_
            refine J_istore_n (L' := [(2, .int v37), (1, .int z4), (4, .int v37), (0, .ref (h0 0)), (3, .int z4)]) hK dX7_first_46 rfl rfl (by decide) rfl ?_
            refine J_iinc (L' := [(3, .int (z4 + 1)), (2, .int v37), (1, .int z4), (4, .int v37), (0, .ref (h0 0))]) (v := (z4 + 1)) hK dX7_first_47 rfl 4 rfl rfl (by decide) rfl ?_
            refine J_goto hK dX7_first_50 (n := 6) rfl ?_
            exact J_loc [4, 2, 1, 0] rfl (ih1P uL0 z4 v37 (z4 + 1) g39 g40 g41 g42 g43 g44 g45 g46 g47 g48 g49 g50 g51 g52 (lpc hs1 hr1))
  have lo1N : ∀ (k : Nat) (z2 : Int32) (z3 : Int32) (z4 : Int32), z4 ≤ k0 → lp (u17 (fX7_first_s6 n x0_shelf x0_rowSort x0_rowSize x0_rows x0_moved x0_shown x0_tape x0_tapeSize x0_refused x0_lines x0_line x0_changes x0_coins x0_goods x0_good x0_works x0_work x0_years x0_gone x0_spent x0_at x0_token x0_from x0_figures x0_fault x0_numbers x0_statements x0_left x0_far x0_tons x0_way x0_steps x0_met x0_queue x0_totals (fun _ => 0) (fun _ => 0) (fun _ => 0) (fun _ _ => 0) (fun _ => 0) (fun _ => 0) (fun _ => 0) (0) (fun _ => 0) (0) (0) (0) (0) (0) (fun _ => 0) (0) (fun _ => 0) (0) (0) (fun _ => 0) (fun _ => 0))) k (z2, z3, z4, 0, (fun _ _ => 0), (fillV 12 9 (fun _ => 0)), (va_up (va_up (va_up (fun _ => 0) 0 1) 1 1) 2 1), 0, (fun _ _ => 0), 0, (fun _ _ => 0), 10, 0, 0, (fun _ => 0), (fun _ => 0), 0) = some e19 → J d Φ 5 [gMd d h0 a0_kept none a0_chosen r0_rows r0_line r0_good r0_work x0_shelf x0_rowSort x0_rowSize x0_moved x0_shown x0_tape x0_tapeSize x0_refused x0_lines x0_changes x0_coins x0_goods x0_works x0_years x0_gone x0_spent x0_at x0_token x0_from x0_figures x0_fault x0_numbers x0_statements x0_left x0_far x0_tons x0_way x0_steps x0_met x0_queue x0_totals, gridI d r0_line 20 7 x0_line, gridI d r0_good 8 3 x0_good, gridI d r0_work 7 5 x0_work] 0 0 6 [(0, .ref (h0 0)), (1, .int z2), (2, .int z3), (3, .int z4)] [] := by
    intro k
    induction k with
    | zero => intro z2 z3 z4 hz h; cases h
    | succ k ih1N =>
      intro z2 z3 z4 hz h
      obtain ⟨k2, rr1, hk2, hs1, hr1⟩ := lp_ok h
      cases hk2
      have hs1 : fX7_first_s6 n x0_shelf x0_rowSort x0_rowSize x0_rows x0_moved x0_shown x0_tape x0_tapeSize x0_refused x0_lines x0_line x0_changes x0_coins x0_goods x0_good x0_works x0_work x0_years x0_gone x0_spent x0_at x0_token x0_from x0_figures x0_fault x0_numbers x0_statements x0_left x0_far x0_tons x0_way x0_steps x0_met x0_queue x0_totals (fun _ => 0) (fun _ => 0) (fun _ => 0) (fun _ _ => 0) (fun _ => 0) (fun _ => 0) (fun _ => 0) (0) (fun _ => 0) (0) (0) (0) (0) (0) (fun _ => 0) (0) (fun _ => 0) (0) (0) (fun _ => 0) (fun _ => 0) z2 z3 z4 (0) (fun _ _ => 0) (fillV 12 9 (fun _ => 0)) (va_up (va_up (va_up (fun _ => 0) 0 1) 1 1) 2 1) (0) (fun _ _ => 0) (0) (fun _ _ => 0) (10) (0) (0) (fun _ => 0) (fun _ => 0) (0) = some rr1 := hs1
      unfold fX7_first_s6 at hs1
      refine J_iload_n hK dX7_first_6 rfl 3 rfl rfl ?_
      refine J_aload_n hK dX7_first_7 rfl 0 rfl rfl ?_
      refine J_get hK fo_RX7_85 dX7_first_8 rfl 0 0 rfl rfl rfl ?_
      refine J_icmp_ge (tg := 53) hK dX7_first_11 rfl rfl (fun hc11 => ?_) (fun hc11 => ?_)
      · have hs1 := ip hc11 hs1
        exact absurd (Int32.le_trans (show x0_works ≤ z4 from hc11) hz) (Int32.not_le.mpr hk0)
      · have hs1 := iq hc11 hs1
        refine J_aload_n hK dX7_first_14 rfl 0 rfl rfl ?_
        refine J_get hK fo_RX7_51 dX7_first_15 rfl 0 0 rfl rfl rfl ?_
        refine J_iload_n hK dX7_first_18 rfl 3 rfl rfl ?_
        obtain ⟨q35, eq35, hs1⟩ := bs hs1
        refine J_aald hK dX7_first_19 rfl 0 13 rfl rfl rfl eq35 ?_
        refine J_iconst (v := 4) hK dX7_first_20 rfl (by decide) ?_
        obtain ⟨v36, ev36, hs1⟩ := bs hs1
        refine J_iald hK dX7_first_21 rfl 3 q35 rfl (gridI_at (ck_ok eq35).2.2) ev36 ?_
        refine J_if_ne (tg := 33) hK dX7_first_22 rfl rfl (fun hc22 => ?_) (fun hc22 => ?_)
        · have hs1 := iq hc22 hs1
          refine J_iconst (v := 0) hK dX7_first_33 rfl (by decide) ?_
          unfold fX7_first_j34 at hs1
          refine J_istore (L' := [(4, .int (0)), (0, .ref (h0 0)), (1, .int z2), (2, .int z3), (3, .int z4)]) hK dX7_first_34 rfl (by decide) rfl ?_
          refine J_iload hK dX7_first_36 rfl 0 rfl ?_
          refine J_iload_n hK dX7_first_38 rfl 3 rfl rfl ?_
          refine J_icmp_le (tg := 47) hK dX7_first_39 rfl rfl (fun hc39 => ?_) (fun hc39 => ?_)
          · have hs1 := ip hc39 hs1
            refine J_iinc (L' := [(3, .int (z4 + 1)), (4, .int (0)), (0, .ref (h0 0)), (1, .int z2), (2, .int z3)]) (v := (z4 + 1)) hK dX7_first_47 rfl 4 rfl rfl (by decide) rfl ?_
            refine J_goto hK dX7_first_50 (n := 6) rfl ?_
            exact J_loc [2, 3, 4, 0] rfl (ih1N z2 z3 (z4 + 1) (fD_step hz hq0 hv0 hz0 eq35 ev36 hc22) (lpc hs1 hr1))
          · have hs1 := iq hc39 hs1
            refine J_iload_n hK dX7_first_42 rfl 4 rfl rfl ?_
            refine J_istore_n (L' := [(1, .int z4), (4, .int (0)), (0, .ref (h0 0)), (2, .int z3), (3, .int z4)]) hK dX7_first_43 rfl rfl (by decide) rfl ?_
            refine J_iload hK dX7_first_44 rfl 1 rfl ?_
            refine J_istore_n (L' := [(2, .int (0)), (1, .int z4), (4, .int (0)), (0, .ref (h0 0)), (3, .int z4)]) hK dX7_first_46 rfl rfl (by decide) rfl ?_
            refine J_iinc (L' := [(3, .int (z4 + 1)), (2, .int (0)), (1, .int z4), (4, .int (0)), (0, .ref (h0 0))]) (v := (z4 + 1)) hK dX7_first_47 rfl 4 rfl rfl (by decide) rfl ?_
            refine J_goto hK dX7_first_50 (n := 6) rfl ?_
            exact J_loc [4, 2, 1, 0] rfl (ih1N z4 (0) (z4 + 1) (fD_step hz hq0 hv0 hz0 eq35 ev36 hc22) (lpc hs1 hr1))
        · have hs1 := ip hc22 hs1
          refine J_aload_n hK dX7_first_25 rfl 0 rfl rfl ?_
          refine J_iload_n hK dX7_first_26 rfl 3 rfl rfl ?_
          obtain ⟨⟨v37, ⟨g39, g40, g41, g42, g43, g44, g45, g46, g47, g48, g49, g50, g51, g52⟩⟩, e53, hs1⟩ := bs hs1
          have hs1 := un2 hs1
          have hs1 := un14 hs1
          refine J_callV (m' := 9) (ce' := 63) (sl' := 1204) (gr := []) (gs' := fun u1 => [gMd d h0 a0_kept (some (u1.1 0)) a0_chosen r0_rows r0_line r0_good r0_work x0_shelf x0_rowSort x0_rowSize x0_moved x0_shown x0_tape x0_tapeSize x0_refused x0_lines x0_changes x0_coins x0_goods x0_works x0_years x0_gone x0_spent x0_at x0_token x0_from x0_figures x0_fault x0_numbers x0_statements x0_left x0_far x0_tons x0_way x0_steps x0_met x0_queue x0_totals, gridI d r0_line 20 7 x0_line, gridI d r0_good 8 3 x0_good, gridI d r0_work 7 5 x0_work, gMd d u1.1 none none none u1.2.1 u1.2.2.1 u1.2.2.2.1 u1.2.2.2.2 (fun _ => 0) (fun _ => 0) (fun _ => 0) (fun _ => 0) (fun _ => 0) (fun _ => 0) (0) (fun _ => 0) g39 g41 g42 g43 g45 g47 g48 g49 (0) (0) (0) (0) (0) (fun _ => 0) (0) g50 g51 g52 (fun _ => 0) (0) (0) (fun _ => 0) (fun _ => 0), gridJ d u1.2.1 8 40 (fun _ _ => 0), gridI d u1.2.2.1 20 7 g40, gridI d u1.2.2.2.1 8 3 g44, gridI d u1.2.2.2.2 7 5 g46]) (st' := fun u1 => [.int v37]) (st := []) hK dX7_first_27 cv_RX7_307 iv_yX7_worthOf (As := [.int z4]) (kX7_worthOfNt _ d h0 r0_rows r0_line r0_good r0_work a0_kept a0_chosen n x0_shelf x0_rowSort x0_rowSize x0_rows x0_moved x0_shown x0_tape x0_tapeSize x0_refused x0_lines x0_line x0_changes x0_coins x0_goods x0_good x0_works x0_work x0_years x0_gone x0_spent x0_at x0_token x0_from x0_figures x0_fault x0_numbers x0_statements x0_left x0_far x0_tons x0_way x0_steps x0_met x0_queue x0_totals z4 e53) rfl rfl (Nat.le_of_ble_eq_true rfl) (by decide) 0 0 rfl rfl rfl [0, 1, 2, 3] [] rfl rfl rfl rfl [0, 1, 2, 3, 4, 5, 6, 7, 8] rfl (fun _ => rfl) (fun _ => rfl) rfl rfl rfl (fun _ => rfl) (fun u1 => ?_)
          refine J_goto hK dX7_first_30 (n := 34) rfl ?_
          unfold fX7_first_j34 at hs1
          refine J_istore (L' := [(4, .int v37), (0, .ref (h0 0)), (1, .int z2), (2, .int z3), (3, .int z4)]) hK dX7_first_34 rfl (by decide) rfl ?_
          refine J_iload hK dX7_first_36 rfl 0 rfl ?_
          refine J_iload_n hK dX7_first_38 rfl 3 rfl rfl ?_
          refine J_icmp_le (tg := 47) hK dX7_first_39 rfl rfl (fun hc39 => ?_) (fun hc39 => ?_)
          · have hs1 := ip hc39 hs1
            refine J_iinc (L' := [(3, .int (z4 + 1)), (4, .int v37), (0, .ref (h0 0)), (1, .int z2), (2, .int z3)]) (v := (z4 + 1)) hK dX7_first_47 rfl 4 rfl rfl (by decide) rfl ?_
            refine J_goto hK dX7_first_50 (n := 6) rfl ?_
            exact J_loc [2, 3, 4, 0] rfl (lo1P k u1 z2 z3 (z4 + 1) g39 g40 g41 g42 g43 g44 g45 g46 g47 g48 g49 g50 g51 g52 (lpc hs1 hr1))
          · have hs1 := iq hc39 hs1
            refine J_iload_n hK dX7_first_42 rfl 4 rfl rfl ?_
            refine J_istore_n (L' := [(1, .int z4), (4, .int v37), (0, .ref (h0 0)), (2, .int z3), (3, .int z4)]) hK dX7_first_43 rfl rfl (by decide) rfl ?_
            refine J_iload hK dX7_first_44 rfl 1 rfl ?_
            refine J_istore_n (L' := [(2, .int v37), (1, .int z4), (4, .int v37), (0, .ref (h0 0)), (3, .int z4)]) hK dX7_first_46 rfl rfl (by decide) rfl ?_
            refine J_iinc (L' := [(3, .int (z4 + 1)), (2, .int v37), (1, .int z4), (4, .int v37), (0, .ref (h0 0))]) (v := (z4 + 1)) hK dX7_first_47 rfl 4 rfl rfl (by decide) rfl ?_
            refine J_goto hK dX7_first_50 (n := 6) rfl ?_
            exact J_loc [4, 2, 1, 0] rfl (lo1P k u1 z4 v37 (z4 + 1) g39 g40 g41 g42 g43 g44 g45 g46 g47 g48 g49 g50 g51 g52 (lpc hs1 hr1))
  exact J_loc [3, 2, 1, 0] rfl (lo1N n (-1) (0) (0) (fD_in hq0).1 hl1)


set_option maxHeartbeats 4000000 in
set_option maxRecDepth 100000 in
theorem kX7_firstNtD (l : Launch) (d : DT) (h0 : Nat → Nat) (r0_rows : Nat → Nat) (r0_line : Nat → Nat) (r0_good : Nat → Nat) (r0_work : Nat → Nat) (a0_kept : Option Nat) (a0_chosen : Option Nat) (n : Nat) (x0_shelf : (Nat → Int32)) (x0_rowSort : (Nat → Int32)) (x0_rowSize : (Nat → Int32)) (x0_rows : (Nat → Nat → Int64)) (x0_moved : (Nat → Int64)) (x0_shown : (Nat → Int32)) (x0_tape : (Nat → Int32)) (x0_tapeSize : Int32) (x0_refused : (Nat → Int32)) (x0_lines : Int32) (x0_line : (Nat → Nat → Int32)) (x0_changes : (Nat → Int32)) (x0_coins : (Nat → Int32)) (x0_goods : Int32) (x0_good : (Nat → Nat → Int32)) (x0_works : Int32) (x0_work : (Nat → Nat → Int32)) (x0_years : Int32) (x0_gone : Int32) (x0_spent : Int32) (x0_at : Int32) (x0_token : Int32) (x0_from : Int32) (x0_figures : Int64) (x0_fault : Int32) (x0_numbers : (Nat → Int32)) (x0_statements : Int32) (x0_left : (Nat → Int32)) (x0_far : (Nat → Int32)) (x0_tons : Int32) (x0_way : (Nat → Int32)) (x0_steps : Int32) (x0_met : Int64) (x0_queue : (Nat → Int32)) (x0_totals : (Nat → Int32))  (hd : AllD x0_works x0_work) {out : Int32 × (Int32 × (Nat → Nat → Int32) × (Nat → Int32) × (Nat → Int32) × Int32 × (Nat → Nat → Int32) × Int32 × (Nat → Nat → Int32) × Int32 × Int32 × Int32 × (Nat → Int32) × (Nat → Int32) × Int32)} (hf : fX7_first n (x0_shelf, x0_rowSort, x0_rowSize, x0_rows, x0_moved, x0_shown, x0_tape, x0_tapeSize, x0_refused, x0_lines, x0_line, x0_changes, x0_coins, x0_goods, x0_good, x0_works, x0_work, x0_years, x0_gone, x0_spent, x0_at, x0_token, x0_from, x0_figures, x0_fault, x0_numbers, x0_statements, x0_left, x0_far, x0_tons, x0_way, x0_steps, x0_met, x0_queue, x0_totals) ((fun _ => 0), (fun _ => 0), (fun _ => 0), (fun _ _ => 0), (fun _ => 0), (fun _ => 0), (fun _ => 0), 0, (fun _ => 0), 0, (fun _ _ => 0), (fillV 12 9 (fun _ => 0)), (va_up (va_up (va_up (fun _ => 0) 0 1) 1 1) 2 1), 0, (fun _ _ => 0), 0, (fun _ _ => 0), 10, 0, 0, 0, 0, 0, 0, 0, (fun _ => 0), 0, (fun _ => 0), (fun _ => 0), 0, (fun _ => 0), 0, 0, (fun _ => 0), (fun _ => 0)) = some out) : Ct l d yX7_first cX7_first 5 (some .int) { frames := 6, cells := 0, slots := 0, locals := 129 } [.ref (h0 0)] [gMd d h0 a0_kept none a0_chosen r0_rows r0_line r0_good r0_work x0_shelf x0_rowSort x0_rowSize x0_moved x0_shown x0_tape x0_tapeSize x0_refused x0_lines x0_changes x0_coins x0_goods x0_works x0_years x0_gone x0_spent x0_at x0_token x0_from x0_figures x0_fault x0_numbers x0_statements x0_left x0_far x0_tons x0_way x0_steps x0_met x0_queue x0_totals, gridI d r0_line 20 7 x0_line, gridI d r0_good 8 3 x0_good, gridI d r0_work 7 5 x0_work] (fun _ : Unit => (some (.int out.1), [gMd d h0 a0_kept none a0_chosen r0_rows r0_line r0_good r0_work x0_shelf x0_rowSort x0_rowSize x0_moved x0_shown x0_tape x0_tapeSize x0_refused x0_lines x0_changes x0_coins x0_goods x0_works x0_years x0_gone x0_spent x0_at x0_token x0_from x0_figures x0_fault x0_numbers x0_statements x0_left x0_far x0_tons x0_way x0_steps x0_met x0_queue x0_totals, gridI d r0_line 20 7 x0_line, gridI d r0_good 8 3 x0_good, gridI d r0_work 7 5 x0_work])) := by
  refine Ct.of (by decide) (Nat.le_of_ble_eq_true rfl) ?_
  intro Φ hl hK hR
  subst hl
  have hK : Ok d Φ RX7 "first" cX7_first 5 (some .int) { frames := 6, cells := 0, slots := 0, locals := 129 } := hK
  unfold fX7_first at hf
  have hf := un35 hf
  have hf := un35 hf
  show J d Φ 5 [gMd d h0 a0_kept none a0_chosen r0_rows r0_line r0_good r0_work x0_shelf x0_rowSort x0_rowSize x0_moved x0_shown x0_tape x0_tapeSize x0_refused x0_lines x0_changes x0_coins x0_goods x0_works x0_years x0_gone x0_spent x0_at x0_token x0_from x0_figures x0_fault x0_numbers x0_statements x0_left x0_far x0_tons x0_way x0_steps x0_met x0_queue x0_totals, gridI d r0_line 20 7 x0_line, gridI d r0_good 8 3 x0_good, gridI d r0_work 7 5 x0_work] 0 0 0 [(0, .ref (h0 0))] []
  refine J_iconst (v := (-1)) hK dX7_first_0 rfl (by decide) ?_
  refine J_istore_n (L' := [(1, .int (-1)), (0, .ref (h0 0))]) hK dX7_first_1 rfl rfl (by decide) rfl ?_
  refine J_iconst (v := 0) hK dX7_first_2 rfl (by decide) ?_
  refine J_istore_n (L' := [(2, .int (0)), (1, .int (-1)), (0, .ref (h0 0))]) hK dX7_first_3 rfl rfl (by decide) rfl ?_
  refine J_iconst (v := 0) hK dX7_first_4 rfl (by decide) ?_
  refine J_istore_n (L' := [(3, .int (0)), (2, .int (0)), (1, .int (-1)), (0, .ref (h0 0))]) hK dX7_first_5 rfl rfl (by decide) rfl ?_
  obtain ⟨e19, hl1, hf⟩ := bs hf
  have hx1_53N : ∀ (w20 : Int32), (w20, 0, (fun _ _ => 0), (fillV 12 9 (fun _ => 0)), (va_up (va_up (va_up (fun _ => 0) 0 1) 1 1) 2 1), 0, (fun _ _ => 0), 0, (fun _ _ => 0), 10, 0, 0, (fun _ => 0), (fun _ => 0), 0) = e19 → J d Φ 5 [gMd d h0 a0_kept none a0_chosen r0_rows r0_line r0_good r0_work x0_shelf x0_rowSort x0_rowSize x0_moved x0_shown x0_tape x0_tapeSize x0_refused x0_lines x0_changes x0_coins x0_goods x0_works x0_years x0_gone x0_spent x0_at x0_token x0_from x0_figures x0_fault x0_numbers x0_statements x0_left x0_far x0_tons x0_way x0_steps x0_met x0_queue x0_totals, gridI d r0_line 20 7 x0_line, gridI d r0_good 8 3 x0_good, gridI d r0_work 7 5 x0_work] 0 0 53 [(1, .int w20)] [] := by
    intro w20 he
    rw [← he] at hf
    have hf := un15 hf
    refine J_iload_n hK dX7_first_53 rfl 0 rfl rfl ?_
    obtain rfl := Option.some.inj hf
    exact J_iret hK hR dX7_first_54 () rfl (by decide) (by decide)
  have lo1N : ∀ (k : Nat) (z2 : Int32) (z3 : Int32) (z4 : Int32), lp (u17 (fX7_first_s6 n x0_shelf x0_rowSort x0_rowSize x0_rows x0_moved x0_shown x0_tape x0_tapeSize x0_refused x0_lines x0_line x0_changes x0_coins x0_goods x0_good x0_works x0_work x0_years x0_gone x0_spent x0_at x0_token x0_from x0_figures x0_fault x0_numbers x0_statements x0_left x0_far x0_tons x0_way x0_steps x0_met x0_queue x0_totals (fun _ => 0) (fun _ => 0) (fun _ => 0) (fun _ _ => 0) (fun _ => 0) (fun _ => 0) (fun _ => 0) (0) (fun _ => 0) (0) (0) (0) (0) (0) (fun _ => 0) (0) (fun _ => 0) (0) (0) (fun _ => 0) (fun _ => 0))) k (z2, z3, z4, 0, (fun _ _ => 0), (fillV 12 9 (fun _ => 0)), (va_up (va_up (va_up (fun _ => 0) 0 1) 1 1) 2 1), 0, (fun _ _ => 0), 0, (fun _ _ => 0), 10, 0, 0, (fun _ => 0), (fun _ => 0), 0) = some e19 → J d Φ 5 [gMd d h0 a0_kept none a0_chosen r0_rows r0_line r0_good r0_work x0_shelf x0_rowSort x0_rowSize x0_moved x0_shown x0_tape x0_tapeSize x0_refused x0_lines x0_changes x0_coins x0_goods x0_works x0_years x0_gone x0_spent x0_at x0_token x0_from x0_figures x0_fault x0_numbers x0_statements x0_left x0_far x0_tons x0_way x0_steps x0_met x0_queue x0_totals, gridI d r0_line 20 7 x0_line, gridI d r0_good 8 3 x0_good, gridI d r0_work 7 5 x0_work] 0 0 6 [(0, .ref (h0 0)), (1, .int z2), (2, .int z3), (3, .int z4)] [] := by
    intro k
    induction k with
    | zero => intro z2 z3 z4 h; cases h
    | succ k ih1N =>
      intro z2 z3 z4 h
      obtain ⟨k2, rr1, hk2, hs1, hr1⟩ := lp_ok h
      cases hk2
      have hs1 : fX7_first_s6 n x0_shelf x0_rowSort x0_rowSize x0_rows x0_moved x0_shown x0_tape x0_tapeSize x0_refused x0_lines x0_line x0_changes x0_coins x0_goods x0_good x0_works x0_work x0_years x0_gone x0_spent x0_at x0_token x0_from x0_figures x0_fault x0_numbers x0_statements x0_left x0_far x0_tons x0_way x0_steps x0_met x0_queue x0_totals (fun _ => 0) (fun _ => 0) (fun _ => 0) (fun _ _ => 0) (fun _ => 0) (fun _ => 0) (fun _ => 0) (0) (fun _ => 0) (0) (0) (0) (0) (0) (fun _ => 0) (0) (fun _ => 0) (0) (0) (fun _ => 0) (fun _ => 0) z2 z3 z4 (0) (fun _ _ => 0) (fillV 12 9 (fun _ => 0)) (va_up (va_up (va_up (fun _ => 0) 0 1) 1 1) 2 1) (0) (fun _ _ => 0) (0) (fun _ _ => 0) (10) (0) (0) (fun _ => 0) (fun _ => 0) (0) = some rr1 := hs1
      unfold fX7_first_s6 at hs1
      refine J_iload_n hK dX7_first_6 rfl 3 rfl rfl ?_
      refine J_aload_n hK dX7_first_7 rfl 0 rfl rfl ?_
      refine J_get hK fo_RX7_85 dX7_first_8 rfl 0 0 rfl rfl rfl ?_
      refine J_icmp_ge (tg := 53) hK dX7_first_11 rfl rfl (fun hc11 => ?_) (fun hc11 => ?_)
      · have hs1 := ip hc11 hs1
        exact J_loc [1] rfl (hx1_53N z2 (lpx hs1 hr1))
      · have hs1 := iq hc11 hs1
        refine J_aload_n hK dX7_first_14 rfl 0 rfl rfl ?_
        refine J_get hK fo_RX7_51 dX7_first_15 rfl 0 0 rfl rfl rfl ?_
        refine J_iload_n hK dX7_first_18 rfl 3 rfl rfl ?_
        obtain ⟨q35, eq35, hs1⟩ := bs hs1
        refine J_aald hK dX7_first_19 rfl 0 13 rfl rfl rfl eq35 ?_
        refine J_iconst (v := 4) hK dX7_first_20 rfl (by decide) ?_
        obtain ⟨v36, ev36, hs1⟩ := bs hs1
        refine J_iald hK dX7_first_21 rfl 3 q35 rfl (gridI_at (ck_ok eq35).2.2) ev36 ?_
        refine J_if_ne (tg := 33) hK dX7_first_22 rfl rfl (fun hc22 => ?_) (fun hc22 => ?_)
        · have hs1 := iq hc22 hs1
          refine J_iconst (v := 0) hK dX7_first_33 rfl (by decide) ?_
          unfold fX7_first_j34 at hs1
          refine J_istore (L' := [(4, .int (0)), (0, .ref (h0 0)), (1, .int z2), (2, .int z3), (3, .int z4)]) hK dX7_first_34 rfl (by decide) rfl ?_
          refine J_iload hK dX7_first_36 rfl 0 rfl ?_
          refine J_iload_n hK dX7_first_38 rfl 3 rfl rfl ?_
          refine J_icmp_le (tg := 47) hK dX7_first_39 rfl rfl (fun hc39 => ?_) (fun hc39 => ?_)
          · have hs1 := ip hc39 hs1
            refine J_iinc (L' := [(3, .int (z4 + 1)), (4, .int (0)), (0, .ref (h0 0)), (1, .int z2), (2, .int z3)]) (v := (z4 + 1)) hK dX7_first_47 rfl 4 rfl rfl (by decide) rfl ?_
            refine J_goto hK dX7_first_50 (n := 6) rfl ?_
            exact J_loc [2, 3, 4, 0] rfl (ih1N z2 z3 (z4 + 1) (lpc hs1 hr1))
          · have hs1 := iq hc39 hs1
            refine J_iload_n hK dX7_first_42 rfl 4 rfl rfl ?_
            refine J_istore_n (L' := [(1, .int z4), (4, .int (0)), (0, .ref (h0 0)), (2, .int z3), (3, .int z4)]) hK dX7_first_43 rfl rfl (by decide) rfl ?_
            refine J_iload hK dX7_first_44 rfl 1 rfl ?_
            refine J_istore_n (L' := [(2, .int (0)), (1, .int z4), (4, .int (0)), (0, .ref (h0 0)), (3, .int z4)]) hK dX7_first_46 rfl rfl (by decide) rfl ?_
            refine J_iinc (L' := [(3, .int (z4 + 1)), (2, .int (0)), (1, .int z4), (4, .int (0)), (0, .ref (h0 0))]) (v := (z4 + 1)) hK dX7_first_47 rfl 4 rfl rfl (by decide) rfl ?_
            refine J_goto hK dX7_first_50 (n := 6) rfl ?_
            exact J_loc [4, 2, 1, 0] rfl (ih1N z4 (0) (z4 + 1) (lpc hs1 hr1))
        · exact absurd hc22 (hd z4 (Int32.not_le.mp hc11) q35 eq35 v36 ev36)
  exact J_loc [3, 2, 1, 0] rfl (lo1N n (-1) (0) (0) hl1)


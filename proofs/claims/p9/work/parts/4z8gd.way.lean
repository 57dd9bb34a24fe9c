theorem s_least {n : Nat} {x0_shelf x0_rowSort x0_rowSize : (Nat → Int32)} {x0_rows : (Nat → Nat → Int64)} {x0_moved : (Nat → Int64)} {x0_shown x0_tape : (Nat → Int32)} {x0_tapeSize : Int32} {x0_refused : (Nat → Int32)} {x0_lines : Int32} {x0_line : (Nat → Nat → Int32)} {x0_changes x0_coins : (Nat → Int32)} {x0_goods : Int32} {x0_good : (Nat → Nat → Int32)} {x0_works : Int32} {x0_work : (Nat → Nat → Int32)} {x0_years x0_gone x0_spent x0_at x0_token x0_from : Int32} {x0_figures : Int64} {x0_fault : Int32} {x0_numbers : (Nat → Int32)} {x0_statements : Int32} {x0_left x0_far : (Nat → Int32)} {x0_tons : Int32} {x0_way : (Nat → Int32)} {x0_steps : Int32} {x0_met : Int64} {x0_queue x0_totals : (Nat → Int32)} {p1 : Int32} (hn : 1000000000000 ≤ n) (hp : 0 ≤ p1 ∧ p1 ≤ 11) (hA : AI 0 1000000000 x0_far) : Sf (fX7_least n (x0_shelf, x0_rowSort, x0_rowSize, x0_rows, x0_moved, x0_shown, x0_tape, x0_tapeSize, x0_refused, x0_lines, x0_line, x0_changes, x0_coins, x0_goods, x0_good, x0_works, x0_work, x0_years, x0_gone, x0_spent, x0_at, x0_token, x0_from, x0_figures, x0_fault, x0_numbers, x0_statements, x0_left, x0_far, x0_tons, x0_way, x0_steps, x0_met, x0_queue, x0_totals) p1) (fun r => (0 ≤ r ∧ r ≤ 1000000000) ∧ (r = 1000000000 ∨ ∃ w : Nat, w < 3 ∧ x0_far (3 * p1.toNatClampNeg + w) = r)) := by
  unfold fX7_least
  dsimp only [u35]
  refine Sf.bind (Sf.loop2 (Q := fun r => (0 ≤ r ∧ r ≤ 1000000000) ∧ (r = 1000000000 ∨ ∃ w : Nat, w < 3 ∧ x0_far (3 * p1.toNatClampNeg + w) = r)) (fun (z2 z3 : Int32) => 0 ≤ z3 ∧ (0 ≤ z2 ∧ z2 ≤ 1000000000) ∧ (z2 = 1000000000 ∨ ∃ w : Nat, w < 3 ∧ x0_far (3 * p1.toNatClampNeg + w) = z2)) (fun (z2 z3 : Int32) => muUp z3) (fun z2 z3 hh => ?_) (n := n) (s := (1000000000, 0)) ⟨Int32.le_refl _, (by decide : (0 : Int32) ≤ 1000000000 ∧ (1000000000 : Int32) ≤ 1000000000), Or.inl rfl⟩ (muUp_n hn)) (fun r hr => Sf.ok hr)
  obtain ⟨h3, b2, h2⟩ := hh
  unfold fX7_least_s5
  refine Sf.ite (fun h => Sf.inr ⟨b2, h2⟩) (fun h => ?_)
  obtain ⟨p3, n3, hlt⟩ := up1 h3 (by decide) h
  obtain ⟨ix, nx⟩ := ix3 hp ⟨h3, hlt⟩
  refine Sf.rdI 36 rfl hA ix (fun v6 b6 e6 => ?_)
  refine Sf.ite (fun _ => Sf.inl ⟨p3, b2, h2⟩ (muUp_lt h)) (fun _ => ?_)
  refine Sf.rdI 36 rfl hA ix (fun v7 b7 e7 => ?_)
  rw [nx] at e7
  exact Sf.inl ⟨p3, b7, Or.inr ⟨z3.toNatClampNeg, i32_lt (M := 3) rfl ⟨h3, hlt⟩, e7.symm⟩⟩ (muUp_lt h)
theorem T_s146 {n sS kS : Nat} {vS : Nat} {p2 : Int32} {x0_shelf x0_rowSort x0_rowSize : (Nat → Int32)} {x0_rows : (Nat → Nat → Int64)} {x0_moved : (Nat → Int64)} {x0_shown x0_tape : (Nat → Int32)} {x0_tapeSize : Int32} {x0_refused : (Nat → Int32)} {x0_lines : Int32} {x0_line : (Nat → Nat → Int32)} {x0_changes x0_coins : (Nat → Int32)} {x0_goods : Int32} {x0_good : (Nat → Nat → Int32)} {x0_works : Int32} {x0_work : (Nat → Nat → Int32)} {x0_years x0_gone x0_spent x0_at x0_token x0_from : Int32} {x0_figures : Int64} {x0_fault : Int32} {x0_numbers : (Nat → Int32)} {x0_statements : Int32} {x0_left x0_totals g1 : (Nat → Int32)} {g2 z16 : Int32} {z17 : (Nat → Int32)} {z18 : Int32} {z19 : Int64} {z29 z30 : Int32} {z31 : (Nat → Int32)} (hn : 1000000000000 ≤ n) (h_x0_shelf : (AI 0 2 x0_shelf)) (h_x0_rowSize : (AI 0 40 x0_rowSize)) (h_x0_tapeSize : (0 ≤ x0_tapeSize ∧ x0_tapeSize ≤ 250)) (h_x0_lines : (0 ≤ x0_lines ∧ x0_lines ≤ 20)) (h_x0_line : (LnM x0_line)) (h_x0_changes : (AI 0 99 x0_changes)) (h_x0_coins : (AI 0 9 x0_coins)) (h_x0_goods : (0 ≤ x0_goods ∧ x0_goods ≤ 8)) (h_x0_good : (GdM x0_good)) (h_x0_works : (0 ≤ x0_works ∧ x0_works ≤ 7)) (h_x0_work : (WkM x0_work)) (h_x0_years : (1 ≤ x0_years ∧ x0_years ≤ 30)) (h_x0_from : (0 ≤ x0_from ∧ x0_from ≤ 250)) (hg1 : AI 0 1000000000 g1) (h17 : AI 0 22 z17) (h18 : 0 ≤ z18 ∧ z18 ≤ 37) (hp2 : 0 ≤ p2 ∧ p2 ≤ 11) (h16 : 0 ≤ z16 ∧ z16 ≤ 35) (hs : sS < 3 + x0_lines.toNatClampNeg) (hv : vS < 36) (hst : stF x0_line x0_changes x0_coins x0_left g1 g2 z16 (Int32.ofNat sS) = some (Int32.ofNat vS)) (hPk : Pk (EP x0_lines.toNatClampNeg x0_line x0_changes x0_coins x0_left g1 g2) (fun u => u / 3 = p2.toNatClampNeg) (fun v => tb z19 v = true) kS vS) (hI : (0 ≤ z29 ∧ z29.toNatClampNeg ≤ sS) ∧ stF x0_line x0_changes x0_coins x0_left g1 g2 z16 z29 = some z30 ∧ AI 0 35 z31) :
    Sf (fX7_findWay_s146 n p2 x0_shelf x0_rowSort x0_rowSize x0_rows x0_moved x0_shown x0_tape x0_tapeSize x0_refused x0_lines x0_line x0_changes x0_coins x0_goods x0_good x0_works x0_work x0_years x0_gone x0_spent x0_at x0_token x0_from x0_figures x0_fault x0_numbers x0_statements x0_left x0_totals g1 g2 z16 z17 z18 z19 z29 z30 z31) (LQ (u3 (fun (z29 z30 : Int32) (z31 : Nat → Int32) => (0 ≤ z29 ∧ z29.toNatClampNeg ≤ sS) ∧ stF x0_line x0_changes x0_coins x0_left g1 g2 z16 z29 = some z30 ∧ AI 0 35 z31)) (u3 (fun (z29 z30 : Int32) (z31 : Nat → Int32) => muUp z29)) (muUp z29) (fun e => (0 ≤ e.1 ∧ e.1 ≤ 22) ∧ (0 ≤ e.2.1 ∧ e.2.1 ≤ 35) ∧ AI 0 35 e.2.2 ∧ ∃ k, Pk (EP x0_lines.toNatClampNeg x0_line x0_changes x0_coins x0_left g1 g2) (fun u => u / 3 = p2.toNatClampNeg) (fun v => tb z19 v = true) k e.2.1.toNatClampNeg)) := by
  unfold fX7_findWay_s146
  obtain ⟨⟨h29, l29⟩, e30, a31⟩ := hI
  have l3 := l23 h_x0_lines
  have lL : x0_lines.toNatClampNeg ≤ 20 := by
    have a := i32_cl h_x0_lines.1
    have b := Int32.le_iff_toInt_le.mp h_x0_lines.2
    have z20 : (20 : Int32).toInt = 20 := by decide
    rw [z20] at b
    omega
  have b29 : 0 ≤ z29 ∧ z29 ≤ 22 := by
    have a := i32_cl h29
    have z22 : (22 : Int32).toInt = 22 := by decide
    exact ⟨h29, Int32.le_iff_toInt_le.mpr (by rw [z22]; omega)⟩
  obtain ⟨p29, n29, _⟩ := up1 (B := 100) h29 (by decide) (by grind)
  obtain ⟨v30, e30', b30⟩ := sX7_stepTo (x0_shelf := x0_shelf) (x0_rowSort := x0_rowSort) (x0_rows := x0_rows) (x0_moved := x0_moved) (x0_shown := x0_shown) (x0_tape := x0_tape) (x0_refused := x0_refused) (x0_gone := x0_gone) (x0_spent := x0_spent) (x0_at := x0_at) (x0_token := x0_token) (x0_figures := x0_figures) (x0_fault := x0_fault) (x0_numbers := x0_numbers) (x0_statements := x0_statements) (x0_left := x0_left) (x0_tons := g2) (x0_met := z19) (x0_totals := x0_totals) h_x0_shelf h_x0_rowSize h_x0_tapeSize h_x0_lines h_x0_line h_x0_changes h_x0_coins h_x0_goods h_x0_good h_x0_works h_x0_work h_x0_years h_x0_from hg1 h17 h18 a31 h16 b29
  rw [stF_eq, e30] at e30'
  cases e30'
  have nS : ¬ (z29.toNatClampNeg = sS ∧ ¬ (z30 ≠ -1 ∧ ∃ k, Pk (EP x0_lines.toNatClampNeg x0_line x0_changes x0_coins x0_left g1 g2) (fun u => u / 3 = p2.toNatClampNeg) (fun v => tb z19 v = true) k z30.toNatClampNeg)) := by
    rintro ⟨ha, hb⟩
    apply hb
    rw [← ha, o_of h29, e30] at hst
    have : z30 = Int32.ofNat vS := Option.some.inj hst
    obtain ⟨ov, nv, _, _⟩ := o36 hv
    rw [this]
    refine ⟨?_, kS, ?_⟩
    · intro hx
      rw [hx] at ov
      exact absurd ov.1 (by decide)
    · rw [nv]; exact hPk
  have go : ∀ {x38 : Nat → Int32}, AI 0 35 x38 → ¬ (z30 ≠ -1 ∧ ∃ k, Pk (EP x0_lines.toNatClampNeg x0_line x0_changes x0_coins x0_left g1 g2) (fun u => u / 3 = p2.toNatClampNeg) (fun v => tb z19 v = true) k z30.toNatClampNeg) → Sf (fX7_findWay_j162 x0_shelf x0_rowSort x0_rowSize x0_rows x0_moved x0_shown x0_tape x0_tapeSize x0_refused x0_lines x0_line x0_changes x0_coins x0_goods x0_good x0_works x0_work x0_years x0_gone x0_spent x0_at x0_token x0_from x0_figures x0_fault x0_numbers x0_statements x0_left x0_totals g1 g2 z16 z17 z18 z19 z29 x38) (LQ (u3 (fun (z29 z30 : Int32) (z31 : Nat → Int32) => (0 ≤ z29 ∧ z29.toNatClampNeg ≤ sS) ∧ stF x0_line x0_changes x0_coins x0_left g1 g2 z16 z29 = some z30 ∧ AI 0 35 z31)) (u3 (fun (z29 z30 : Int32) (z31 : Nat → Int32) => muUp z29)) (muUp z29) (fun e => (0 ≤ e.1 ∧ e.1 ≤ 22) ∧ (0 ≤ e.2.1 ∧ e.2.1 ≤ 35) ∧ AI 0 35 e.2.2 ∧ ∃ k, Pk (EP x0_lines.toNatClampNeg x0_line x0_changes x0_coins x0_left g1 g2) (fun u => u / 3 = p2.toNatClampNeg) (fun v => tb z19 v = true) k e.2.1.toNatClampNeg)) := by
    intro x38 ax hno
    have hlt : z29.toNatClampNeg < sS := by
      rcases Nat.lt_or_ge z29.toNatClampNeg sS with h | h
      · exact h
      · exact absurd ⟨by omega, hno⟩ nS
    have b1 : 0 ≤ z29 + 1 ∧ z29 + 1 ≤ 22 := by
      have a := i32_cl p29
      have z22 : (22 : Int32).toInt = 22 := by decide
      exact ⟨p29, Int32.le_iff_toInt_le.mpr (by rw [z22]; omega)⟩
    unfold fX7_findWay_j162
    obtain ⟨v39, e39, b39⟩ := sX7_stepTo (x0_shelf := x0_shelf) (x0_rowSort := x0_rowSort) (x0_rows := x0_rows) (x0_moved := x0_moved) (x0_shown := x0_shown) (x0_tape := x0_tape) (x0_refused := x0_refused) (x0_gone := x0_gone) (x0_spent := x0_spent) (x0_at := x0_at) (x0_token := x0_token) (x0_figures := x0_figures) (x0_fault := x0_fault) (x0_numbers := x0_numbers) (x0_statements := x0_statements) (x0_left := x0_left) (x0_tons := g2) (x0_met := z19) (x0_totals := x0_totals) h_x0_shelf h_x0_rowSize h_x0_tapeSize h_x0_lines h_x0_line h_x0_changes h_x0_coins h_x0_goods h_x0_good h_x0_works h_x0_work h_x0_years h_x0_from hg1 h17 h18 ax h16 b1
    rw [e39]
    rw [stF_eq] at e39
    refine Sf.someb (fun w ew => ?_)
    subst ew
    exact Sf.inl ⟨⟨p29, by show (z29 + 1).toNatClampNeg ≤ sS; rw [n29]; omega⟩, e39, ax⟩ (muUp_lt' (B := 100) (by grind))
  refine Sf.ite (fun h => go a31 (fun hx => hx.1 h)) (fun h => ?_)
  have c30 : 0 ≤ z30 ∧ z30 ≤ 35 := by
    have b30 : (-1) ≤ z30 ∧ z30 ≤ 35 := b30
    grind
  refine Sf.bind (sX7_canEnd hn h_x0_shelf h_x0_rowSize h_x0_tapeSize h_x0_lines h_x0_line h_x0_changes h_x0_coins h_x0_goods h_x0_good h_x0_works h_x0_work h_x0_years h_x0_from hg1 h17 h18 a31 c30 hp2) ?_
  rintro ⟨v41, g42⟩ hr
  obtain ⟨_, a42, h41⟩ : (0 ≤ v41 ∧ v41 ≤ 1) ∧ AI 0 35 g42 ∧ ((v41 = 1 ∧ ∃ k, Pk (EP x0_lines.toNatClampNeg x0_line x0_changes x0_coins x0_left g1 g2) (fun u => u / 3 = p2.toNatClampNeg) (fun v => tb z19 v = true) k z30.toNatClampNeg) ∨ (v41 = 0 ∧ ¬ ∃ k, Pk (EP x0_lines.toNatClampNeg x0_line x0_changes x0_coins x0_left g1 g2) (fun u => u / 3 = p2.toNatClampNeg) (fun v => tb z19 v = true) k z30.toNatClampNeg)) := hr
  dsimp only [u2]
  refine Sf.ite (fun h0 => ?_) (fun h0 => ?_)
  · refine go a42 (fun hx => ?_)
    rcases h41 with h41 | h41
    · rw [h0] at h41; exact absurd h41.1 (by decide)
    · exact h41.2 hx.2
  · rcases h41 with h41 | h41
    · exact Sf.inr ⟨b29, c30, a42, h41.2⟩
    · exact absurd h41.1 h0

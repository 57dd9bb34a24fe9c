/-! the reference's free() -/
theorem refillS {n : Nat} {x0_shelf : (Nat → Int32)} {x0_rowSort : (Nat → Int32)} {x0_rowSize : (Nat → Int32)} {x0_rows : (Nat → Nat → Int64)} {x0_moved : (Nat → Int64)} {x0_shown : (Nat → Int32)} {x0_tape : (Nat → Int32)} {x0_tapeSize : Int32} {x0_refused : (Nat → Int32)} {x0_lines : Int32} {x0_line : (Nat → Nat → Int32)} {x0_changes : (Nat → Int32)} {x0_coins : (Nat → Int32)} {x0_goods : Int32} {x0_good : (Nat → Nat → Int32)} {x0_works : Int32} {x0_work : (Nat → Nat → Int32)} {x0_years : Int32} {x0_gone : Int32} {x0_spent : Int32} {x0_at : Int32} {x0_token : Int32} {x0_from : Int32} {x0_figures : Int64} {x0_fault : Int32} {x0_numbers : (Nat → Int32)} {x0_statements : Int32} {x0_left : (Nat → Int32)} {x0_far : (Nat → Int32)} {x0_tons : Int32} {x0_way : (Nat → Int32)} {x0_steps : Int32} {x0_met : Int64} {x0_queue : (Nat → Int32)} {x0_totals : (Nat → Int32)} (hn : 1000000000000 ≤ n) (h_x0_lines : (0 ≤ x0_lines ∧ x0_lines ≤ 20)) : Sf (fX7_refill n (x0_shelf, x0_rowSort, x0_rowSize, x0_rows, x0_moved, x0_shown, x0_tape, x0_tapeSize, x0_refused, x0_lines, x0_line, x0_changes, x0_coins, x0_goods, x0_good, x0_works, x0_work, x0_years, x0_gone, x0_spent, x0_at, x0_token, x0_from, x0_figures, x0_fault, x0_numbers, x0_statements, x0_left, x0_far, x0_tons, x0_way, x0_steps, x0_met, x0_queue, x0_totals)) (fun r => ∀ l : Nat, l < x0_lines.toNatClampNeg → r l = x0_line l 4) := by
  unfold fX7_refill
  dsimp only [u35]
  refine Sf.bind (P := fun r => ∀ l : Nat, l < x0_lines.toNatClampNeg → r l = x0_line l 4) ?_ (fun r h => Sf.ok h)
  refine Sf.loop2 (fun (z : Int32) (f : Nat → Int32) => (0 ≤ z ∧ z ≤ x0_lines) ∧ ∀ l : Nat, l < z.toNatClampNeg → f l = x0_line l 4) (fun z _ => muUp z) (fun z f h => ?_) (show (0 ≤ (0 : Int32) ∧ (0 : Int32) ≤ x0_lines) ∧ ∀ l : Nat, l < (0 : Int32).toNatClampNeg → x0_left l = x0_line l 4 from ⟨⟨by decide, h_x0_lines.1⟩, fun l hl => absurd hl (Nat.not_lt_zero l)⟩) (muUp_n hn)
  obtain ⟨⟨h0, h1⟩, h2⟩ := h
  unfold fX7_refill_s2
  refine Sf.ite (fun hc => ?_) (fun hc => ?_)
  · refine Sf.inr (show ∀ l : Nat, l < x0_lines.toNatClampNeg → f l = x0_line l 4 from ?_)
    have e : z = x0_lines := Int32.le_antisymm h1 hc
    rw [← e]
    exact h2
  · obtain ⟨u1, u2, u3⟩ := up1 h0 (Int32.le_trans h_x0_lines.2 (by decide)) hc
    have hz : 0 ≤ z ∧ z < 20 := ⟨h0, Int32.lt_of_lt_of_le u3 h_x0_lines.2⟩
    refine Sf.ckb 20 rfl hz (fun q e_q h_q => ?_)
    refine Sf.rdl 4 rfl rfl (fun v e_v => ?_)
    refine Sf.wrb 20 rfl hz (fun g e_g => ?_)
    refine Sf.inl (show (0 ≤ z + 1 ∧ z + 1 ≤ x0_lines) ∧ ∀ l : Nat, l < (z + 1).toNatClampNeg → g l = x0_line l 4 from ⟨⟨u1, by grind⟩, fun l hl => ?_⟩) (muUp_lt hc)
    rw [u2] at hl
    rw [e_g]
    unfold va_up
    by_cases hk : l = z.toNatClampNeg
    · rw [if_pos hk, e_v, e_q, hk]
    · rw [if_neg hk]
      exact h2 l (by omega)
theorem leastS {n : Nat} {x0_shelf : (Nat → Int32)} {x0_rowSort : (Nat → Int32)} {x0_rowSize : (Nat → Int32)} {x0_rows : (Nat → Nat → Int64)} {x0_moved : (Nat → Int64)} {x0_shown : (Nat → Int32)} {x0_tape : (Nat → Int32)} {x0_tapeSize : Int32} {x0_refused : (Nat → Int32)} {x0_lines : Int32} {x0_line : (Nat → Nat → Int32)} {x0_changes : (Nat → Int32)} {x0_coins : (Nat → Int32)} {x0_goods : Int32} {x0_good : (Nat → Nat → Int32)} {x0_works : Int32} {x0_work : (Nat → Nat → Int32)} {x0_years : Int32} {x0_gone : Int32} {x0_spent : Int32} {x0_at : Int32} {x0_token : Int32} {x0_from : Int32} {x0_figures : Int64} {x0_fault : Int32} {x0_numbers : (Nat → Int32)} {x0_statements : Int32} {x0_left : (Nat → Int32)} {x0_far : (Nat → Int32)} {x0_tons : Int32} {x0_way : (Nat → Int32)} {x0_steps : Int32} {x0_met : Int64} {x0_queue : (Nat → Int32)} {x0_totals : (Nat → Int32)} {p1 : Int32} (hn : 1000000000000 ≤ n) (hp : 0 ≤ p1 ∧ p1 ≤ 11) : Sf (fX7_least n (x0_shelf, x0_rowSort, x0_rowSize, x0_rows, x0_moved, x0_shown, x0_tape, x0_tapeSize, x0_refused, x0_lines, x0_line, x0_changes, x0_coins, x0_goods, x0_good, x0_works, x0_work, x0_years, x0_gone, x0_spent, x0_at, x0_token, x0_from, x0_figures, x0_fault, x0_numbers, x0_statements, x0_left, x0_far, x0_tons, x0_way, x0_steps, x0_met, x0_queue, x0_totals) p1) (Ls 1000000000 x0_far p1.toNatClampNeg) := by
  unfold fX7_least
  dsimp only [u35]
  exact Sf.bind (leastL hn hp) (fun r h => Sf.ok h)
/-- findFar with no tons to bear: the least costs of the land -/
theorem farT {n : Nat} {x0_shelf : (Nat → Int32)} {x0_rowSort : (Nat → Int32)} {x0_rowSize : (Nat → Int32)} {x0_rows : (Nat → Nat → Int64)} {x0_moved : (Nat → Int64)} {x0_shown : (Nat → Int32)} {x0_tape : (Nat → Int32)} {x0_tapeSize : Int32} {x0_refused : (Nat → Int32)} {x0_lines : Int32} {x0_line : (Nat → Nat → Int32)} {x0_changes : (Nat → Int32)} {x0_coins : (Nat → Int32)} {x0_goods : Int32} {x0_good : (Nat → Nat → Int32)} {x0_works : Int32} {x0_work : (Nat → Nat → Int32)} {x0_years : Int32} {x0_gone : Int32} {x0_spent : Int32} {x0_at : Int32} {x0_token : Int32} {x0_from : Int32} {x0_figures : Int64} {x0_fault : Int32} {x0_numbers : (Nat → Int32)} {x0_statements : Int32} {x0_left : (Nat → Int32)} {x0_far : (Nat → Int32)} {x0_tons : Int32} {x0_way : (Nat → Int32)} {x0_steps : Int32} {x0_met : Int64} {x0_queue : (Nat → Int32)} {x0_totals : (Nat → Int32)} {p1 : Int32} (hn : 1000000000000 ≤ n) (h_x0_shelf : (AI 0 2 x0_shelf)) (h_x0_rowSize : (AI 0 40 x0_rowSize)) (h_x0_tapeSize : (0 ≤ x0_tapeSize ∧ x0_tapeSize ≤ 250)) (h_x0_lines : (0 ≤ x0_lines ∧ x0_lines ≤ 20)) (h_x0_line : (LnM x0_line)) (h_x0_changes : (AI 0 99 x0_changes)) (h_x0_coins : (AI 0 9 x0_coins)) (h_x0_goods : (0 ≤ x0_goods ∧ x0_goods ≤ 8)) (h_x0_good : (GdM x0_good)) (h_x0_works : (0 ≤ x0_works ∧ x0_works ≤ 7)) (h_x0_work : (WkM x0_work)) (h_x0_years : (1 ≤ x0_years ∧ x0_years ≤ 30)) (h_x0_from : (0 ≤ x0_from ∧ x0_from ≤ 250)) (h_x0_far : (AI 0 1000000000 x0_far)) (h_x0_way : (AI 0 22 x0_way)) (h_x0_steps : (0 ≤ x0_steps ∧ x0_steps ≤ 37)) (h_x0_queue : (AI 0 35 x0_queue)) (h_p1 : 0 ≤ p1 ∧ p1 ≤ 11) (hleft : ∀ l, l < x0_lines.toNatClampNeg → ¬ x0_left l < 0) : Sf (fX7_findFar n (x0_shelf, x0_rowSort, x0_rowSize, x0_rows, x0_moved, x0_shown, x0_tape, x0_tapeSize, x0_refused, x0_lines, x0_line, x0_changes, x0_coins, x0_goods, x0_good, x0_works, x0_work, x0_years, x0_gone, x0_spent, x0_at, x0_token, x0_from, x0_figures, x0_fault, x0_numbers, x0_statements, x0_left, x0_far, x0_tons, x0_way, x0_steps, x0_met, x0_queue, x0_totals) p1 0) (fun r => AI 0 1000000000 r.1 ∧ TF (EdL x0_lines.toNatClampNeg x0_line x0_changes x0_coins) (fun u => u / 3 = p1.toNatClampNeg) (cut6 r.1) ∧ (∀ v, v < 36 → r.1 v < 1000000000 → r.1 v < 1000000)) := by
  refine Sf.mono (farS hn h_x0_shelf h_x0_rowSize h_x0_tapeSize h_x0_lines h_x0_line h_x0_changes h_x0_coins h_x0_goods h_x0_good h_x0_works h_x0_work h_x0_years h_x0_from h_x0_far h_x0_way h_x0_steps h_x0_queue h_p1) ?_
  rintro ⟨far, t⟩ ⟨hA, hAt, ⟨h1, h2⟩, _⟩
  have hA : AI 0 1000000000 far := hA
  have hF := FxD_far hA h_x0_line h_x0_coins h_x0_changes h1 h2
  have hg : ∀ u, u / 3 = p1.toNatClampNeg → u < 36 := fun u hu => by have := p_of h_p1; omega
  have hg0 : (3 * p1.toNatClampNeg) / 3 = p1.toNatClampNeg := by omega
  have hD := Ed.d (L := x0_lines.toNatClampNeg) (left := x0_left) (tons := 0) h_x0_line h_x0_coins h_x0_changes
  have hD0 := Ed.d0 (L := x0_lines.toNatClampNeg) (left := x0_left) (tons := 0) h_x0_line h_x0_coins h_x0_changes
  refine ⟨hA, ?_, fun v hv h => far_lt hAt hF hD hg (g0 := 3 * p1.toNatClampNeg) hg0 hv h⟩
  have q := TF_far hA hAt hF hD hD0 hg (g0 := 3 * p1.toNatClampNeg) hg0
  rw [Ed_left hleft] at q
  exact q
theorem freeT {n : Nat} {x0_shelf : (Nat → Int32)} {x0_rowSort : (Nat → Int32)} {x0_rowSize : (Nat → Int32)} {x0_rows : (Nat → Nat → Int64)} {x0_moved : (Nat → Int64)} {x0_shown : (Nat → Int32)} {x0_tape : (Nat → Int32)} {x0_tapeSize : Int32} {x0_refused : (Nat → Int32)} {x0_lines : Int32} {x0_line : (Nat → Nat → Int32)} {x0_changes : (Nat → Int32)} {x0_coins : (Nat → Int32)} {x0_goods : Int32} {x0_good : (Nat → Nat → Int32)} {x0_works : Int32} {x0_work : (Nat → Nat → Int32)} {x0_years : Int32} {x0_gone : Int32} {x0_spent : Int32} {x0_at : Int32} {x0_token : Int32} {x0_from : Int32} {x0_figures : Int64} {x0_fault : Int32} {x0_numbers : (Nat → Int32)} {x0_statements : Int32} {x0_left : (Nat → Int32)} {x0_far : (Nat → Int32)} {x0_tons : Int32} {x0_way : (Nat → Int32)} {x0_steps : Int32} {x0_met : Int64} {x0_queue : (Nat → Int32)} {x0_totals : (Nat → Int32)} (hn : 1000000000000 ≤ n) (h_x0_shelf : (AI 0 2 x0_shelf)) (h_x0_rowSize : (AI 0 40 x0_rowSize)) (h_x0_tapeSize : (0 ≤ x0_tapeSize ∧ x0_tapeSize ≤ 250)) (h_x0_lines : (0 ≤ x0_lines ∧ x0_lines ≤ 20)) (h_x0_line : (LnM x0_line)) (h_x0_changes : (AI 0 99 x0_changes)) (h_x0_coins : (AI 0 9 x0_coins)) (h_x0_goods : (0 ≤ x0_goods ∧ x0_goods ≤ 8)) (h_x0_good : (GdM x0_good)) (h_x0_works : (0 ≤ x0_works ∧ x0_works ≤ 7)) (h_x0_work : (WkM x0_work)) (h_x0_years : (1 ≤ x0_years ∧ x0_years ≤ 30)) (h_x0_from : (0 ≤ x0_from ∧ x0_from ≤ 250)) (h_x0_far : (AI 0 1000000000 x0_far)) (h_x0_way : (AI 0 22 x0_way)) (h_x0_steps : (0 ≤ x0_steps ∧ x0_steps ≤ 37)) (h_x0_queue : (AI 0 35 x0_queue)) {Tq : Nat → Nat → Int32} (hT : Tz (EdL x0_lines.toNatClampNeg x0_line x0_changes x0_coins) Tq) : Sf (fX7_free n (x0_shelf, x0_rowSort, x0_rowSize, x0_rows, x0_moved, x0_shown, x0_tape, x0_tapeSize, x0_refused, x0_lines, x0_line, x0_changes, x0_coins, x0_goods, x0_good, x0_works, x0_work, x0_years, x0_gone, x0_spent, x0_at, x0_token, x0_from, x0_figures, x0_fault, x0_numbers, x0_statements, x0_left, x0_far, x0_tons, x0_way, x0_steps, x0_met, x0_queue, x0_totals)) (fun r => r.1 = FreeF Tq x0_good x0_goods.toNatClampNeg) := by
  unfold fX7_free
  dsimp only [u35]
  refine Sf.bind (refillS hn h_x0_lines) ?_
  intro g1 e1
  have hleft : ∀ l, l < x0_lines.toNatClampNeg → ¬ g1 l < 0 := by
    intro l hl
    rw [e1 l hl]
    exact Int32.not_lt.mpr (h_x0_line l 4).1
  refine Sf.bind (P := fun r : Int32 × (Nat → Int32) × Int32 => r.1 = FreeF Tq x0_good x0_goods.toNatClampNeg) ?_ ?_
  · refine Sf.loop4 (fun z4 z5 z6 z7 => (0 ≤ z5 ∧ z5 ≤ x0_goods) ∧ AI 0 1000000000 z6 ∧ z4 = sm (tm Tq x0_good) z5.toNatClampNeg) (fun z4 z5 z6 z7 => muUp z5) (fun z4 z5 z6 z7 h => ?_) (show (0 ≤ (0 : Int32) ∧ (0 : Int32) ≤ x0_goods) ∧ AI 0 1000000000 x0_far ∧ (0 : Int32) = sm (tm Tq x0_good) (0 : Int32).toNatClampNeg from ⟨⟨by decide, h_x0_goods.1⟩, h_x0_far, rfl⟩) (muUp_n hn)
    obtain ⟨⟨h0, h1⟩, h6, h4⟩ := h
    unfold fX7_free_s8
    refine Sf.ite (fun hc => ?_) (fun hc => ?_)
    · refine Sf.inr (show z4 = FreeF Tq x0_good x0_goods.toNatClampNeg from ?_)
      have e : z5 = x0_goods := Int32.le_antisymm h1 hc
      rw [h4, e]
      rfl
    · obtain ⟨u1, u2, u3⟩ := up1 h0 (Int32.le_trans h_x0_goods.2 (by decide)) hc
      have hz : 0 ≤ z5 ∧ z5 < 8 := ⟨h0, Int32.lt_of_lt_of_le u3 h_x0_goods.2⟩
      have hz1 : z5 + 1 ≤ x0_goods := by clear h4 hT; grind
      refine Sf.ckb 8 rfl hz (fun q12 e_q12 h_q12 => ?_)
      refine Sf.rdl 1 rfl rfl (fun v13 e_v13 => ?_)
      have h_v13 : 0 ≤ v13 ∧ v13 ≤ 11 := by rw [e_v13]; exact (h_x0_good q12) 1
      refine Sf.bind (farT hn h_x0_shelf h_x0_rowSize h_x0_tapeSize h_x0_lines h_x0_line h_x0_changes h_x0_coins h_x0_goods h_x0_good h_x0_works h_x0_work h_x0_years h_x0_from h6 h_x0_way h_x0_steps h_x0_queue h_v13 hleft) ?_
      rintro ⟨g14, g15⟩ ⟨hA, hTF, hlt⟩
      have hA : AI 0 1000000000 g14 := hA
      try dsimp only [u2]
      refine Sf.ckb 8 rfl hz (fun q17 e_q17 h_q17 => ?_)
      refine Sf.rdl 0 rfl rfl (fun v18 e_v18 => ?_)
      have h_v18 : 0 ≤ v18 ∧ v18 ≤ 11 := by rw [e_v18]; exact (h_x0_good q17) 0
      refine Sf.bind (leastS hn h_v18) ?_
      intro v19 hr3
      have hc13 := p_of h_v13
      have e := cst_far (hT _ hc13).1 (p_of h_v18) (TF_uniq hTF (hT _ hc13)) hlt hr3
      refine Sf.ckb 8 rfl hz (fun q21 e_q21 h_q21 => ?_)
      refine Sf.rdl 2 rfl rfl (fun v22 e_v22 => ?_)
      have key : ∀ x : Int32, cst (Tq v13.toNatClampNeg) v18.toNatClampNeg = x → z4 + v22 * x = sm (tm Tq x0_good) (z5 + 1).toNatClampNeg := by
        intro x hx
        rw [u2]
        show z4 + v22 * x = sm (tm Tq x0_good) z5.toNatClampNeg + tm Tq x0_good z5.toNatClampNeg
        rw [h4, ← hx]
        unfold tm
        rw [e_v22, e_v13, e_v18, e_q21, e_q12, e_q17]
      refine Sf.ite (fun hc4 => ?_) (fun hc4 => ?_)
      · rw [if_pos hc4] at e
        exact Sf.inl (show (0 ≤ z5 + 1 ∧ z5 + 1 ≤ x0_goods) ∧ AI 0 1000000000 g14 ∧ z4 + v22 * v19 = sm (tm Tq x0_good) (z5 + 1).toNatClampNeg from ⟨⟨u1, hz1⟩, hA, key _ e⟩) (muUp_lt hc)
      · rw [if_neg hc4] at e
        exact Sf.inl (show (0 ≤ z5 + 1 ∧ z5 + 1 ≤ x0_goods) ∧ AI 0 1000000000 g14 ∧ z4 + v22 * 999 = sm (tm Tq x0_good) (z5 + 1).toNatClampNeg from ⟨⟨u1, hz1⟩, hA, key _ e⟩) (muUp_lt hc)
  · rintro ⟨w9, w10, w11⟩ h
    exact Sf.ok h
/-- the least costs of a land are there -/
theorem Tz_ex {L : Int32} {line : Nat → Nat → Int32} {changes coins : Nat → Int32} (hL : 0 ≤ L ∧ L ≤ 20) (hl : LnM line) (hch : AI 0 99 changes) (hco : AI 0 9 coins) : ∃ Tq, Tz (EdL L.toNatClampNeg line changes coins) Tq := by
  have z : AI 0 1000000000 (fun _ => 0) := fun _ => (show (0 : Int32) ≤ 0 ∧ (0 : Int32) ≤ 1000000000 by decide)
  have z22 : AI 0 22 (fun _ => 0) := fun _ => (show (0 : Int32) ≤ 0 ∧ (0 : Int32) ≤ 22 by decide)
  have z35 : AI 0 35 (fun _ => 0) := fun _ => (show (0 : Int32) ≤ 0 ∧ (0 : Int32) ≤ 35 by decide)
  have z2 : AI 0 2 (fun _ => 0) := fun _ => (show (0 : Int32) ≤ 0 ∧ (0 : Int32) ≤ 2 by decide)
  have z40 : AI 0 40 (fun _ => 0) := fun _ => (show (0 : Int32) ≤ 0 ∧ (0 : Int32) ≤ 40 by decide)
  have b0 : ∀ B : Nat → Int32, (∀ k, 0 ≤ B k) → GI B (fun _ _ => 0) := fun B h q c => ⟨Int32.le_refl 0, h c⟩
  have zg : GdM (fun _ _ => 0) := b0 _ (by intro k; unfold gdB; rcases k with _ | _ | _ | k <;> first | decide | exact Int32.le_refl 0)
  have zw : WkM (fun _ _ => 0) := ⟨b0 _ (by intro k; unfold wkB; rcases k with _ | _ | _ | _ | _ | k <;> first | decide | exact Int32.le_refl 0), fun q hq => (show WkRm 0 0 0 by unfold WkRm; decide)⟩
  have h : ∀ q : Nat, ∃ T : Nat → Int32, q < 12 → TF (EdL L.toNatClampNeg line changes coins) (fun u => u / 3 = q) T := by
    intro q
    by_cases hq : q < 12
    · have hp : 0 ≤ Int32.ofNat q ∧ Int32.ofNat q ≤ 11 := by
        rcases (show q = 0 ∨ q = 1 ∨ q = 2 ∨ q = 3 ∨ q = 4 ∨ q = 5 ∨ q = 6 ∨ q = 7 ∨ q = 8 ∨ q = 9 ∨ q = 10 ∨ q = 11 by omega) with rfl | rfl | rfl | rfl | rfl | rfl | rfl | rfl | rfl | rfl | rfl | rfl <;> decide
      have e : (Int32.ofNat q).toNatClampNeg = q := by
        rcases (show q = 0 ∨ q = 1 ∨ q = 2 ∨ q = 3 ∨ q = 4 ∨ q = 5 ∨ q = 6 ∨ q = 7 ∨ q = 8 ∨ q = 9 ∨ q = 10 ∨ q = 11 by omega) with rfl | rfl | rfl | rfl | rfl | rfl | rfl | rfl | rfl | rfl | rfl | rfl <;> decide
      obtain ⟨r, _, _, hr, _⟩ := farT (n := 1000000000000) (x0_rowSort := fun _ => 0) (x0_rows := fun _ _ => 0) (x0_moved := fun _ => 0) (x0_shown := fun _ => 0) (x0_tape := fun _ => 0) (x0_refused := fun _ => 0) (x0_gone := 0) (x0_spent := 0) (x0_at := 0) (x0_token := 0) (x0_figures := 0) (x0_fault := 0) (x0_numbers := fun _ => 0) (x0_statements := 0) (x0_left := fun _ => 0) (x0_tons := 0) (x0_met := 0) (x0_totals := fun _ => 0) (x0_tapeSize := 0) (x0_goods := 0) (x0_works := 0) (x0_years := 1) (x0_from := 0) (x0_steps := 0) (Nat.le_refl _) z2 z40 (by decide) hL hl hch hco (by decide) zg (by decide) zw (by decide) (by decide) z z22 (by decide) z35 hp (fun _ _ => by decide)
      rw [e] at hr
      exact ⟨cut6 r.1, fun _ => hr⟩
    · exact ⟨fun _ => 0, fun hh => absurd hh hq⟩
  exact ⟨fun q => (h q).choose, fun q hq => (h q).choose_spec hq⟩

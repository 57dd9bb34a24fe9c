theorem T_s38 {n : Nat} {p1 p2 : Int32} {x0_shelf x0_rowSort x0_rowSize : (Nat → Int32)} {x0_rows : (Nat → Nat → Int64)} {x0_moved : (Nat → Int64)} {x0_shown x0_tape : (Nat → Int32)} {x0_tapeSize : Int32} {x0_refused : (Nat → Int32)} {x0_lines : Int32} {x0_line : (Nat → Nat → Int32)} {x0_changes x0_coins : (Nat → Int32)} {x0_goods : Int32} {x0_good : (Nat → Nat → Int32)} {x0_works : Int32} {x0_work : (Nat → Nat → Int32)} {x0_years x0_gone x0_spent x0_at x0_token x0_from : Int32} {x0_figures : Int64} {x0_fault : Int32} {x0_numbers : (Nat → Int32)} {x0_statements : Int32} {x0_left x0_way x0_totals g1 : (Nat → Int32)} {g2 v4 z7 z8 : Int32} {z9 : (Nat → Int32)} (hn : 1000000000000 ≤ n) (h_x0_shelf : (AI 0 2 x0_shelf)) (h_x0_rowSize : (AI 0 40 x0_rowSize)) (h_x0_tapeSize : (0 ≤ x0_tapeSize ∧ x0_tapeSize ≤ 250)) (h_x0_lines : (0 ≤ x0_lines ∧ x0_lines ≤ 20)) (h_x0_line : (LnM x0_line)) (h_x0_changes : (AI 0 99 x0_changes)) (h_x0_coins : (AI 0 9 x0_coins)) (h_x0_goods : (0 ≤ x0_goods ∧ x0_goods ≤ 8)) (h_x0_good : (GdM x0_good)) (h_x0_works : (0 ≤ x0_works ∧ x0_works ≤ 7)) (h_x0_work : (WkM x0_work)) (h_x0_years : (1 ≤ x0_years ∧ x0_years ≤ 30)) (h_x0_from : (0 ≤ x0_from ∧ x0_from ≤ 250)) (hg1 : AI 0 1000000000 g1) (hw : AI 0 22 x0_way) (hp1 : 0 ≤ p1 ∧ p1 ≤ 11) (hp2 : 0 ≤ p2 ∧ p2 ≤ 11) (hv4 : v4 < 1000000000) (hway : ∀ u, u < 36 → (g1 u).toInt < 1000000000 → ∃ j, Pk (EP x0_lines.toNatClampNeg x0_line x0_changes x0_coins x0_left g1 g2) (fun u => u / 3 = p2.toNatClampNeg) (fun v => tb 0 v = true) j u) (hI : ((-1) ≤ z8 ∧ z8 ≤ 2) ∧ AI 0 35 z9 ∧ ((∃ w : Nat, w < 3 ∧ (w : Int) ≤ (z8).toInt ∧ g1 (3 * p1.toNatClampNeg + w) = v4) ∨ ((0 ≤ z7 ∧ z7 ≤ 35) ∧ ∃ k, Pk (EP x0_lines.toNatClampNeg x0_line x0_changes x0_coins x0_left g1 g2) (fun u => u / 3 = p2.toNatClampNeg) (fun v => tb 0 v = true) k (z7).toNatClampNeg))) :
    Sf (fX7_findWay_s38 n p1 p2 x0_shelf x0_rowSort x0_rowSize x0_rows x0_moved x0_shown x0_tape x0_tapeSize x0_refused x0_lines x0_line x0_changes x0_coins x0_goods x0_good x0_works x0_work x0_years x0_gone x0_spent x0_at x0_token x0_from x0_figures x0_fault x0_numbers x0_statements x0_left x0_way x0_totals g1 g2 v4 z7 z8 z9) (LQ (fun (e : Int32 × Int32 × (Nat → Int32)) => ((-1) ≤ e.2.1 ∧ e.2.1 ≤ 2) ∧ AI 0 35 e.2.2 ∧ ((∃ w : Nat, w < 3 ∧ (w : Int) ≤ (e.2.1).toInt ∧ g1 (3 * p1.toNatClampNeg + w) = v4) ∨ ((0 ≤ e.1 ∧ e.1 ≤ 35) ∧ ∃ k, Pk (EP x0_lines.toNatClampNeg x0_line x0_changes x0_coins x0_left g1 g2) (fun u => u / 3 = p2.toNatClampNeg) (fun v => tb 0 v = true) k (e.1).toNatClampNeg))) (fun (e : Int32 × Int32 × (Nat → Int32)) => muDe e.2.1) (muDe z8) (fun e => AI 0 35 e.2 ∧ (0 ≤ e.1 ∧ e.1 ≤ 35) ∧ ∃ k, Pk (EP x0_lines.toNatClampNeg x0_line x0_changes x0_coins x0_left g1 g2) (fun u => u / 3 = p2.toNatClampNeg) (fun v => tb 0 v = true) k e.1.toNatClampNeg)) := by
  unfold fX7_findWay_s38
  obtain ⟨h8, h9, hd⟩ := hI
  refine Sf.ite (fun h => ?_) (fun h => ?_)
  · rcases hd with ⟨w, _, hl, _⟩ | hd
    · have a := Int32.lt_iff_toInt_lt.mp h
      have z0 : (0 : Int32).toInt = 0 := by decide
      rw [z0] at a
      omega
    · exact Sf.inr ⟨h9, hd.1, hd.2⟩
  have h80 : 0 ≤ z8 := Int32.not_lt.mp h
  have h83 : 0 ≤ z8 ∧ z8 < 3 := by grind
  obtain ⟨ix, nx⟩ := ix3 hp1 h83
  have lw : z8.toNatClampNeg < 3 := i32_lt (M := 3) rfl h83
  have lp1 := p_of hp1
  have nb : 0 ≤ 3 * p1 + z8 ∧ 3 * p1 + z8 ≤ 35 := by
    generalize 3 * p1 + z8 = y at ix
    grind
  have m8 : (-1) ≤ z8 + (-1) ∧ z8 + (-1) ≤ 2 := by grind
  have e8 : (z8 + (-1)).toInt = z8.toInt - 1 := by
    have a := i32_nn h80
    have zm : (-1 : Int32).toInt = -1 := by decide
    have b : z8.toInt < 2147483648 := Int32.toInt_lt z8
    rw [i32_add (by omega) (by omega), zm]
    omega
  have sk : g1 (3 * p1.toNatClampNeg + z8.toNatClampNeg) ≠ v4 → (∃ w : Nat, w < 3 ∧ (w : Int) ≤ z8.toInt ∧ g1 (3 * p1.toNatClampNeg + w) = v4) → (∃ w : Nat, w < 3 ∧ (w : Int) ≤ (z8 + (-1)).toInt ∧ g1 (3 * p1.toNatClampNeg + w) = v4) := by
    rintro hne ⟨w, h1, h2, h3⟩
    refine ⟨w, h1, ?_, h3⟩
    rw [e8]
    have a := i32_cl h80
    by_cases hx : w = z8.toNatClampNeg
    · subst hx; exact absurd h3 hne
    · omega
  refine Sf.rdb 36 rfl ix (fun v44 e44 => ?_)
  rw [nx] at e44
  refine Sf.ite (fun hq => ?_) (fun hq => ?_)
  · refine Sf.bind (sX7_canEnd hn h_x0_shelf h_x0_rowSize h_x0_tapeSize h_x0_lines h_x0_line h_x0_changes h_x0_coins h_x0_goods h_x0_good h_x0_works h_x0_work h_x0_years h_x0_from hg1 hw (by decide : (0 : Int32) ≤ 0 ∧ (0 : Int32) ≤ 37) h9 nb hp2) ?_
    rintro ⟨v45, g46⟩ hr
    obtain ⟨_, a46, h45⟩ : (0 ≤ v45 ∧ v45 ≤ 1) ∧ AI 0 35 g46 ∧ ((v45 = 1 ∧ ∃ k, Pk (EP x0_lines.toNatClampNeg x0_line x0_changes x0_coins x0_left g1 g2) (fun u => u / 3 = p2.toNatClampNeg) (fun v => tb 0 v = true) k (3 * p1 + z8).toNatClampNeg) ∨ (v45 = 0 ∧ ¬ ∃ k, Pk (EP x0_lines.toNatClampNeg x0_line x0_changes x0_coins x0_left g1 g2) (fun u => u / 3 = p2.toNatClampNeg) (fun v => tb 0 v = true) k (3 * p1 + z8).toNatClampNeg)) := hr
    have hp : ∃ k, Pk (EP x0_lines.toNatClampNeg x0_line x0_changes x0_coins x0_left g1 g2) (fun u => u / 3 = p2.toNatClampNeg) (fun v => tb 0 v = true) k (3 * p1 + z8).toNatClampNeg := by
      rw [nx]
      refine hway _ (by omega) ?_
      rw [← e44, hq]
      have := Int32.lt_iff_toInt_lt.mp hv4
      have zF : (1000000000 : Int32).toInt = 1000000000 := by decide
      rw [zF] at this
      exact this
    rcases h45 with h45 | h45
    · have n0 : ¬ v45 = 0 := by rw [h45.1]; decide
      exact Sf.ite (fun h0 => absurd h0 n0) (fun _ => Sf.inl ⟨m8, a46, Or.inr ⟨nb, hp⟩⟩ (muDe_lta h))
    · exact absurd hp h45.2
  · refine Sf.inl ⟨m8, h9, ?_⟩ (muDe_lta h)
    rcases hd with hd | hd
    · exact Or.inl (sk (fun hx => hq (e44.trans hx)) hd)
    · exact Or.inr hd
theorem sX7_findWay {n : Nat} {x0_shelf x0_rowSort x0_rowSize : (Nat → Int32)} {x0_rows : (Nat → Nat → Int64)} {x0_moved : (Nat → Int64)} {x0_shown x0_tape : (Nat → Int32)} {x0_tapeSize : Int32} {x0_refused : (Nat → Int32)} {x0_lines : Int32} {x0_line : (Nat → Nat → Int32)} {x0_changes x0_coins : (Nat → Int32)} {x0_goods : Int32} {x0_good : (Nat → Nat → Int32)} {x0_works : Int32} {x0_work : (Nat → Nat → Int32)} {x0_years x0_gone x0_spent x0_at x0_token x0_from : Int32} {x0_figures : Int64} {x0_fault : Int32} {x0_numbers : (Nat → Int32)} {x0_statements : Int32} {x0_left x0_far : (Nat → Int32)} {x0_tons : Int32} {x0_way : (Nat → Int32)} {x0_steps : Int32} {x0_met : Int64} {x0_queue x0_totals : (Nat → Int32)} {p1 p2 p3 : Int32} (hn : 1000000000000 ≤ n) (h_x0_shelf : (AI 0 2 x0_shelf)) (h_x0_rowSize : (AI 0 40 x0_rowSize)) (h_x0_tapeSize : (0 ≤ x0_tapeSize ∧ x0_tapeSize ≤ 250)) (h_x0_lines : (0 ≤ x0_lines ∧ x0_lines ≤ 20)) (h_x0_line : (LnM x0_line)) (h_x0_changes : (AI 0 99 x0_changes)) (h_x0_coins : (AI 0 9 x0_coins)) (h_x0_goods : (0 ≤ x0_goods ∧ x0_goods ≤ 8)) (h_x0_good : (GdM x0_good)) (h_x0_works : (0 ≤ x0_works ∧ x0_works ≤ 7)) (h_x0_work : (WkM x0_work)) (h_x0_years : (1 ≤ x0_years ∧ x0_years ≤ 30)) (h_x0_from : (0 ≤ x0_from ∧ x0_from ≤ 250)) (h_x0_far : (AI 0 1000000000 x0_far)) (h_x0_way : (AI 0 22 x0_way)) (h_x0_steps : (0 ≤ x0_steps ∧ x0_steps ≤ 37)) (h_x0_queue : (AI 0 35 x0_queue)) (h_p1 : (0 ≤ p1 ∧ p1 ≤ 11)) (h_p2 : (0 ≤ p2 ∧ p2 ≤ 11)) : Sf (fX7_findWay n (x0_shelf, x0_rowSort, x0_rowSize, x0_rows, x0_moved, x0_shown, x0_tape, x0_tapeSize, x0_refused, x0_lines, x0_line, x0_changes, x0_coins, x0_goods, x0_good, x0_works, x0_work, x0_years, x0_gone, x0_spent, x0_at, x0_token, x0_from, x0_figures, x0_fault, x0_numbers, x0_statements, x0_left, x0_far, x0_tons, x0_way, x0_steps, x0_met, x0_queue, x0_totals) p1 p2 p3) (fun r => (0 ≤ r.1 ∧ r.1 ≤ 1) ∧ (AI 0 1000000000 r.2.1) ∧ (AI 0 22 r.2.2.2.1) ∧ (0 ≤ r.2.2.2.2.1 ∧ r.2.2.2.2.1 ≤ 37) ∧ (AI 0 35 r.2.2.2.2.2.2)) := by
  unfold fX7_findWay
  dsimp only [u35]
  refine Sf.bind (farS hn h_x0_shelf h_x0_rowSize h_x0_tapeSize h_x0_lines h_x0_line h_x0_changes h_x0_coins h_x0_goods h_x0_good h_x0_works h_x0_work h_x0_years h_x0_from h_x0_far h_x0_way h_x0_steps h_x0_queue h_p2) ?_
  rintro ⟨g1, g2⟩ hr
  obtain ⟨a1, hAt, ⟨hO, hC⟩, eg⟩ : AI 0 1000000000 g1 ∧ At (Ed x0_lines.toNatClampNeg x0_line x0_changes x0_coins x0_left p3) (fun u => u / 3 = p2.toNatClampNeg) g1 ∧ ((∀ l : Nat, l < x0_lines.toNatClampNeg → ∀ w : Nat, w < 3 → OKl x0_line x0_coins x0_left p3 g1 l w) ∧ (∀ m : Nat, m < 36 → ∀ w : Nat, w < 3 → OKc x0_changes g1 m w)) ∧ g2 = p3 := hr
  subst eg
  dsimp only [u2]
  refine Sf.bind (s_least hn h_p1 a1) (fun v4 h4 => ?_)
  have b2 : AI 0 22 x0_way := h_x0_way
  refine Sf.ite (fun hlt => ?_) (fun hlt => Sf.ok ⟨(by decide : (0 : Int32) ≤ 0 ∧ (0 : Int32) ≤ 1), a1, h_x0_way, (by decide : (0 : Int32) ≤ 0 ∧ (0 : Int32) ≤ 37), h_x0_queue⟩)
  have lL : x0_lines.toNatClampNeg ≤ 20 := by
    have a := i32_cl h_x0_lines.1
    have b := Int32.le_iff_toInt_le.mp h_x0_lines.2
    have z20 : (20 : Int32).toInt = 20 := by decide
    rw [z20] at b
    omega
  have hway : ∀ u, u < 36 → (g1 u).toInt < 1000000000 → ∃ j, Pk (EP x0_lines.toNatClampNeg x0_line x0_changes x0_coins x0_left g1 g2) (fun u => u / 3 = p2.toNatClampNeg) (fun v => tb 0 v = true) j u := by
    intro u hu hf
    obtain ⟨j, hj⟩ := far_way lL h_x0_line h_x0_changes h_x0_coins a1 hAt hO hC hu hf
    refine ⟨j, Pk.congr (fun x hx => ?_) j u hj⟩
    rw [tb_zero] at hx
    cases hx
  have zF : (1000000000 : Int32).toInt = 1000000000 := by decide
  have ini : ((-1) ≤ (2 : Int32) ∧ (2 : Int32) ≤ 2) ∧ AI 0 35 x0_queue ∧ ((∃ w : Nat, w < 3 ∧ (w : Int) ≤ ((2 : Int32)).toInt ∧ g1 (3 * p1.toNatClampNeg + w) = v4) ∨ ((0 ≤ (-1 : Int32) ∧ (-1 : Int32) ≤ 35) ∧ ∃ k, Pk (EP x0_lines.toNatClampNeg x0_line x0_changes x0_coins x0_left g1 g2) (fun u => u / 3 = p2.toNatClampNeg) (fun v => tb 0 v = true) k ((-1 : Int32)).toNatClampNeg)) := by
    refine ⟨by decide, h_x0_queue, Or.inl ?_⟩
    rcases h4.2 with h | ⟨w, h1, h2⟩
    · rw [h] at hlt; exact absurd hlt (by decide)
    · have z2 : (2 : Int32).toInt = 2 := by decide
      exact ⟨w, h1, by rw [z2]; omega, h2⟩
  have st : ∀ (e : Int32 × Int32 × (Nat → Int32)), (((-1) ≤ e.2.1 ∧ e.2.1 ≤ 2) ∧ AI 0 35 e.2.2 ∧ ((∃ w : Nat, w < 3 ∧ (w : Int) ≤ (e.2.1).toInt ∧ g1 (3 * p1.toNatClampNeg + w) = v4) ∨ ((0 ≤ e.1 ∧ e.1 ≤ 35) ∧ ∃ k, Pk (EP x0_lines.toNatClampNeg x0_line x0_changes x0_coins x0_left g1 g2) (fun u => u / 3 = p2.toNatClampNeg) (fun v => tb 0 v = true) k (e.1).toNatClampNeg))) → Sf (u3 (fX7_findWay_s38 n p1 p2 x0_shelf x0_rowSort x0_rowSize x0_rows x0_moved x0_shown x0_tape x0_tapeSize x0_refused x0_lines x0_line x0_changes x0_coins x0_goods x0_good x0_works x0_work x0_years x0_gone x0_spent x0_at x0_token x0_from x0_figures x0_fault x0_numbers x0_statements x0_left x0_way x0_totals g1 g2 v4) e) (LQ (fun (e : Int32 × Int32 × (Nat → Int32)) => ((-1) ≤ e.2.1 ∧ e.2.1 ≤ 2) ∧ AI 0 35 e.2.2 ∧ ((∃ w : Nat, w < 3 ∧ (w : Int) ≤ (e.2.1).toInt ∧ g1 (3 * p1.toNatClampNeg + w) = v4) ∨ ((0 ≤ e.1 ∧ e.1 ≤ 35) ∧ ∃ k, Pk (EP x0_lines.toNatClampNeg x0_line x0_changes x0_coins x0_left g1 g2) (fun u => u / 3 = p2.toNatClampNeg) (fun v => tb 0 v = true) k (e.1).toNatClampNeg))) (fun (e : Int32 × Int32 × (Nat → Int32)) => muDe e.2.1) (muDe e.2.1) (fun e => AI 0 35 e.2 ∧ (0 ≤ e.1 ∧ e.1 ≤ 35) ∧ ∃ k, Pk (EP x0_lines.toNatClampNeg x0_line x0_changes x0_coins x0_left g1 g2) (fun u => u / 3 = p2.toNatClampNeg) (fun v => tb 0 v = true) k e.1.toNatClampNeg)) := fun e h => by
    rw [u3_def]
    exact T_s38 hn h_x0_shelf h_x0_rowSize h_x0_tapeSize h_x0_lines h_x0_line h_x0_changes h_x0_coins h_x0_goods h_x0_good h_x0_works h_x0_work h_x0_years h_x0_from a1 h_x0_way h_p1 h_p2 hlt hway h
  have lo : Sf (lp (u3 (fX7_findWay_s38 n p1 p2 x0_shelf x0_rowSort x0_rowSize x0_rows x0_moved x0_shown x0_tape x0_tapeSize x0_refused x0_lines x0_line x0_changes x0_coins x0_goods x0_good x0_works x0_work x0_years x0_gone x0_spent x0_at x0_token x0_from x0_figures x0_fault x0_numbers x0_statements x0_left x0_way x0_totals g1 g2 v4)) n ((-1), 2, x0_queue)) (fun e => AI 0 35 e.2 ∧ (0 ≤ e.1 ∧ e.1 ≤ 35) ∧ ∃ k, Pk (EP x0_lines.toNatClampNeg x0_line x0_changes x0_coins x0_left g1 g2) (fun u => u / 3 = p2.toNatClampNeg) (fun v => tb 0 v = true) k e.1.toNatClampNeg) := Sf.loop _ _ st n _ ini (muDe_n hn)
  refine Sf.bind lo ?_
  rintro ⟨w11, w12⟩ hr
  obtain ⟨a12, b11, k, hk⟩ : AI 0 35 w12 ∧ (0 ≤ w11 ∧ w11 ≤ 35) ∧ ∃ k, Pk (EP x0_lines.toNatClampNeg x0_line x0_changes x0_coins x0_left g1 g2) (fun u => u / 3 = p2.toNatClampNeg) (fun v => tb 0 v = true) k w11.toNatClampNeg := hr
  dsimp only [u2]
  have m11 := md3 b11
  have d11 : 0 ≤ w11 - w11 / 3 * 3 ∧ w11 - w11 / 3 * 3 ≤ 22 := by
    generalize w11 - w11 / 3 * 3 = y at m11
    grind
  refine Sf.wrI 37 rfl h_x0_way (by decide) d11 (fun f13 a13 e13 => ?_)
  refine Sf.someb (fun t14 e14 => ?_)
  have t0 : tb 0 w11.toNatClampNeg = false := tb_zero _
  have c1 := cnt_set (s := 0) b11 t0
  have ini2 : (0 ≤ w11 ∧ w11 ≤ 35) ∧ AI 0 22 f13 ∧ (0 ≤ (0 + 1 : Int32) ∧ (0 + 1 : Int32) ≤ 36 ∧ (0 + 1 : Int32).toNatClampNeg ≤ cnt t14) ∧ tb t14 w11.toNatClampNeg = true ∧ AI 0 35 w12 ∧ ∃ k, Pk (EP x0_lines.toNatClampNeg x0_line x0_changes x0_coins x0_left g1 g2) (fun u => u / 3 = p2.toNatClampNeg) (fun v => tb t14 v = true ∧ v ≠ w11.toNatClampNeg) k w11.toNatClampNeg := by
    subst e14
    refine ⟨b11, a13, ⟨by decide, by decide, ?_⟩, ?_, a12, k, ?_⟩
    · have : (0 + 1 : Int32).toNatClampNeg = 1 := rfl
      rw [this]
      omega
    · rw [tb_setA b11]; simp
    · refine Pk.congr (fun x hx => ?_) k _ hk
      obtain ⟨h1, h2⟩ := hx
      rw [tb_setA b11] at h1
      simpa [h2] using h1
  have st2 : ∀ (z16 : Int32) (z17 : Nat → Int32) (z18 : Int32) (z19 : Int64) (z20 : Nat → Int32), ((0 ≤ z16 ∧ z16 ≤ 35) ∧ AI 0 22 z17 ∧ (0 ≤ z18 ∧ z18 ≤ 36 ∧ z18.toNatClampNeg ≤ cnt z19) ∧ tb z19 z16.toNatClampNeg = true ∧ AI 0 35 z20 ∧ ∃ k, Pk (EP x0_lines.toNatClampNeg x0_line x0_changes x0_coins x0_left g1 g2) (fun u => u / 3 = p2.toNatClampNeg) (fun v => tb z19 v = true ∧ v ≠ z16.toNatClampNeg) k z16.toNatClampNeg) → Sf (fX7_findWay_s125 n p2 x0_shelf x0_rowSort x0_rowSize x0_rows x0_moved x0_shown x0_tape x0_tapeSize x0_refused x0_lines x0_line x0_changes x0_coins x0_goods x0_good x0_works x0_work x0_years x0_gone x0_spent x0_at x0_token x0_from x0_figures x0_fault x0_numbers x0_statements x0_left x0_totals g1 g2 z16 z17 z18 z19 z20) (LQ (u5 (fun (z16 : Int32) (z17 : Nat → Int32) (z18 : Int32) (z19 : Int64) (z20 : Nat → Int32) => (0 ≤ z16 ∧ z16 ≤ 35) ∧ AI 0 22 z17 ∧ (0 ≤ z18 ∧ z18 ≤ 36 ∧ z18.toNatClampNeg ≤ cnt z19) ∧ tb z19 z16.toNatClampNeg = true ∧ AI 0 35 z20 ∧ ∃ k, Pk (EP x0_lines.toNatClampNeg x0_line x0_changes x0_coins x0_left g1 g2) (fun u => u / 3 = p2.toNatClampNeg) (fun v => tb z19 v = true ∧ v ≠ z16.toNatClampNeg) k z16.toNatClampNeg)) (u5 (fun (z16 : Int32) (z17 : Nat → Int32) (z18 : Int32) (z19 : Int64) (z20 : Nat → Int32) => 36 - cnt z19)) (36 - cnt z19) (fun e => AI 0 22 e.1 ∧ (0 ≤ e.2.1 ∧ e.2.1 ≤ 37) ∧ AI 0 35 e.2.2.2)) := fun z16 z17 z18 z19 z20 h => T_s125 hn h_x0_shelf h_x0_rowSize h_x0_tapeSize h_x0_lines h_x0_line h_x0_changes h_x0_coins h_x0_goods h_x0_good h_x0_works h_x0_work h_x0_years h_x0_from a1 h_p2 h
  have lo2 : Sf (lp (u5 (fX7_findWay_s125 n p2 x0_shelf x0_rowSort x0_rowSize x0_rows x0_moved x0_shown x0_tape x0_tapeSize x0_refused x0_lines x0_line x0_changes x0_coins x0_goods x0_good x0_works x0_work x0_years x0_gone x0_spent x0_at x0_token x0_from x0_figures x0_fault x0_numbers x0_statements x0_left x0_totals g1 g2)) n (w11, f13, 0 + 1, t14, w12)) (fun e => AI 0 22 e.1 ∧ (0 ≤ e.2.1 ∧ e.2.1 ≤ 37) ∧ AI 0 35 e.2.2.2) := Sf.loop5 _ _ st2 ini2 (show 36 - cnt t14 < n by omega)
  refine Sf.bind lo2 ?_
  rintro ⟨w22, w23, w24, w25⟩ hr
  obtain ⟨a22, b23, a25⟩ : AI 0 22 w22 ∧ (0 ≤ w23 ∧ w23 ≤ 37) ∧ AI 0 35 w25 := hr
  exact Sf.ok ⟨(by decide : (0 : Int32) ≤ 1 ∧ (1 : Int32) ≤ 1), a1, a22, b23, a25⟩

def wkC : Nat → Int32 := fun k => ([5, 99, 99, 9999, 1] : List Int32).getD k 0
theorem wkC_le : ∀ k : Nat, wkB k ≤ wkC k := by
  intro k
  match k with
  | 0 => decide
  | 1 => decide
  | 2 => decide
  | 3 => decide
  | 4 => decide
  | k + 5 => exact Int32.le_refl _
theorem wkC_of {f : Nat → Int32} (h : RI wkB f) : RI wkC f := fun c => ⟨(h c).1, Int32.le_trans (h c).2 (wkC_le c)⟩
theorem s_in64 {a b c : Int64} : Sf (fX7_in a b c) (fun r => (r = 1 ∧ b ≤ a ∧ a ≤ c) ∨ (r = 0 ∧ (a < b ∨ c < a))) := by
  unfold fX7_in
  simp only [lgc_lt, lgc_gt]
  refine Sf.ite (fun h => Sf.ok (Or.inr ⟨rfl, Or.inl h⟩)) (fun h => Sf.ite (fun h2 => Sf.ok (Or.inr ⟨rfl, Or.inr h2⟩)) (fun h2 => Sf.ok (Or.inl ⟨rfl, Int64.not_lt.mp h, Int64.not_lt.mp h2⟩)))
theorem i64_rng {x : Int64} {a b : Int32} (h0 : a.toInt64 ≤ x) (h1 : x ≤ b.toInt64) : a ≤ x.toInt32 ∧ x.toInt32 ≤ b := by
  have p := Int64.le_iff_toInt_le.mp h0
  have q := Int64.le_iff_toInt_le.mp h1
  rw [Int32.toInt_toInt64] at p q
  have hb : b.toInt < 2147483648 := Int32.toInt_lt b
  have ha : -2147483648 ≤ a.toInt := Int32.le_toInt a
  have e : x.toInt32.toInt = x.toInt := by
    rw [Int64.toInt_toInt32]
    exact bm (by omega) (by omega)
  exact ⟨Int32.le_iff_toInt_le.mpr (by rw [e]; exact p), Int32.le_iff_toInt_le.mpr (by rw [e]; exact q)⟩
theorem sX7_number {n : Nat} {x0_shelf x0_rowSort x0_rowSize : (Nat → Int32)} {x0_rows : (Nat → Nat → Int64)} {x0_moved : (Nat → Int64)} {x0_shown x0_tape : (Nat → Int32)} {x0_tapeSize : Int32} {x0_refused : (Nat → Int32)} {x0_lines : Int32} {x0_line : (Nat → Nat → Int32)} {x0_changes x0_coins : (Nat → Int32)} {x0_goods : Int32} {x0_good : (Nat → Nat → Int32)} {x0_works : Int32} {x0_work : (Nat → Nat → Int32)} {x0_years x0_gone x0_spent x0_at x0_token x0_from : Int32} {x0_figures : Int64} {x0_fault : Int32} {x0_numbers : (Nat → Int32)} {x0_statements : Int32} {x0_left x0_far : (Nat → Int32)} {x0_tons : Int32} {x0_way : (Nat → Int32)} {x0_steps : Int32} {x0_met : Int64} {x0_queue x0_totals : (Nat → Int32)} {m1 : Nat} {p1 : (Nat → Int32)} {p2 p3 p4 : Int32} (hn : 1000000000000 ≤ n) {M : Int32} {B : Nat → Int32} (h_x0_shelf : (AI 0 2 x0_shelf)) (h_x0_rowSize : (AI 0 40 x0_rowSize)) (h_x0_tapeSize : (0 ≤ x0_tapeSize ∧ x0_tapeSize ≤ 250)) (h_x0_lines : (0 ≤ x0_lines ∧ x0_lines ≤ 20)) (h_x0_line : (LnM x0_line)) (h_x0_changes : (AI 0 99 x0_changes)) (h_x0_coins : (AI 0 9 x0_coins)) (h_x0_goods : (0 ≤ x0_goods ∧ x0_goods ≤ 8)) (h_x0_good : (GdM x0_good)) (h_x0_works : (0 ≤ x0_works ∧ x0_works ≤ 7)) (h_x0_work : (WkM x0_work)) (h_x0_years : (1 ≤ x0_years ∧ x0_years ≤ 30)) (h_x0_at : (0 ≤ x0_at)) (h_x0_from : (0 ≤ x0_from ∧ x0_from ≤ 250)) (h_x0_far : (AI 0 1000000000 x0_far)) (h_x0_way : (AI 0 22 x0_way)) (h_x0_steps : (0 ≤ x0_steps ∧ x0_steps ≤ 37)) (h_x0_queue : (AI 0 35 x0_queue)) (h_p1 : (RI B p1)) (he_0 : M.toInt = (m1 : Int)) (he_1 : 0 ≤ p2 ∧ p2 < M) (he_2 : 0 ≤ p3 ∧ p4 ≤ B p2.toNatClampNeg) (he_3 : x0_at ≤ x0_tapeSize) : Sf (fX7_number n (x0_shelf, x0_rowSort, x0_rowSize, x0_rows, x0_moved, x0_shown, x0_tape, x0_tapeSize, x0_refused, x0_lines, x0_line, x0_changes, x0_coins, x0_goods, x0_good, x0_works, x0_work, x0_years, x0_gone, x0_spent, x0_at, x0_token, x0_from, x0_figures, x0_fault, x0_numbers, x0_statements, x0_left, x0_far, x0_tons, x0_way, x0_steps, x0_met, x0_queue, x0_totals) m1 p1 p2 p3 p4) (fun r => (0 ≤ r.2.1.2.2.1 ∧ r.2.1.2.2.1 ≤ 250) ∧ (RI B r.2.2) ∧ ((r.1 = 0 ∨ r.1 = 1) ∧ (0 ≤ r.2.1.1 ∧ r.2.1.1 ≤ x0_tapeSize) ∧ x0_at ≤ r.2.1.1 ∧ (r.1 = 0 ∨ r.2.1.2.1 ≠ 3 ∨ x0_at < r.2.1.1) ∧ (r.1 = 0 ∨ r.2.2 = va_up p1 (p2 : Int32).toNatClampNeg x0_figures.toInt32) ∧ (r.1 = 1 ∨ x0_token ≠ 2 ∨ x0_figures < (p3 : Int32).toInt64 ∨ (p4 : Int32).toInt64 < x0_figures))) := by
  unfold fX7_number
  dsimp only [u35]
  have bad : ∀ v : Int32, v = 0 → (x0_token ≠ 2 ∨ x0_figures < p3.toInt64 ∨ p4.toInt64 < x0_figures) → Sf ((zb v).bind fun v16 => some (v16, (x0_at, x0_token, x0_from, x0_figures, x0_from), p1)) (fun r => (0 ≤ r.2.1.2.2.1 ∧ r.2.1.2.2.1 ≤ 250) ∧ (RI B r.2.2) ∧ ((r.1 = 0 ∨ r.1 = 1) ∧ (0 ≤ r.2.1.1 ∧ r.2.1.1 ≤ x0_tapeSize) ∧ x0_at ≤ r.2.1.1 ∧ (r.1 = 0 ∨ r.2.1.2.1 ≠ 3 ∨ x0_at < r.2.1.1) ∧ (r.1 = 0 ∨ r.2.2 = va_up p1 p2.toNatClampNeg x0_figures.toInt32) ∧ (r.1 = 1 ∨ x0_token ≠ 2 ∨ x0_figures < p3.toInt64 ∨ p4.toInt64 < x0_figures))) := by
    intro v hv hq
    refine Sf.zbb (Or.inl hv) (fun r hr => ?_)
    subst hr
    exact Sf.ok ⟨h_x0_from, h_p1, Or.inl hv, ⟨h_x0_at, he_3⟩, Int32.le_refl _, Or.inl hv, Or.inl hv, Or.inr hq⟩
  refine Sf.ite (fun ht => ?_) (fun ht => ?_)
  · refine Sf.bind s_in64 (fun v5 h5 => ?_)
    refine Sf.ite (fun h0 => ?_) (fun h0 => ?_)
    · unfold fX7_wrong
      dsimp only [u35]
      refine bad 0 rfl (Or.inr ?_)
      rcases h5 with h5 | h5
      · rw [h0] at h5; exact absurd h5.1 (by decide)
      · exact h5.2
    · have h6 : p3.toInt64 ≤ x0_figures ∧ x0_figures ≤ p4.toInt64 := by
        rcases h5 with h5 | h5
        · exact h5.2
        · exact absurd h5.1 h0
      have h7 := i64_rng h6.1 h6.2
      refine Sf.wrb M he_0 he_1 (fun f7 e7 => ?_)
      have hf7 : RI B f7 := by
        rw [e7]
        exact RI.up h_p1 ⟨Int32.le_trans he_2.1 h7.1, Int32.le_trans h7.2 he_2.2⟩
      refine Sf.bind (sX7_look hn h_x0_shelf h_x0_rowSize h_x0_tapeSize h_x0_lines h_x0_line h_x0_changes h_x0_coins h_x0_goods h_x0_good h_x0_works h_x0_work h_x0_years h_x0_at h_x0_from h_x0_far h_x0_way h_x0_steps h_x0_queue he_3) ?_
      rintro ⟨g8, g9, g10, g11⟩ hr
      obtain ⟨hg10, hg8⟩ : (0 ≤ g10 ∧ g10 ≤ 250) ∧ ((0 ≤ g8 ∧ g8 ≤ x0_tapeSize) ∧ x0_at ≤ g8 ∧ (g9 ≠ 3 ∨ x0_at < g8)) := hr
      exact Sf.ok ⟨hg10, hf7, Or.inr rfl, hg8.1, hg8.2.1, Or.inr hg8.2.2, Or.inr e7, Or.inl rfl⟩
  · unfold fX7_wrong
    dsimp only [u35]
    exact bad 0 rfl (Or.inl ht)
set_option maxHeartbeats 1000000 in
theorem sX7_told {n : Nat} {x0_shelf x0_rowSort x0_rowSize : (Nat → Int32)} {x0_rows : (Nat → Nat → Int64)} {x0_moved : (Nat → Int64)} {x0_shown x0_tape : (Nat → Int32)} {x0_tapeSize : Int32} {x0_refused : (Nat → Int32)} {x0_lines : Int32} {x0_line : (Nat → Nat → Int32)} {x0_changes x0_coins : (Nat → Int32)} {x0_goods : Int32} {x0_good : (Nat → Nat → Int32)} {x0_works : Int32} {x0_work : (Nat → Nat → Int32)} {x0_years x0_gone x0_spent x0_at x0_token x0_from : Int32} {x0_figures : Int64} {x0_fault : Int32} {x0_numbers : (Nat → Int32)} {x0_statements : Int32} {x0_left x0_far : (Nat → Int32)} {x0_tons : Int32} {x0_way : (Nat → Int32)} {x0_steps : Int32} {x0_met : Int64} {x0_queue x0_totals : (Nat → Int32)} {p1 m2 : Nat} {p2 : (Nat → Int32)} {p3 p4 p5 : Int32} (hn : 1000000000000 ≤ n) {M : Int32} {B : Nat → Int32} (h_x0_shelf : (AI 0 2 x0_shelf)) (h_x0_rowSize : (AI 0 40 x0_rowSize)) (h_x0_tapeSize : (0 ≤ x0_tapeSize ∧ x0_tapeSize ≤ 250)) (h_x0_lines : (0 ≤ x0_lines ∧ x0_lines ≤ 20)) (h_x0_line : (LnM x0_line)) (h_x0_changes : (AI 0 99 x0_changes)) (h_x0_coins : (AI 0 9 x0_coins)) (h_x0_goods : (0 ≤ x0_goods ∧ x0_goods ≤ 8)) (h_x0_good : (GdM x0_good)) (h_x0_works : (0 ≤ x0_works ∧ x0_works ≤ 7)) (h_x0_work : (WkM x0_work)) (h_x0_years : (1 ≤ x0_years ∧ x0_years ≤ 30)) (h_x0_at : (0 ≤ x0_at)) (h_x0_from : (0 ≤ x0_from ∧ x0_from ≤ 250)) (h_x0_far : (AI 0 1000000000 x0_far)) (h_x0_way : (AI 0 22 x0_way)) (h_x0_steps : (0 ≤ x0_steps ∧ x0_steps ≤ 37)) (h_x0_queue : (AI 0 35 x0_queue)) (h_p2 : (RI B p2)) (he_0 : M.toInt = (m2 : Int)) (he_1 : 0 ≤ p3 ∧ p3 < M) (he_2 : 0 ≤ p4 ∧ p5 ≤ B p3.toNatClampNeg) (he_3 : x0_at ≤ x0_tapeSize) (he_4 : p1 < 20) : Sf (fX7_told n (x0_shelf, x0_rowSort, x0_rowSize, x0_rows, x0_moved, x0_shown, x0_tape, x0_tapeSize, x0_refused, x0_lines, x0_line, x0_changes, x0_coins, x0_goods, x0_good, x0_works, x0_work, x0_years, x0_gone, x0_spent, x0_at, x0_token, x0_from, x0_figures, x0_fault, x0_numbers, x0_statements, x0_left, x0_far, x0_tons, x0_way, x0_steps, x0_met, x0_queue, x0_totals) p1 m2 p2 p3 p4 p5) (fun r => (0 ≤ r.2.1.2.2.1 ∧ r.2.1.2.2.1 ≤ 250) ∧ (RI B r.2.2) ∧ ((r.1 = 0 ∨ r.1 = 1) ∧ (0 ≤ r.2.1.1 ∧ r.2.1.1 ≤ x0_tapeSize) ∧ x0_at ≤ r.2.1.1 ∧ (r.1 = 0 ∨ r.2.1.2.1 ≠ 3 ∨ x0_at < r.2.1.1) ∧ (r.1 = 0 ∨ x0_token = 1))) := by
  unfold fX7_told
  dsimp only [u35]
  refine Sf.bind (sX7_isWord hn (by grind) h_x0_from (by first | assumption | decide)) ?_
  intro v1 hr1
  obtain ⟨h_v1, hx_v1⟩ : (0 ≤ v1 ∧ v1 ≤ 1) ∧ (v1 = 0 ∨ x0_token = 1) := hr1
  refine Sf.ite (fun hc2 => ?_) (fun hc2 => ?_)
  · refine Sf.bind (sX7_wrong h_x0_shelf h_x0_rowSize h_x0_tapeSize h_x0_lines h_x0_line h_x0_changes h_x0_coins h_x0_goods h_x0_good h_x0_works h_x0_work h_x0_years h_x0_from h_x0_far h_x0_way h_x0_steps h_x0_queue) ?_
    rintro ⟨v18, g19⟩ hr3
    have h_v18 : (0 ≤ v18 ∧ v18 ≤ 0) := hr3
    dsimp only [u2]
    refine Sf.zbb (by grind) (fun v21 e_v21 => ?_)
    exact Sf.ok (show (0 ≤ x0_from ∧ x0_from ≤ 250) ∧ (RI B p2) ∧ ((v21 = 0 ∨ v21 = 1) ∧ (0 ≤ x0_at ∧ x0_at ≤ x0_tapeSize) ∧ x0_at ≤ x0_at ∧ (v21 = 0 ∨ x0_token ≠ 3 ∨ x0_at < x0_at) ∧ (v21 = 0 ∨ x0_token = 1)) from ⟨h_x0_from, h_p2, (by grind)⟩)
  · refine Sf.bind (sX7_look hn h_x0_shelf h_x0_rowSize h_x0_tapeSize h_x0_lines h_x0_line h_x0_changes h_x0_coins h_x0_goods h_x0_good h_x0_works h_x0_work h_x0_years h_x0_at h_x0_from h_x0_far h_x0_way h_x0_steps h_x0_queue (by grind)) ?_
    rintro ⟨g3, g4, g5, g6⟩ hr4
    obtain ⟨h_g5, hx_g3⟩ : (0 ≤ g5 ∧ g5 ≤ 250) ∧ ((0 ≤ g3 ∧ g3 ≤ x0_tapeSize) ∧ x0_at ≤ g3 ∧ (g4 ≠ 3 ∨ x0_at < g3)) := hr4
    dsimp only [u4]
    refine Sf.bind (sX7_number (M := M) (B := B) hn h_x0_shelf h_x0_rowSize h_x0_tapeSize h_x0_lines h_x0_line h_x0_changes h_x0_coins h_x0_goods h_x0_good h_x0_works h_x0_work h_x0_years (by grind) h_g5 h_x0_far h_x0_way h_x0_steps h_x0_queue h_p2 (by first | assumption | rfl | decide | grind) (by first | assumption | rfl | decide | grind) (by first | assumption | rfl | decide | grind) (by first | assumption | rfl | decide | grind)) ?_
    rintro ⟨v8, ⟨g10, g11, g12, g13, g14⟩, g15⟩ hr5
    obtain ⟨h_g12, h_g15, hx_v8⟩ : (0 ≤ g12 ∧ g12 ≤ 250) ∧ (RI B g15) ∧ ((v8 = 0 ∨ v8 = 1) ∧ (0 ≤ g10 ∧ g10 ≤ x0_tapeSize) ∧ g3 ≤ g10 ∧ (v8 = 0 ∨ g11 ≠ 3 ∨ g3 < g10) ∧ (v8 = 0 ∨ g15 = va_up p2 (p3 : Int32).toNatClampNeg g6.toInt32) ∧ (v8 = 1 ∨ g4 ≠ 2 ∨ g6 < (p4 : Int32).toInt64 ∨ (p5 : Int32).toInt64 < g6)) := hr5
    dsimp only [u3, u5]
    refine Sf.zbb (by grind) (fun v17 e_v17 => ?_)
    exact Sf.ok (show (0 ≤ g12 ∧ g12 ≤ 250) ∧ (RI B g15) ∧ ((v17 = 0 ∨ v17 = 1) ∧ (0 ≤ g10 ∧ g10 ≤ x0_tapeSize) ∧ x0_at ≤ g10 ∧ (v17 = 0 ∨ g11 ≠ 3 ∨ x0_at < g10) ∧ (v17 = 0 ∨ x0_token = 1)) from ⟨h_g12, h_g15, (by grind)⟩)
set_option maxHeartbeats 1000000 in
theorem sX7_perhaps {n : Nat} {x0_shelf x0_rowSort x0_rowSize : (Nat → Int32)} {x0_rows : (Nat → Nat → Int64)} {x0_moved : (Nat → Int64)} {x0_shown x0_tape : (Nat → Int32)} {x0_tapeSize : Int32} {x0_refused : (Nat → Int32)} {x0_lines : Int32} {x0_line : (Nat → Nat → Int32)} {x0_changes x0_coins : (Nat → Int32)} {x0_goods : Int32} {x0_good : (Nat → Nat → Int32)} {x0_works : Int32} {x0_work : (Nat → Nat → Int32)} {x0_years x0_gone x0_spent x0_at x0_token x0_from : Int32} {x0_figures : Int64} {x0_fault : Int32} {x0_numbers : (Nat → Int32)} {x0_statements : Int32} {x0_left x0_far : (Nat → Int32)} {x0_tons : Int32} {x0_way : (Nat → Int32)} {x0_steps : Int32} {x0_met : Int64} {x0_queue x0_totals : (Nat → Int32)} {p1 m2 : Nat} {p2 : (Nat → Int32)} {p3 p4 p5 : Int32} (hn : 1000000000000 ≤ n) {M : Int32} {B : Nat → Int32} (h_x0_shelf : (AI 0 2 x0_shelf)) (h_x0_rowSize : (AI 0 40 x0_rowSize)) (h_x0_tapeSize : (0 ≤ x0_tapeSize ∧ x0_tapeSize ≤ 250)) (h_x0_lines : (0 ≤ x0_lines ∧ x0_lines ≤ 20)) (h_x0_line : (LnM x0_line)) (h_x0_changes : (AI 0 99 x0_changes)) (h_x0_coins : (AI 0 9 x0_coins)) (h_x0_goods : (0 ≤ x0_goods ∧ x0_goods ≤ 8)) (h_x0_good : (GdM x0_good)) (h_x0_works : (0 ≤ x0_works ∧ x0_works ≤ 7)) (h_x0_work : (WkM x0_work)) (h_x0_years : (1 ≤ x0_years ∧ x0_years ≤ 30)) (h_x0_at : (0 ≤ x0_at)) (h_x0_from : (0 ≤ x0_from ∧ x0_from ≤ 250)) (h_x0_far : (AI 0 1000000000 x0_far)) (h_x0_way : (AI 0 22 x0_way)) (h_x0_steps : (0 ≤ x0_steps ∧ x0_steps ≤ 37)) (h_x0_queue : (AI 0 35 x0_queue)) (h_p2 : (RI B p2)) (he_0 : M.toInt = (m2 : Int)) (he_1 : 0 ≤ p3 ∧ p3 < M) (he_2 : 0 ≤ p4 ∧ p5 ≤ B p3.toNatClampNeg) (he_3 : x0_at ≤ x0_tapeSize) (he_4 : p1 < 20) : Sf (fX7_perhaps n (x0_shelf, x0_rowSort, x0_rowSize, x0_rows, x0_moved, x0_shown, x0_tape, x0_tapeSize, x0_refused, x0_lines, x0_line, x0_changes, x0_coins, x0_goods, x0_good, x0_works, x0_work, x0_years, x0_gone, x0_spent, x0_at, x0_token, x0_from, x0_figures, x0_fault, x0_numbers, x0_statements, x0_left, x0_far, x0_tons, x0_way, x0_steps, x0_met, x0_queue, x0_totals) p1 m2 p2 p3 p4 p5) (fun r => (0 ≤ r.2.1.2.2.1 ∧ r.2.1.2.2.1 ≤ 250) ∧ (RI B r.2.2) ∧ ((r.1 = 0 ∨ r.1 = 1) ∧ (0 ≤ r.2.1.1 ∧ r.2.1.1 ≤ x0_tapeSize) ∧ x0_at ≤ r.2.1.1 ∧ (r.1 = 0 ∨ (r.2.1.1 = x0_at ∧ r.2.1.2.1 = x0_token) ∨ r.2.1.2.1 ≠ 3 ∨ x0_at < r.2.1.1))) := by
  unfold fX7_perhaps
  dsimp only [u35]
  refine Sf.bind (sX7_isWord hn (by grind) h_x0_from (by first | assumption | decide)) ?_
  intro v1 hr1
  obtain ⟨h_v1, hx_v1⟩ : (0 ≤ v1 ∧ v1 ≤ 1) ∧ (v1 = 0 ∨ x0_token = 1) := hr1
  refine Sf.ite (fun hc2 => ?_) (fun hc2 => ?_)
  · exact Sf.ok (show (0 ≤ x0_from ∧ x0_from ≤ 250) ∧ (RI B p2) ∧ ((1 = 0 ∨ 1 = 1) ∧ (0 ≤ x0_at ∧ x0_at ≤ x0_tapeSize) ∧ x0_at ≤ x0_at ∧ (1 = 0 ∨ (x0_at = x0_at ∧ x0_token = x0_token) ∨ x0_token ≠ 3 ∨ x0_at < x0_at)) from ⟨h_x0_from, h_p2, (by grind)⟩)
  · refine Sf.bind (sX7_told (M := M) (B := B) hn h_x0_shelf h_x0_rowSize h_x0_tapeSize h_x0_lines h_x0_line h_x0_changes h_x0_coins h_x0_goods h_x0_good h_x0_works h_x0_work h_x0_years h_x0_at h_x0_from h_x0_far h_x0_way h_x0_steps h_x0_queue h_p2 (by first | assumption | rfl | decide | grind) (by first | assumption | rfl | decide | grind) (by first | assumption | rfl | decide | grind) (by first | assumption | rfl | decide | grind) (by first | assumption | rfl | decide | grind)) ?_
    rintro ⟨v3, ⟨g5, g6, g7, g8, g9⟩, g10⟩ hr3
    obtain ⟨h_g7, h_g10, hx_v3⟩ : (0 ≤ g7 ∧ g7 ≤ 250) ∧ (RI B g10) ∧ ((v3 = 0 ∨ v3 = 1) ∧ (0 ≤ g5 ∧ g5 ≤ x0_tapeSize) ∧ x0_at ≤ g5 ∧ (v3 = 0 ∨ g6 ≠ 3 ∨ x0_at < g5) ∧ (v3 = 0 ∨ x0_token = 1)) := hr3
    dsimp only [u3, u5]
    refine Sf.ite (fun hc4 => ?_) (fun hc4 => ?_)
    · exact Sf.ok (show (0 ≤ g7 ∧ g7 ≤ 250) ∧ (RI B g10) ∧ ((0 = 0 ∨ 0 = 1) ∧ (0 ≤ g5 ∧ g5 ≤ x0_tapeSize) ∧ x0_at ≤ g5 ∧ (0 = 0 ∨ (g5 = x0_at ∧ g6 = x0_token) ∨ g6 ≠ 3 ∨ x0_at < g5)) from ⟨h_g7, h_g10, (by grind)⟩)
    · exact Sf.ok (show (0 ≤ g7 ∧ g7 ≤ 250) ∧ (RI B g10) ∧ ((1 = 0 ∨ 1 = 1) ∧ (0 ≤ g5 ∧ g5 ≤ x0_tapeSize) ∧ x0_at ≤ g5 ∧ (1 = 0 ∨ (g5 = x0_at ∧ g6 = x0_token) ∨ g6 ≠ 3 ∨ x0_at < g5)) from ⟨h_g7, h_g10, (by grind)⟩)
set_option maxHeartbeats 1000000 in
theorem sX7_two {n : Nat} {x0_shelf x0_rowSort x0_rowSize : (Nat → Int32)} {x0_rows : (Nat → Nat → Int64)} {x0_moved : (Nat → Int64)} {x0_shown x0_tape : (Nat → Int32)} {x0_tapeSize : Int32} {x0_refused : (Nat → Int32)} {x0_lines : Int32} {x0_line : (Nat → Nat → Int32)} {x0_changes x0_coins : (Nat → Int32)} {x0_goods : Int32} {x0_good : (Nat → Nat → Int32)} {x0_works : Int32} {x0_work : (Nat → Nat → Int32)} {x0_years x0_gone x0_spent x0_at x0_token x0_from : Int32} {x0_figures : Int64} {x0_fault : Int32} {x0_numbers : (Nat → Int32)} {x0_statements : Int32} {x0_left x0_far : (Nat → Int32)} {x0_tons : Int32} {x0_way : (Nat → Int32)} {x0_steps : Int32} {x0_met : Int64} {x0_queue x0_totals : (Nat → Int32)} {m1 : Nat} {p1 : (Nat → Int32)} (hn : 1000000000000 ≤ n) {M : Int32} {B : Nat → Int32} (h_x0_shelf : (AI 0 2 x0_shelf)) (h_x0_rowSize : (AI 0 40 x0_rowSize)) (h_x0_tapeSize : (0 ≤ x0_tapeSize ∧ x0_tapeSize ≤ 250)) (h_x0_lines : (0 ≤ x0_lines ∧ x0_lines ≤ 20)) (h_x0_line : (LnM x0_line)) (h_x0_changes : (AI 0 99 x0_changes)) (h_x0_coins : (AI 0 9 x0_coins)) (h_x0_goods : (0 ≤ x0_goods ∧ x0_goods ≤ 8)) (h_x0_good : (GdM x0_good)) (h_x0_works : (0 ≤ x0_works ∧ x0_works ≤ 7)) (h_x0_work : (WkM x0_work)) (h_x0_years : (1 ≤ x0_years ∧ x0_years ≤ 30)) (h_x0_at : (0 ≤ x0_at)) (h_x0_from : (0 ≤ x0_from ∧ x0_from ≤ 250)) (h_x0_far : (AI 0 1000000000 x0_far)) (h_x0_way : (AI 0 22 x0_way)) (h_x0_steps : (0 ≤ x0_steps ∧ x0_steps ≤ 37)) (h_x0_queue : (AI 0 35 x0_queue)) (h_p1 : (RI B p1)) (he_0 : M.toInt = (m1 : Int)) (he_1 : 1 < M) (he_2 : 11 ≤ B 0 ∧ 11 ≤ B 1) (he_3 : x0_at ≤ x0_tapeSize) : Sf (fX7_two n (x0_shelf, x0_rowSort, x0_rowSize, x0_rows, x0_moved, x0_shown, x0_tape, x0_tapeSize, x0_refused, x0_lines, x0_line, x0_changes, x0_coins, x0_goods, x0_good, x0_works, x0_work, x0_years, x0_gone, x0_spent, x0_at, x0_token, x0_from, x0_figures, x0_fault, x0_numbers, x0_statements, x0_left, x0_far, x0_tons, x0_way, x0_steps, x0_met, x0_queue, x0_totals) m1 p1) (fun r => (0 ≤ r.2.1.2.2.1 ∧ r.2.1.2.2.1 ≤ 250) ∧ (RI B r.2.2) ∧ ((r.1 = 0 ∨ r.1 = 1) ∧ (0 ≤ r.2.1.1 ∧ r.2.1.1 ≤ x0_tapeSize) ∧ x0_at ≤ r.2.1.1 ∧ (r.1 = 0 ∨ r.2.1.2.1 ≠ 3 ∨ x0_at < r.2.1.1))) := by
  unfold fX7_two
  dsimp only [u35]
  refine Sf.bind (sX7_look hn h_x0_shelf h_x0_rowSize h_x0_tapeSize h_x0_lines h_x0_line h_x0_changes h_x0_coins h_x0_goods h_x0_good h_x0_works h_x0_work h_x0_years h_x0_at h_x0_from h_x0_far h_x0_way h_x0_steps h_x0_queue (by grind)) ?_
  rintro ⟨g1, g2, g3, g4⟩ hr1
  obtain ⟨h_g3, hx_g1⟩ : (0 ≤ g3 ∧ g3 ≤ 250) ∧ ((0 ≤ g1 ∧ g1 ≤ x0_tapeSize) ∧ x0_at ≤ g1 ∧ (g2 ≠ 3 ∨ x0_at < g1)) := hr1
  dsimp only [u4]
  refine Sf.bind (sX7_number (M := M) (B := B) hn h_x0_shelf h_x0_rowSize h_x0_tapeSize h_x0_lines h_x0_line h_x0_changes h_x0_coins h_x0_goods h_x0_good h_x0_works h_x0_work h_x0_years (by grind) h_g3 h_x0_far h_x0_way h_x0_steps h_x0_queue h_p1 (by first | assumption | rfl | decide | grind) (by first | assumption | rfl | decide | grind) (by first | assumption | rfl | decide | grind) (by first | assumption | rfl | decide | grind)) ?_
  rintro ⟨v6, ⟨g8, g9, g10, g11, g12⟩, g13⟩ hr2
  obtain ⟨h_g10, h_g13, hx_v6⟩ : (0 ≤ g10 ∧ g10 ≤ 250) ∧ (RI B g13) ∧ ((v6 = 0 ∨ v6 = 1) ∧ (0 ≤ g8 ∧ g8 ≤ x0_tapeSize) ∧ g1 ≤ g8 ∧ (v6 = 0 ∨ g9 ≠ 3 ∨ g1 < g8) ∧ (v6 = 0 ∨ g13 = va_up p1 (0 : Int32).toNatClampNeg g4.toInt32) ∧ (v6 = 1 ∨ g2 ≠ 2 ∨ g4 < (0 : Int32).toInt64 ∨ (11 : Int32).toInt64 < g4)) := hr2
  dsimp only [u3, u5]
  refine Sf.ite (fun hc3 => ?_) (fun hc3 => ?_)
  · exact Sf.ok (show (0 ≤ g10 ∧ g10 ≤ 250) ∧ (RI B g13) ∧ ((0 = 0 ∨ 0 = 1) ∧ (0 ≤ g8 ∧ g8 ≤ x0_tapeSize) ∧ x0_at ≤ g8 ∧ (0 = 0 ∨ g9 ≠ 3 ∨ x0_at < g8)) from ⟨h_g10, h_g13, (by grind)⟩)
  · refine Sf.ite (fun hc4 => ?_) (fun hc4 => ?_)
    · refine Sf.rdb M he_0 (by grind) (fun v25 e_v25 => ?_)
      clear e_v25
      refine Sf.ite (fun hc5 => ?_) (fun hc5 => ?_)
      · refine Sf.bind (sX7_wrong h_x0_shelf h_x0_rowSize h_x0_tapeSize h_x0_lines h_x0_line h_x0_changes h_x0_coins h_x0_goods h_x0_good h_x0_works h_x0_work h_x0_years h_g10 h_x0_far h_x0_way h_x0_steps h_x0_queue) ?_
        rintro ⟨v26, g27⟩ hr6
        have h_v26 : (0 ≤ v26 ∧ v26 ≤ 0) := hr6
        dsimp only [u2]
        refine Sf.zbb (by grind) (fun v29 e_v29 => ?_)
        exact Sf.ok (show (0 ≤ g10 ∧ g10 ≤ 250) ∧ (RI B g13) ∧ ((v29 = 0 ∨ v29 = 1) ∧ (0 ≤ g8 ∧ g8 ≤ x0_tapeSize) ∧ x0_at ≤ g8 ∧ (v29 = 0 ∨ g9 ≠ 3 ∨ x0_at < g8)) from ⟨h_g10, h_g13, (by grind)⟩)
      · unfold fX7_two_j43
        refine Sf.bind (sX7_number (M := M) (B := B) hn h_x0_shelf h_x0_rowSize h_x0_tapeSize h_x0_lines h_x0_line h_x0_changes h_x0_coins h_x0_goods h_x0_good h_x0_works h_x0_work h_x0_years (by grind) h_g10 h_x0_far h_x0_way h_x0_steps h_x0_queue h_g13 (by first | assumption | rfl | decide | grind) (by first | assumption | rfl | decide | grind) (by first | assumption | rfl | decide | grind) (by first | assumption | rfl | decide | grind)) ?_
        rintro ⟨v15, ⟨g17, g18, g19, g20, g21⟩, g22⟩ hr7
        obtain ⟨h_g19, h_g22, hx_v15⟩ : (0 ≤ g19 ∧ g19 ≤ 250) ∧ (RI B g22) ∧ ((v15 = 0 ∨ v15 = 1) ∧ (0 ≤ g17 ∧ g17 ≤ x0_tapeSize) ∧ g8 ≤ g17 ∧ (v15 = 0 ∨ g18 ≠ 3 ∨ g8 < g17) ∧ (v15 = 0 ∨ g22 = va_up g13 (1 : Int32).toNatClampNeg g11.toInt32) ∧ (v15 = 1 ∨ g9 ≠ 2 ∨ g11 < (0 : Int32).toInt64 ∨ (11 : Int32).toInt64 < g11)) := hr7
        dsimp only [u3, u5]
        refine Sf.zbb (by grind) (fun v24 e_v24 => ?_)
        exact Sf.ok (show (0 ≤ g19 ∧ g19 ≤ 250) ∧ (RI B g22) ∧ ((v24 = 0 ∨ v24 = 1) ∧ (0 ≤ g17 ∧ g17 ≤ x0_tapeSize) ∧ x0_at ≤ g17 ∧ (v24 = 0 ∨ g18 ≠ 3 ∨ x0_at < g17)) from ⟨h_g19, h_g22, (by grind)⟩)
    · unfold fX7_two_j43
      refine Sf.bind (sX7_number (M := M) (B := B) hn h_x0_shelf h_x0_rowSize h_x0_tapeSize h_x0_lines h_x0_line h_x0_changes h_x0_coins h_x0_goods h_x0_good h_x0_works h_x0_work h_x0_years (by grind) h_g10 h_x0_far h_x0_way h_x0_steps h_x0_queue h_g13 (by first | assumption | rfl | decide | grind) (by first | assumption | rfl | decide | grind) (by first | assumption | rfl | decide | grind) (by first | assumption | rfl | decide | grind)) ?_
      rintro ⟨v15, ⟨g17, g18, g19, g20, g21⟩, g22⟩ hr8
      obtain ⟨h_g19, h_g22, hx_v15⟩ : (0 ≤ g19 ∧ g19 ≤ 250) ∧ (RI B g22) ∧ ((v15 = 0 ∨ v15 = 1) ∧ (0 ≤ g17 ∧ g17 ≤ x0_tapeSize) ∧ g8 ≤ g17 ∧ (v15 = 0 ∨ g18 ≠ 3 ∨ g8 < g17) ∧ (v15 = 0 ∨ g22 = va_up g13 (1 : Int32).toNatClampNeg g11.toInt32) ∧ (v15 = 1 ∨ g9 ≠ 2 ∨ g11 < (0 : Int32).toInt64 ∨ (11 : Int32).toInt64 < g11)) := hr8
      dsimp only [u3, u5]
      refine Sf.zbb (by grind) (fun v24 e_v24 => ?_)
      exact Sf.ok (show (0 ≤ g19 ∧ g19 ≤ 250) ∧ (RI B g22) ∧ ((v24 = 0 ∨ v24 = 1) ∧ (0 ≤ g17 ∧ g17 ≤ x0_tapeSize) ∧ x0_at ≤ g17 ∧ (v24 = 0 ∨ g18 ≠ 3 ∨ x0_at < g17)) from ⟨h_g19, h_g22, (by grind)⟩)
theorem sX7_numberN {n : Nat} {x0_shelf x0_rowSort x0_rowSize : (Nat → Int32)} {x0_rows : (Nat → Nat → Int64)} {x0_moved : (Nat → Int64)} {x0_shown x0_tape : (Nat → Int32)} {x0_tapeSize : Int32} {x0_refused : (Nat → Int32)} {x0_lines : Int32} {x0_line : (Nat → Nat → Int32)} {x0_changes x0_coins : (Nat → Int32)} {x0_goods : Int32} {x0_good : (Nat → Nat → Int32)} {x0_works : Int32} {x0_work : (Nat → Nat → Int32)} {x0_years x0_gone x0_spent x0_at x0_token x0_from : Int32} {x0_figures : Int64} {x0_fault : Int32} {x0_numbers : (Nat → Int32)} {x0_statements : Int32} {x0_left x0_far : (Nat → Int32)} {x0_tons : Int32} {x0_way : (Nat → Int32)} {x0_steps : Int32} {x0_met : Int64} {x0_queue x0_totals : (Nat → Int32)} {p2 p3 p4 : Int32} (hn : 1000000000000 ≤ n) (h_x0_shelf : (AI 0 2 x0_shelf)) (h_x0_rowSize : (AI 0 40 x0_rowSize)) (h_x0_tapeSize : (0 ≤ x0_tapeSize ∧ x0_tapeSize ≤ 250)) (h_x0_lines : (0 ≤ x0_lines ∧ x0_lines ≤ 20)) (h_x0_line : (LnM x0_line)) (h_x0_changes : (AI 0 99 x0_changes)) (h_x0_coins : (AI 0 9 x0_coins)) (h_x0_goods : (0 ≤ x0_goods ∧ x0_goods ≤ 8)) (h_x0_good : (GdM x0_good)) (h_x0_works : (0 ≤ x0_works ∧ x0_works ≤ 7)) (h_x0_work : (WkM x0_work)) (h_x0_years : (1 ≤ x0_years ∧ x0_years ≤ 30)) (h_x0_at : (0 ≤ x0_at)) (h_x0_from : (0 ≤ x0_from ∧ x0_from ≤ 250)) (h_x0_far : (AI 0 1000000000 x0_far)) (h_x0_way : (AI 0 22 x0_way)) (h_x0_steps : (0 ≤ x0_steps ∧ x0_steps ≤ 37)) (h_x0_queue : (AI 0 35 x0_queue)) (he_0 : p2 = 0) (he_1 : x0_at ≤ x0_tapeSize) : Sf (fX7_numberN n (x0_shelf, x0_rowSort, x0_rowSize, x0_rows, x0_moved, x0_shown, x0_tape, x0_tapeSize, x0_refused, x0_lines, x0_line, x0_changes, x0_coins, x0_goods, x0_good, x0_works, x0_work, x0_years, x0_gone, x0_spent, x0_at, x0_token, x0_from, x0_figures, x0_fault, x0_numbers, x0_statements, x0_left, x0_far, x0_tons, x0_way, x0_steps, x0_met, x0_queue, x0_totals) p2 p3 p4) (fun r => (0 ≤ r.2.2.2.1 ∧ r.2.2.2.1 ≤ 250) ∧ ((r.1 = 0 ∨ r.1 = 1) ∧ (0 ≤ r.2.1 ∧ r.2.1 ≤ x0_tapeSize) ∧ x0_at ≤ r.2.1 ∧ (r.1 = 0 ∨ r.2.2.1 ≠ 3 ∨ x0_at < r.2.1) ∧ (r.1 = 0 ∨ (p3 ≤ r.2.2.2.2.2.2 0 ∧ r.2.2.2.2.2.2 0 ≤ p4)))) := by
  unfold fX7_numberN
  dsimp only [u35]
  have bad : ∀ v : Int32, v = 0 → Sf ((zb v).bind fun v16 => some (v16, (x0_at, x0_token, x0_from, x0_figures, x0_from, x0_numbers))) (fun r => (0 ≤ r.2.2.2.1 ∧ r.2.2.2.1 ≤ 250) ∧ ((r.1 = 0 ∨ r.1 = 1) ∧ (0 ≤ r.2.1 ∧ r.2.1 ≤ x0_tapeSize) ∧ x0_at ≤ r.2.1 ∧ (r.1 = 0 ∨ r.2.2.1 ≠ 3 ∨ x0_at < r.2.1) ∧ (r.1 = 0 ∨ (p3 ≤ r.2.2.2.2.2.2 0 ∧ r.2.2.2.2.2.2 0 ≤ p4)))) := by
    intro v hv
    refine Sf.zbb (Or.inl hv) (fun r hr => ?_)
    subst hr
    exact Sf.ok ⟨h_x0_from, Or.inl hv, ⟨h_x0_at, he_1⟩, Int32.le_refl _, Or.inl hv, Or.inl hv⟩
  refine Sf.ite (fun ht => ?_) (fun ht => ?_)
  · refine Sf.bind s_in64 (fun v5 h5 => ?_)
    refine Sf.ite (fun h0 => ?_) (fun h0 => ?_)
    · unfold fX7_wrong
      dsimp only [u35]
      exact bad 0 rfl
    · have h6 : p3.toInt64 ≤ x0_figures ∧ x0_figures ≤ p4.toInt64 := by
        rcases h5 with h5 | h5
        · exact h5.2
        · exact absurd h5.1 h0
      have h7 := i64_rng h6.1 h6.2
      subst he_0
      refine Sf.wrl 0 rfl rfl (fun f7 e7 => ?_)
      have hf7 : p3 ≤ f7 0 ∧ f7 0 ≤ p4 := by
        rw [e7]
        exact h7
      refine Sf.bind (sX7_look hn h_x0_shelf h_x0_rowSize h_x0_tapeSize h_x0_lines h_x0_line h_x0_changes h_x0_coins h_x0_goods h_x0_good h_x0_works h_x0_work h_x0_years h_x0_at h_x0_from h_x0_far h_x0_way h_x0_steps h_x0_queue he_1) ?_
      rintro ⟨g8, g9, g10, g11⟩ hr
      obtain ⟨hg10, hg8⟩ : (0 ≤ g10 ∧ g10 ≤ 250) ∧ ((0 ≤ g8 ∧ g8 ≤ x0_tapeSize) ∧ x0_at ≤ g8 ∧ (g9 ≠ 3 ∨ x0_at < g8)) := hr
      exact Sf.ok ⟨hg10, Or.inr rfl, hg8.1, hg8.2.1, Or.inr hg8.2.2, Or.inr hf7⟩
  · unfold fX7_wrong
    dsimp only [u35]
    exact bad 0 rfl
theorem sX7_numberC {n : Nat} {x0_shelf x0_rowSort x0_rowSize : (Nat → Int32)} {x0_rows : (Nat → Nat → Int64)} {x0_moved : (Nat → Int64)} {x0_shown x0_tape : (Nat → Int32)} {x0_tapeSize : Int32} {x0_refused : (Nat → Int32)} {x0_lines : Int32} {x0_line : (Nat → Nat → Int32)} {x0_changes x0_coins : (Nat → Int32)} {x0_goods : Int32} {x0_good : (Nat → Nat → Int32)} {x0_works : Int32} {x0_work : (Nat → Nat → Int32)} {x0_years x0_gone x0_spent x0_at x0_token x0_from : Int32} {x0_figures : Int64} {x0_fault : Int32} {x0_numbers : (Nat → Int32)} {x0_statements : Int32} {x0_left x0_far : (Nat → Int32)} {x0_tons : Int32} {x0_way : (Nat → Int32)} {x0_steps : Int32} {x0_met : Int64} {x0_queue x0_totals : (Nat → Int32)} {p2 p3 p4 : Int32} (hn : 1000000000000 ≤ n) (h_x0_shelf : (AI 0 2 x0_shelf)) (h_x0_rowSize : (AI 0 40 x0_rowSize)) (h_x0_tapeSize : (0 ≤ x0_tapeSize ∧ x0_tapeSize ≤ 250)) (h_x0_lines : (0 ≤ x0_lines ∧ x0_lines ≤ 20)) (h_x0_line : (LnM x0_line)) (h_x0_changes : (AI 0 99 x0_changes)) (h_x0_coins : (AI 0 9 x0_coins)) (h_x0_goods : (0 ≤ x0_goods ∧ x0_goods ≤ 8)) (h_x0_good : (GdM x0_good)) (h_x0_works : (0 ≤ x0_works ∧ x0_works ≤ 7)) (h_x0_work : (WkM x0_work)) (h_x0_years : (1 ≤ x0_years ∧ x0_years ≤ 30)) (h_x0_at : (0 ≤ x0_at)) (h_x0_from : (0 ≤ x0_from ∧ x0_from ≤ 250)) (h_x0_far : (AI 0 1000000000 x0_far)) (h_x0_way : (AI 0 22 x0_way)) (h_x0_steps : (0 ≤ x0_steps ∧ x0_steps ≤ 37)) (h_x0_queue : (AI 0 35 x0_queue)) (he_0 : 0 ≤ p2 ∧ p2 < 12) (he_1 : 0 ≤ p3 ∧ p4 ≤ 99) (he_2 : x0_at ≤ x0_tapeSize) : Sf (fX7_numberC n (x0_shelf, x0_rowSort, x0_rowSize, x0_rows, x0_moved, x0_shown, x0_tape, x0_tapeSize, x0_refused, x0_lines, x0_line, x0_changes, x0_coins, x0_goods, x0_good, x0_works, x0_work, x0_years, x0_gone, x0_spent, x0_at, x0_token, x0_from, x0_figures, x0_fault, x0_numbers, x0_statements, x0_left, x0_far, x0_tons, x0_way, x0_steps, x0_met, x0_queue, x0_totals) p2 p3 p4) (fun r => (AI 0 99 r.2.1) ∧ (0 ≤ r.2.2.2.2.1 ∧ r.2.2.2.2.1 ≤ 250) ∧ ((r.1 = 0 ∨ r.1 = 1) ∧ (0 ≤ r.2.2.1 ∧ r.2.2.1 ≤ x0_tapeSize) ∧ x0_at ≤ r.2.2.1 ∧ (r.1 = 0 ∨ r.2.2.2.1 ≠ 3 ∨ x0_at < r.2.2.1))) := by
  unfold fX7_numberC
  dsimp only [u35]
  have bad : ∀ v : Int32, v = 0 → Sf ((zb v).bind fun v16 => some (v16, (x0_changes, x0_at, x0_token, x0_from, x0_figures, x0_from))) (fun r => (AI 0 99 r.2.1) ∧ (0 ≤ r.2.2.2.2.1 ∧ r.2.2.2.2.1 ≤ 250) ∧ ((r.1 = 0 ∨ r.1 = 1) ∧ (0 ≤ r.2.2.1 ∧ r.2.2.1 ≤ x0_tapeSize) ∧ x0_at ≤ r.2.2.1 ∧ (r.1 = 0 ∨ r.2.2.2.1 ≠ 3 ∨ x0_at < r.2.2.1))) := by
    intro v hv
    refine Sf.zbb (Or.inl hv) (fun r hr => ?_)
    subst hr
    exact Sf.ok ⟨h_x0_changes, h_x0_from, Or.inl hv, ⟨h_x0_at, he_2⟩, Int32.le_refl _, Or.inl hv⟩
  refine Sf.ite (fun ht => ?_) (fun ht => ?_)
  · refine Sf.bind s_in64 (fun v5 h5 => ?_)
    refine Sf.ite (fun h0 => ?_) (fun h0 => ?_)
    · unfold fX7_wrong
      dsimp only [u35]
      exact bad 0 rfl
    · have h6 : p3.toInt64 ≤ x0_figures ∧ x0_figures ≤ p4.toInt64 := by
        rcases h5 with h5 | h5
        · exact h5.2
        · exact absurd h5.1 h0
      have h7 := i64_rng h6.1 h6.2
      refine Sf.wrI 12 rfl h_x0_changes he_0 ⟨Int32.le_trans he_1.1 h7.1, Int32.le_trans h7.2 he_1.2⟩ (fun f7 hf7 e7 => ?_)
      refine Sf.bind (sX7_look hn h_x0_shelf h_x0_rowSize h_x0_tapeSize h_x0_lines h_x0_line hf7 h_x0_coins h_x0_goods h_x0_good h_x0_works h_x0_work h_x0_years h_x0_at h_x0_from h_x0_far h_x0_way h_x0_steps h_x0_queue he_2) ?_
      rintro ⟨g8, g9, g10, g11⟩ hr
      obtain ⟨hg10, hg8⟩ : (0 ≤ g10 ∧ g10 ≤ 250) ∧ ((0 ≤ g8 ∧ g8 ≤ x0_tapeSize) ∧ x0_at ≤ g8 ∧ (g9 ≠ 3 ∨ x0_at < g8)) := hr
      exact Sf.ok ⟨hf7, hg10, Or.inr rfl, hg8.1, hg8.2.1, Or.inr hg8.2.2⟩
  · unfold fX7_wrong
    dsimp only [u35]
    exact bad 0 rfl
theorem sX7_numberO {n : Nat} {x0_shelf x0_rowSort x0_rowSize : (Nat → Int32)} {x0_rows : (Nat → Nat → Int64)} {x0_moved : (Nat → Int64)} {x0_shown x0_tape : (Nat → Int32)} {x0_tapeSize : Int32} {x0_refused : (Nat → Int32)} {x0_lines : Int32} {x0_line : (Nat → Nat → Int32)} {x0_changes x0_coins : (Nat → Int32)} {x0_goods : Int32} {x0_good : (Nat → Nat → Int32)} {x0_works : Int32} {x0_work : (Nat → Nat → Int32)} {x0_years x0_gone x0_spent x0_at x0_token x0_from : Int32} {x0_figures : Int64} {x0_fault : Int32} {x0_numbers : (Nat → Int32)} {x0_statements : Int32} {x0_left x0_far : (Nat → Int32)} {x0_tons : Int32} {x0_way : (Nat → Int32)} {x0_steps : Int32} {x0_met : Int64} {x0_queue x0_totals : (Nat → Int32)} {p2 p3 p4 : Int32} (hn : 1000000000000 ≤ n) (h_x0_shelf : (AI 0 2 x0_shelf)) (h_x0_rowSize : (AI 0 40 x0_rowSize)) (h_x0_tapeSize : (0 ≤ x0_tapeSize ∧ x0_tapeSize ≤ 250)) (h_x0_lines : (0 ≤ x0_lines ∧ x0_lines ≤ 20)) (h_x0_line : (LnM x0_line)) (h_x0_changes : (AI 0 99 x0_changes)) (h_x0_coins : (AI 0 9 x0_coins)) (h_x0_goods : (0 ≤ x0_goods ∧ x0_goods ≤ 8)) (h_x0_good : (GdM x0_good)) (h_x0_works : (0 ≤ x0_works ∧ x0_works ≤ 7)) (h_x0_work : (WkM x0_work)) (h_x0_years : (1 ≤ x0_years ∧ x0_years ≤ 30)) (h_x0_at : (0 ≤ x0_at)) (h_x0_from : (0 ≤ x0_from ∧ x0_from ≤ 250)) (h_x0_far : (AI 0 1000000000 x0_far)) (h_x0_way : (AI 0 22 x0_way)) (h_x0_steps : (0 ≤ x0_steps ∧ x0_steps ≤ 37)) (h_x0_queue : (AI 0 35 x0_queue)) (he_0 : 0 ≤ p2 ∧ p2 < 3) (he_1 : 0 ≤ p3 ∧ p4 ≤ 9) (he_2 : x0_at ≤ x0_tapeSize) : Sf (fX7_numberO n (x0_shelf, x0_rowSort, x0_rowSize, x0_rows, x0_moved, x0_shown, x0_tape, x0_tapeSize, x0_refused, x0_lines, x0_line, x0_changes, x0_coins, x0_goods, x0_good, x0_works, x0_work, x0_years, x0_gone, x0_spent, x0_at, x0_token, x0_from, x0_figures, x0_fault, x0_numbers, x0_statements, x0_left, x0_far, x0_tons, x0_way, x0_steps, x0_met, x0_queue, x0_totals) p2 p3 p4) (fun r => (AI 0 9 r.2.1) ∧ (0 ≤ r.2.2.2.2.1 ∧ r.2.2.2.2.1 ≤ 250) ∧ ((r.1 = 0 ∨ r.1 = 1) ∧ (0 ≤ r.2.2.1 ∧ r.2.2.1 ≤ x0_tapeSize) ∧ x0_at ≤ r.2.2.1 ∧ (r.1 = 0 ∨ r.2.2.2.1 ≠ 3 ∨ x0_at < r.2.2.1))) := by
  unfold fX7_numberO
  dsimp only [u35]
  have bad : ∀ v : Int32, v = 0 → Sf ((zb v).bind fun v16 => some (v16, (x0_coins, x0_at, x0_token, x0_from, x0_figures, x0_from))) (fun r => (AI 0 9 r.2.1) ∧ (0 ≤ r.2.2.2.2.1 ∧ r.2.2.2.2.1 ≤ 250) ∧ ((r.1 = 0 ∨ r.1 = 1) ∧ (0 ≤ r.2.2.1 ∧ r.2.2.1 ≤ x0_tapeSize) ∧ x0_at ≤ r.2.2.1 ∧ (r.1 = 0 ∨ r.2.2.2.1 ≠ 3 ∨ x0_at < r.2.2.1))) := by
    intro v hv
    refine Sf.zbb (Or.inl hv) (fun r hr => ?_)
    subst hr
    exact Sf.ok ⟨h_x0_coins, h_x0_from, Or.inl hv, ⟨h_x0_at, he_2⟩, Int32.le_refl _, Or.inl hv⟩
  refine Sf.ite (fun ht => ?_) (fun ht => ?_)
  · refine Sf.bind s_in64 (fun v5 h5 => ?_)
    refine Sf.ite (fun h0 => ?_) (fun h0 => ?_)
    · unfold fX7_wrong
      dsimp only [u35]
      exact bad 0 rfl
    · have h6 : p3.toInt64 ≤ x0_figures ∧ x0_figures ≤ p4.toInt64 := by
        rcases h5 with h5 | h5
        · exact h5.2
        · exact absurd h5.1 h0
      have h7 := i64_rng h6.1 h6.2
      refine Sf.wrI 3 rfl h_x0_coins he_0 ⟨Int32.le_trans he_1.1 h7.1, Int32.le_trans h7.2 he_1.2⟩ (fun f7 hf7 e7 => ?_)
      refine Sf.bind (sX7_look hn h_x0_shelf h_x0_rowSize h_x0_tapeSize h_x0_lines h_x0_line h_x0_changes hf7 h_x0_goods h_x0_good h_x0_works h_x0_work h_x0_years h_x0_at h_x0_from h_x0_far h_x0_way h_x0_steps h_x0_queue he_2) ?_
      rintro ⟨g8, g9, g10, g11⟩ hr
      obtain ⟨hg10, hg8⟩ : (0 ≤ g10 ∧ g10 ≤ 250) ∧ ((0 ≤ g8 ∧ g8 ≤ x0_tapeSize) ∧ x0_at ≤ g8 ∧ (g9 ≠ 3 ∨ x0_at < g8)) := hr
      exact Sf.ok ⟨hf7, hg10, Or.inr rfl, hg8.1, hg8.2.1, Or.inr hg8.2.2⟩
  · unfold fX7_wrong
    dsimp only [u35]
    exact bad 0 rfl
set_option maxHeartbeats 1000000 in
theorem sX7_toldN {n : Nat} {x0_shelf x0_rowSort x0_rowSize : (Nat → Int32)} {x0_rows : (Nat → Nat → Int64)} {x0_moved : (Nat → Int64)} {x0_shown x0_tape : (Nat → Int32)} {x0_tapeSize : Int32} {x0_refused : (Nat → Int32)} {x0_lines : Int32} {x0_line : (Nat → Nat → Int32)} {x0_changes x0_coins : (Nat → Int32)} {x0_goods : Int32} {x0_good : (Nat → Nat → Int32)} {x0_works : Int32} {x0_work : (Nat → Nat → Int32)} {x0_years x0_gone x0_spent x0_at x0_token x0_from : Int32} {x0_figures : Int64} {x0_fault : Int32} {x0_numbers : (Nat → Int32)} {x0_statements : Int32} {x0_left x0_far : (Nat → Int32)} {x0_tons : Int32} {x0_way : (Nat → Int32)} {x0_steps : Int32} {x0_met : Int64} {x0_queue x0_totals : (Nat → Int32)} {p1 : Nat} {p3 p4 p5 : Int32} (hn : 1000000000000 ≤ n) (h_x0_shelf : (AI 0 2 x0_shelf)) (h_x0_rowSize : (AI 0 40 x0_rowSize)) (h_x0_tapeSize : (0 ≤ x0_tapeSize ∧ x0_tapeSize ≤ 250)) (h_x0_lines : (0 ≤ x0_lines ∧ x0_lines ≤ 20)) (h_x0_line : (LnM x0_line)) (h_x0_changes : (AI 0 99 x0_changes)) (h_x0_coins : (AI 0 9 x0_coins)) (h_x0_goods : (0 ≤ x0_goods ∧ x0_goods ≤ 8)) (h_x0_good : (GdM x0_good)) (h_x0_works : (0 ≤ x0_works ∧ x0_works ≤ 7)) (h_x0_work : (WkM x0_work)) (h_x0_years : (1 ≤ x0_years ∧ x0_years ≤ 30)) (h_x0_at : (0 ≤ x0_at)) (h_x0_from : (0 ≤ x0_from ∧ x0_from ≤ 250)) (h_x0_far : (AI 0 1000000000 x0_far)) (h_x0_way : (AI 0 22 x0_way)) (h_x0_steps : (0 ≤ x0_steps ∧ x0_steps ≤ 37)) (h_x0_queue : (AI 0 35 x0_queue)) (he_0 : p3 = 0) (he_1 : x0_at ≤ x0_tapeSize) (he_2 : p1 < 20) : Sf (fX7_toldN n (x0_shelf, x0_rowSort, x0_rowSize, x0_rows, x0_moved, x0_shown, x0_tape, x0_tapeSize, x0_refused, x0_lines, x0_line, x0_changes, x0_coins, x0_goods, x0_good, x0_works, x0_work, x0_years, x0_gone, x0_spent, x0_at, x0_token, x0_from, x0_figures, x0_fault, x0_numbers, x0_statements, x0_left, x0_far, x0_tons, x0_way, x0_steps, x0_met, x0_queue, x0_totals) p1 p3 p4 p5) (fun r => (0 ≤ r.2.2.2.1 ∧ r.2.2.2.1 ≤ 250) ∧ ((r.1 = 0 ∨ r.1 = 1) ∧ (0 ≤ r.2.1 ∧ r.2.1 ≤ x0_tapeSize) ∧ x0_at ≤ r.2.1 ∧ (r.1 = 0 ∨ r.2.2.1 ≠ 3 ∨ x0_at < r.2.1) ∧ (r.1 = 0 ∨ (p4 ≤ r.2.2.2.2.2.2 0 ∧ r.2.2.2.2.2.2 0 ≤ p5)) ∧ (r.1 = 0 ∨ x0_token = 1))) := by
  unfold fX7_toldN
  dsimp only [u35]
  refine Sf.bind (sX7_isWord hn (by grind) h_x0_from (by first | assumption | decide)) ?_
  intro v1 hr1
  obtain ⟨h_v1, hx_v1⟩ : (0 ≤ v1 ∧ v1 ≤ 1) ∧ (v1 = 0 ∨ x0_token = 1) := hr1
  refine Sf.ite (fun hc2 => ?_) (fun hc2 => ?_)
  · refine Sf.bind (sX7_wrong h_x0_shelf h_x0_rowSize h_x0_tapeSize h_x0_lines h_x0_line h_x0_changes h_x0_coins h_x0_goods h_x0_good h_x0_works h_x0_work h_x0_years h_x0_from h_x0_far h_x0_way h_x0_steps h_x0_queue) ?_
    rintro ⟨v18, g19⟩ hr3
    have h_v18 : (0 ≤ v18 ∧ v18 ≤ 0) := hr3
    dsimp only [u2]
    refine Sf.zbb (by grind) (fun v21 e_v21 => ?_)
    exact Sf.ok (show (0 ≤ x0_from ∧ x0_from ≤ 250) ∧ ((v21 = 0 ∨ v21 = 1) ∧ (0 ≤ x0_at ∧ x0_at ≤ x0_tapeSize) ∧ x0_at ≤ x0_at ∧ (v21 = 0 ∨ x0_token ≠ 3 ∨ x0_at < x0_at) ∧ (v21 = 0 ∨ (p4 ≤ x0_numbers 0 ∧ x0_numbers 0 ≤ p5)) ∧ (v21 = 0 ∨ x0_token = 1)) from ⟨h_x0_from, (by grind)⟩)
  · refine Sf.bind (sX7_look hn h_x0_shelf h_x0_rowSize h_x0_tapeSize h_x0_lines h_x0_line h_x0_changes h_x0_coins h_x0_goods h_x0_good h_x0_works h_x0_work h_x0_years h_x0_at h_x0_from h_x0_far h_x0_way h_x0_steps h_x0_queue (by grind)) ?_
    rintro ⟨g3, g4, g5, g6⟩ hr4
    obtain ⟨h_g5, hx_g3⟩ : (0 ≤ g5 ∧ g5 ≤ 250) ∧ ((0 ≤ g3 ∧ g3 ≤ x0_tapeSize) ∧ x0_at ≤ g3 ∧ (g4 ≠ 3 ∨ x0_at < g3)) := hr4
    dsimp only [u4]
    refine Sf.bind (sX7_numberN hn h_x0_shelf h_x0_rowSize h_x0_tapeSize h_x0_lines h_x0_line h_x0_changes h_x0_coins h_x0_goods h_x0_good h_x0_works h_x0_work h_x0_years (by grind) h_g5 h_x0_far h_x0_way h_x0_steps h_x0_queue (by first | assumption | rfl | decide | grind) (by first | assumption | rfl | decide | grind)) ?_
    rintro ⟨v8, ⟨g10, g11, g12, g13, g14, g15⟩⟩ hr5
    obtain ⟨h_g12, hx_v8⟩ : (0 ≤ g12 ∧ g12 ≤ 250) ∧ ((v8 = 0 ∨ v8 = 1) ∧ (0 ≤ g10 ∧ g10 ≤ x0_tapeSize) ∧ g3 ≤ g10 ∧ (v8 = 0 ∨ g11 ≠ 3 ∨ g3 < g10) ∧ (v8 = 0 ∨ (p4 ≤ g15 0 ∧ g15 0 ≤ p5))) := hr5
    dsimp only [u2, u6]
    refine Sf.zbb (by grind) (fun v17 e_v17 => ?_)
    exact Sf.ok (show (0 ≤ g12 ∧ g12 ≤ 250) ∧ ((v17 = 0 ∨ v17 = 1) ∧ (0 ≤ g10 ∧ g10 ≤ x0_tapeSize) ∧ x0_at ≤ g10 ∧ (v17 = 0 ∨ g11 ≠ 3 ∨ x0_at < g10) ∧ (v17 = 0 ∨ (p4 ≤ g15 0 ∧ g15 0 ≤ p5)) ∧ (v17 = 0 ∨ x0_token = 1)) from ⟨h_g12, (by grind)⟩)
set_option maxHeartbeats 1000000 in
theorem sX7_workTold {n : Nat} {x0_shelf x0_rowSort x0_rowSize : (Nat → Int32)} {x0_rows : (Nat → Nat → Int64)} {x0_moved : (Nat → Int64)} {x0_shown x0_tape : (Nat → Int32)} {x0_tapeSize : Int32} {x0_refused : (Nat → Int32)} {x0_lines : Int32} {x0_line : (Nat → Nat → Int32)} {x0_changes x0_coins : (Nat → Int32)} {x0_goods : Int32} {x0_good : (Nat → Nat → Int32)} {x0_works : Int32} {x0_work : (Nat → Nat → Int32)} {x0_years x0_gone x0_spent x0_at x0_token x0_from : Int32} {x0_figures : Int64} {x0_fault : Int32} {x0_numbers : (Nat → Int32)} {x0_statements : Int32} {x0_left x0_far : (Nat → Int32)} {x0_tons : Int32} {x0_way : (Nat → Int32)} {x0_steps : Int32} {x0_met : Int64} {x0_queue x0_totals p1 : (Nat → Int32)} (hn : 1000000000000 ≤ n) (h_x0_shelf : (AI 0 2 x0_shelf)) (h_x0_rowSize : (AI 0 40 x0_rowSize)) (h_x0_tapeSize : (0 ≤ x0_tapeSize ∧ x0_tapeSize ≤ 250)) (h_x0_lines : (0 ≤ x0_lines ∧ x0_lines ≤ 20)) (h_x0_line : (LnM x0_line)) (h_x0_changes : (AI 0 99 x0_changes)) (h_x0_coins : (AI 0 9 x0_coins)) (h_x0_goods : (0 ≤ x0_goods ∧ x0_goods ≤ 8)) (h_x0_good : (GdM x0_good)) (h_x0_works : (0 ≤ x0_works ∧ x0_works ≤ 7)) (h_x0_work : (WkM x0_work)) (h_x0_years : (1 ≤ x0_years ∧ x0_years ≤ 30)) (h_x0_at : (0 ≤ x0_at)) (h_x0_from : (0 ≤ x0_from ∧ x0_from ≤ 250)) (h_x0_far : (AI 0 1000000000 x0_far)) (h_x0_way : (AI 0 22 x0_way)) (h_x0_steps : (0 ≤ x0_steps ∧ x0_steps ≤ 37)) (h_x0_queue : (AI 0 35 x0_queue)) (h_p1 : (RI wkB p1)) (he_0 : x0_works < 7) (he_1 : x0_at ≤ x0_tapeSize) : Sf (fX7_workTold n (x0_shelf, x0_rowSort, x0_rowSize, x0_rows, x0_moved, x0_shown, x0_tape, x0_tapeSize, x0_refused, x0_lines, x0_line, x0_changes, x0_coins, x0_goods, x0_good, x0_works, x0_work, x0_years, x0_gone, x0_spent, x0_at, x0_token, x0_from, x0_figures, x0_fault, x0_numbers, x0_statements, x0_left, x0_far, x0_tons, x0_way, x0_steps, x0_met, x0_queue, x0_totals) 5 p1) (fun r => (0 ≤ r.2.1.1 ∧ r.2.1.1 ≤ 7) ∧ (0 ≤ r.2.1.2.2.2.1 ∧ r.2.1.2.2.2.1 ≤ 250) ∧ (RI wkB r.2.2) ∧ ((r.1 = 0 ∨ r.1 = 1) ∧ (0 ≤ r.2.1.2.1 ∧ r.2.1.2.1 ≤ x0_tapeSize) ∧ x0_at ≤ r.2.1.2.1 ∧ (r.1 = 0 ∨ r.2.1.2.2.1 ≠ 3 ∨ x0_at < r.2.1.2.1) ∧ (r.1 = 0 ∨ (x0_token = 1 ∧ WkRm (r.2.2 0) (r.2.2 1) (r.2.2 2))))) := by
  unfold fX7_workTold
  dsimp only [u35]
  refine Sf.wrl 4 rfl rfl (fun f1 e_f1 => ?_)
  have h_f1 : RI wkB f1 := by rw [e_f1]; exact RI.up h_p1 (show 0 ≤ 0 ∧ 0 ≤ 1 from (by decide))
  refine Sf.bind (sX7_told (M := 5) (B := wkB) hn h_x0_shelf h_x0_rowSize h_x0_tapeSize h_x0_lines h_x0_line h_x0_changes h_x0_coins h_x0_goods h_x0_good h_x0_works h_x0_work h_x0_years h_x0_at h_x0_from h_x0_far h_x0_way h_x0_steps h_x0_queue h_f1 (by first | assumption | rfl | decide | grind) (by first | assumption | rfl | decide | grind) (by first | assumption | rfl | decide | grind) (by first | assumption | rfl | decide | grind) (by first | assumption | rfl | decide | grind)) ?_
  rintro ⟨v2, ⟨g4, g5, g6, g7, g8⟩, g9⟩ hr1
  obtain ⟨h_g6, h_g9, hx_v2⟩ : (0 ≤ g6 ∧ g6 ≤ 250) ∧ (RI wkB g9) ∧ ((v2 = 0 ∨ v2 = 1) ∧ (0 ≤ g4 ∧ g4 ≤ x0_tapeSize) ∧ x0_at ≤ g4 ∧ (v2 = 0 ∨ g5 ≠ 3 ∨ x0_at < g4) ∧ (v2 = 0 ∨ x0_token = 1)) := hr1
  dsimp only [u3, u5]
  have i0 : (0 : Int32).toInt64 = 0 := rfl
  have i99 : (99 : Int32).toInt64 = 99 := rfl
  refine Sf.ite (fun hc2 => ?_) (fun hc2 => ?_)
  · exact Sf.ok (show (0 ≤ x0_works ∧ x0_works ≤ 7) ∧ (0 ≤ g6 ∧ g6 ≤ 250) ∧ (RI wkB g9) ∧ ((0 = 0 ∨ 0 = 1) ∧ (0 ≤ g4 ∧ g4 ≤ x0_tapeSize) ∧ x0_at ≤ g4 ∧ (0 = 0 ∨ g5 ≠ 3 ∨ x0_at < g4) ∧ (0 = 0 ∨ (x0_token = 1 ∧ WkRm (g9 0) (g9 1) (g9 2)))) from ⟨h_x0_works, h_g6, h_g9, (by grind)⟩)
  · refine Sf.ite (fun hc3 => ?_) (fun hc3 => ?_)
    · refine Sf.bind s_in64 ?_
      intro v15 hr_v15
      refine Sf.ite (fun hc4 => ?_) (fun hc4 => ?_)
      · refine Sf.bind (sX7_wrong h_x0_shelf h_x0_rowSize h_x0_tapeSize h_x0_lines h_x0_line h_x0_changes h_x0_coins h_x0_goods h_x0_good h_x0_works h_x0_work h_x0_years h_g6 h_x0_far h_x0_way h_x0_steps h_x0_queue) ?_
        rintro ⟨v17, g18⟩ hr5
        have h_v17 : (0 ≤ v17 ∧ v17 ≤ 0) := hr5
        dsimp only [u2]
        refine Sf.zbb (by grind) (fun v20 e_v20 => ?_)
        exact Sf.ok (show (0 ≤ x0_works ∧ x0_works ≤ 7) ∧ (0 ≤ g6 ∧ g6 ≤ 250) ∧ (RI wkB g9) ∧ ((v20 = 0 ∨ v20 = 1) ∧ (0 ≤ g4 ∧ g4 ≤ x0_tapeSize) ∧ x0_at ≤ g4 ∧ (v20 = 0 ∨ g5 ≠ 3 ∨ x0_at < g4) ∧ (v20 = 0 ∨ (x0_token = 1 ∧ WkRm (g9 0) (g9 1) (g9 2)))) from ⟨h_x0_works, h_g6, h_g9, (by grind)⟩)
      · refine Sf.rdl 0 rfl rfl (fun v21 e_v21 => ?_)
        have h_v21 : 0 ≤ v21 ∧ v21 ≤ 5 := by rw [e_v21]; exact h_g9 0
        refine Sf.bind (sX7_mayBeFirst h_x0_shelf h_x0_rowSize h_x0_tapeSize h_x0_lines h_x0_line h_x0_changes h_x0_coins h_x0_goods h_x0_good h_x0_works h_x0_work h_x0_years h_g6 h_x0_far h_x0_way h_x0_steps h_x0_queue) ?_
        intro v22 hr6
        obtain ⟨h_v22, hx_v22⟩ : (0 ≤ v22 ∧ v22 ≤ 1) ∧ (v22 = 0 ∨ (0 ≤ (g7).toInt32 ∧ (g7).toInt32 ≤ 19 ∧ (v21 = 1 ∨ v21 = 2 ∨ (g7).toInt32 ≤ 11))) := hr6
        refine Sf.ite (fun hc7 => ?_) (fun hc7 => ?_)
        · refine Sf.bind (sX7_wrong h_x0_shelf h_x0_rowSize h_x0_tapeSize h_x0_lines h_x0_line h_x0_changes h_x0_coins h_x0_goods h_x0_good h_x0_works h_x0_work h_x0_years h_g6 h_x0_far h_x0_way h_x0_steps h_x0_queue) ?_
          rintro ⟨v69, g70⟩ hr8
          have h_v69 : (0 ≤ v69 ∧ v69 ≤ 0) := hr8
          dsimp only [u2]
          refine Sf.zbb (by grind) (fun v72 e_v72 => ?_)
          exact Sf.ok (show (0 ≤ x0_works ∧ x0_works ≤ 7) ∧ (0 ≤ g6 ∧ g6 ≤ 250) ∧ (RI wkB g9) ∧ ((v72 = 0 ∨ v72 = 1) ∧ (0 ≤ g4 ∧ g4 ≤ x0_tapeSize) ∧ x0_at ≤ g4 ∧ (v72 = 0 ∨ g5 ≠ 3 ∨ x0_at < g4) ∧ (v72 = 0 ∨ (x0_token = 1 ∧ WkRm (g9 0) (g9 1) (g9 2)))) from ⟨h_x0_works, h_g6, h_g9, (by grind)⟩)
        · refine Sf.bind (sX7_number (M := 5) (B := wkC) hn h_x0_shelf h_x0_rowSize h_x0_tapeSize h_x0_lines h_x0_line h_x0_changes h_x0_coins h_x0_goods h_x0_good h_x0_works h_x0_work h_x0_years (by grind) h_g6 h_x0_far h_x0_way h_x0_steps h_x0_queue (wkC_of h_g9) (by first | assumption | rfl | decide | grind) (by first | assumption | rfl | decide | grind) (by first | assumption | rfl | decide | grind) (by first | assumption | rfl | decide | grind)) ?_
          rintro ⟨v24, ⟨g26, g27, g28, g29, g30⟩, g31⟩ hr9
          obtain ⟨h_g28, h_g31, hx_v24⟩ : (0 ≤ g28 ∧ g28 ≤ 250) ∧ (RI wkC g31) ∧ ((v24 = 0 ∨ v24 = 1) ∧ (0 ≤ g26 ∧ g26 ≤ x0_tapeSize) ∧ g4 ≤ g26 ∧ (v24 = 0 ∨ g27 ≠ 3 ∨ g4 < g26) ∧ (v24 = 0 ∨ g31 = va_up g9 (1 : Int32).toNatClampNeg g7.toInt32) ∧ (v24 = 1 ∨ g5 ≠ 2 ∨ g7 < (0 : Int32).toInt64 ∨ (99 : Int32).toInt64 < g7)) := hr9
          dsimp only [u3, u5]
          have k24 : v24 = 1 := by grind
          have r31 : g31 = va_up g9 1 g7.toInt32 := by
            rcases hx_v24.2.2.2.2.1 with h | h
            · rw [k24] at h; exact absurd h (by decide)
            · exact h
          have h_g31 : RI wkB g31 := by rw [r31]; exact RI.up h_g9 (show 0 ≤ g7.toInt32 ∧ g7.toInt32 ≤ 19 by grind)
          refine Sf.ite (fun hc10 => ?_) (fun hc10 => ?_)
          · refine Sf.bind s_in64 ?_
            intro v37 hr_v37
            refine Sf.ite (fun hc11 => ?_) (fun hc11 => ?_)
            · refine Sf.bind (sX7_wrong h_x0_shelf h_x0_rowSize h_x0_tapeSize h_x0_lines h_x0_line h_x0_changes h_x0_coins h_x0_goods h_x0_good h_x0_works h_x0_work h_x0_years h_g28 h_x0_far h_x0_way h_x0_steps h_x0_queue) ?_
              rintro ⟨v39, g40⟩ hr12
              have h_v39 : (0 ≤ v39 ∧ v39 ≤ 0) := hr12
              dsimp only [u2]
              refine Sf.zbb (by grind) (fun v42 e_v42 => ?_)
              exact Sf.ok (show (0 ≤ x0_works ∧ x0_works ≤ 7) ∧ (0 ≤ g28 ∧ g28 ≤ 250) ∧ (RI wkB g31) ∧ ((v42 = 0 ∨ v42 = 1) ∧ (0 ≤ g26 ∧ g26 ≤ x0_tapeSize) ∧ x0_at ≤ g26 ∧ (v42 = 0 ∨ g27 ≠ 3 ∨ x0_at < g26) ∧ (v42 = 0 ∨ (x0_token = 1 ∧ WkRm (g31 0) (g31 1) (g31 2)))) from ⟨h_x0_works, h_g28, h_g31, (by grind)⟩)
            · refine Sf.rdl 0 rfl rfl (fun v43 e_v43 => ?_)
              have h_v43 : 0 ≤ v43 ∧ v43 ≤ 5 := by rw [e_v43]; exact h_g31 0
              refine Sf.rdl 1 rfl rfl (fun v44 e_v44 => ?_)
              have h_v44 : 0 ≤ v44 ∧ v44 ≤ 19 := by rw [e_v44]; exact h_g31 1
              refine Sf.bind (sX7_mayBeSecond ) ?_
              intro v45 hr13
              obtain ⟨h_v45, hx_v45⟩ : (0 ≤ v45 ∧ v45 ≤ 1) ∧ (v45 = 0 ∨ (0 ≤ (g29).toInt32 ∧ (g29).toInt32 ≤ 99 ∧ (v43 = 1 ∨ v43 = 2 → (g29).toInt32 ≤ 2) ∧ (v43 = 1 ∨ v43 = 2 ∨ v43 = 3 ∨ (g29).toInt32 ≤ 11))) := hr13
              refine Sf.ite (fun hc14 => ?_) (fun hc14 => ?_)
              · refine Sf.bind (sX7_wrong h_x0_shelf h_x0_rowSize h_x0_tapeSize h_x0_lines h_x0_line h_x0_changes h_x0_coins h_x0_goods h_x0_good h_x0_works h_x0_work h_x0_years h_g28 h_x0_far h_x0_way h_x0_steps h_x0_queue) ?_
                rintro ⟨v65, g66⟩ hr15
                have h_v65 : (0 ≤ v65 ∧ v65 ≤ 0) := hr15
                dsimp only [u2]
                refine Sf.zbb (by grind) (fun v68 e_v68 => ?_)
                exact Sf.ok (show (0 ≤ x0_works ∧ x0_works ≤ 7) ∧ (0 ≤ g28 ∧ g28 ≤ 250) ∧ (RI wkB g31) ∧ ((v68 = 0 ∨ v68 = 1) ∧ (0 ≤ g26 ∧ g26 ≤ x0_tapeSize) ∧ x0_at ≤ g26 ∧ (v68 = 0 ∨ g27 ≠ 3 ∨ x0_at < g26) ∧ (v68 = 0 ∨ (x0_token = 1 ∧ WkRm (g31 0) (g31 1) (g31 2)))) from ⟨h_x0_works, h_g28, h_g31, (by grind)⟩)
              · refine Sf.bind (sX7_number (M := 5) (B := wkB) hn h_x0_shelf h_x0_rowSize h_x0_tapeSize h_x0_lines h_x0_line h_x0_changes h_x0_coins h_x0_goods h_x0_good h_x0_works h_x0_work h_x0_years (by grind) h_g28 h_x0_far h_x0_way h_x0_steps h_x0_queue h_g31 (by first | assumption | rfl | decide | grind) (by first | assumption | rfl | decide | grind) (by first | assumption | rfl | decide | grind) (by first | assumption | rfl | decide | grind)) ?_
                rintro ⟨v47, ⟨g49, g50, g51, g52, g53⟩, g54⟩ hr16
                obtain ⟨h_g51, h_g54, hx_v47⟩ : (0 ≤ g51 ∧ g51 ≤ 250) ∧ (RI wkB g54) ∧ ((v47 = 0 ∨ v47 = 1) ∧ (0 ≤ g49 ∧ g49 ≤ x0_tapeSize) ∧ g26 ≤ g49 ∧ (v47 = 0 ∨ g50 ≠ 3 ∨ g26 < g49) ∧ (v47 = 0 ∨ g54 = va_up g31 (2 : Int32).toNatClampNeg g29.toInt32) ∧ (v47 = 1 ∨ g27 ≠ 2 ∨ g29 < (0 : Int32).toInt64 ∨ (99 : Int32).toInt64 < g29)) := hr16
                dsimp only [u3, u5]
                have k47 : v47 = 1 := by grind
                have r54 : g54 = va_up g31 2 g29.toInt32 := by
                  rcases hx_v47.2.2.2.2.1 with h | h
                  · rw [k47] at h; exact absurd h (by decide)
                  · exact h
                have q43 : v43 = v21 := by rw [e_v43, r31, e_v21]; rfl
                have hWR : WkRm v21 g7.toInt32 g29.toInt32 := by unfold WkRm; grind
                refine Sf.bind (sX7_number (M := 5) (B := wkB) hn h_x0_shelf h_x0_rowSize h_x0_tapeSize h_x0_lines h_x0_line h_x0_changes h_x0_coins h_x0_goods h_x0_good h_x0_works h_x0_work h_x0_years (by grind) h_g51 h_x0_far h_x0_way h_x0_steps h_x0_queue h_g54 (by first | assumption | rfl | decide | grind) (by first | assumption | rfl | decide | grind) (by first | assumption | rfl | decide | grind) (by first | assumption | rfl | decide | grind)) ?_
                rintro ⟨v56, ⟨g58, g59, g60, g61, g62⟩, g63⟩ hr17
                obtain ⟨h_g60, h_g63, hx_v56⟩ : (0 ≤ g60 ∧ g60 ≤ 250) ∧ (RI wkB g63) ∧ ((v56 = 0 ∨ v56 = 1) ∧ (0 ≤ g58 ∧ g58 ≤ x0_tapeSize) ∧ g49 ≤ g58 ∧ (v56 = 0 ∨ g59 ≠ 3 ∨ g49 < g58) ∧ (v56 = 0 ∨ g63 = va_up g54 (3 : Int32).toNatClampNeg g52.toInt32) ∧ (v56 = 1 ∨ g50 ≠ 2 ∨ g52 < (0 : Int32).toInt64 ∨ (999 : Int32).toInt64 < g52)) := hr17
                dsimp only [u3, u5]
                have W : v56 = 0 ∨ WkRm (g63 0) (g63 1) (g63 2) := by
                  rcases hx_v56.2.2.2.2.1 with h | h
                  · exact Or.inl h
                  · refine Or.inr ?_
                    rw [h, r54, r31]
                    show WkRm (g9 0) g7.toInt32 g29.toInt32
                    rw [← e_v21]
                    exact hWR
                clear r54 r31 hWR e_v21 e_v43 e_v44 q43
                refine Sf.ite (fun hc18 => ?_) (fun hc18 => ?_)
                · exact Sf.ok (show (0 ≤ x0_works ∧ x0_works ≤ 7) ∧ (0 ≤ g60 ∧ g60 ≤ 250) ∧ (RI wkB g63) ∧ ((0 = 0 ∨ 0 = 1) ∧ (0 ≤ g58 ∧ g58 ≤ x0_tapeSize) ∧ x0_at ≤ g58 ∧ (0 = 0 ∨ g59 ≠ 3 ∨ x0_at < g58) ∧ (0 = 0 ∨ (x0_token = 1 ∧ WkRm (g63 0) (g63 1) (g63 2)))) from ⟨h_x0_works, h_g60, h_g63, (by grind)⟩)
                · exact Sf.ok (show (0 ≤ (x0_works + 1) ∧ (x0_works + 1) ≤ 7) ∧ (0 ≤ g60 ∧ g60 ≤ 250) ∧ (RI wkB g63) ∧ ((1 = 0 ∨ 1 = 1) ∧ (0 ≤ g58 ∧ g58 ≤ x0_tapeSize) ∧ x0_at ≤ g58 ∧ (1 = 0 ∨ g59 ≠ 3 ∨ x0_at < g58) ∧ (1 = 0 ∨ (x0_token = 1 ∧ WkRm (g63 0) (g63 1) (g63 2)))) from ⟨(by grind), h_g60, h_g63, (by grind)⟩)
          · refine Sf.bind (sX7_wrong h_x0_shelf h_x0_rowSize h_x0_tapeSize h_x0_lines h_x0_line h_x0_changes h_x0_coins h_x0_goods h_x0_good h_x0_works h_x0_work h_x0_years h_g28 h_x0_far h_x0_way h_x0_steps h_x0_queue) ?_
            rintro ⟨v33, g34⟩ hr19
            have h_v33 : (0 ≤ v33 ∧ v33 ≤ 0) := hr19
            dsimp only [u2]
            refine Sf.zbb (by grind) (fun v36 e_v36 => ?_)
            exact Sf.ok (show (0 ≤ x0_works ∧ x0_works ≤ 7) ∧ (0 ≤ g28 ∧ g28 ≤ 250) ∧ (RI wkB g31) ∧ ((v36 = 0 ∨ v36 = 1) ∧ (0 ≤ g26 ∧ g26 ≤ x0_tapeSize) ∧ x0_at ≤ g26 ∧ (v36 = 0 ∨ g27 ≠ 3 ∨ x0_at < g26) ∧ (v36 = 0 ∨ (x0_token = 1 ∧ WkRm (g31 0) (g31 1) (g31 2)))) from ⟨h_x0_works, h_g28, h_g31, (by grind)⟩)
    · refine Sf.bind (sX7_wrong h_x0_shelf h_x0_rowSize h_x0_tapeSize h_x0_lines h_x0_line h_x0_changes h_x0_coins h_x0_goods h_x0_good h_x0_works h_x0_work h_x0_years h_g6 h_x0_far h_x0_way h_x0_steps h_x0_queue) ?_
      rintro ⟨v11, g12⟩ hr20
      have h_v11 : (0 ≤ v11 ∧ v11 ≤ 0) := hr20
      dsimp only [u2]
      refine Sf.zbb (by grind) (fun v14 e_v14 => ?_)
      exact Sf.ok (show (0 ≤ x0_works ∧ x0_works ≤ 7) ∧ (0 ≤ g6 ∧ g6 ≤ 250) ∧ (RI wkB g9) ∧ ((v14 = 0 ∨ v14 = 1) ∧ (0 ≤ g4 ∧ g4 ≤ x0_tapeSize) ∧ x0_at ≤ g4 ∧ (v14 = 0 ∨ g5 ≠ 3 ∨ x0_at < g4) ∧ (v14 = 0 ∨ (x0_token = 1 ∧ WkRm (g9 0) (g9 1) (g9 2)))) from ⟨h_x0_works, h_g6, h_g9, (by grind)⟩)

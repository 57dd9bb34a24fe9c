/-! total: the reference's, and alike -/
theorem doU_L {work : Nat → Nat → Int32} {s : Int32} {A : Ab} (h0 : 0 ≤ A.1 ∧ A.1 ≤ 20) : ∀ K : Nat, A.1 ≤ (doU work s K A).1 ∧ 0 ≤ (doU work s K A).1 ∧ (doU work s K A).1 ≤ 20
  | 0 => ⟨Int32.le_refl _, h0⟩
  | K + 1 => by
    have ih := doU_L h0 (s := s) (work := work) K
    show A.1 ≤ (if tq s K = true ∧ work K 4 = 0 then doA work K (doU work s K A) else doU work s K A).1 ∧ 0 ≤ (if tq s K = true ∧ work K 4 = 0 then doA work K (doU work s K A) else doU work s K A).1 ∧ (if tq s K = true ∧ work K 4 = 0 then doA work K (doU work s K A) else doU work s K A).1 ≤ 20
    by_cases hb : tq s K = true ∧ work K 4 = 0
    · rw [if_pos hb]
      have q := doA_L (work := work) (k := K) ih.2
      exact ⟨Int32.le_trans ih.1 q.1, q.2⟩
    · rw [if_neg hb]
      exact ih
theorem doU_congr {work work' : Nat → Nat → Int32} {s : Int32} {A B : Ab} (h : AbEq A B) (h0 : 0 ≤ A.1 ∧ A.1 ≤ 20) : ∀ K : Nat, (∀ k, k < K → ∀ c, c < 5 → work k c = work' k c) → (∀ k, k < K → Wf1 work A.1 k) → AbEq (doU work s K A) (doU work' s K B)
  | 0, _, _ => h
  | K + 1, hw, hf => by
    have ih := doU_congr h h0 K (fun k hk => hw k (by omega)) (fun k hk => hf k (by omega)) (s := s)
    show AbEq (if tq s K = true ∧ work K 4 = 0 then doA work K (doU work s K A) else doU work s K A) (if tq s K = true ∧ work' K 4 = 0 then doA work' K (doU work' s K B) else doU work' s K B)
    rw [← hw K (by omega) 4 (by decide)]
    have q := doU_L h0 (s := s) (work := work) K
    by_cases hb : tq s K = true ∧ work K 4 = 0
    · rw [if_pos hb, if_pos hb]
      exact doA_congr ih (fun c hc => hw K (by omega) c (by omega)) ((hf K (by omega)).mono q.1) q.2
    · rw [if_neg hb, if_neg hb]
      exact ih
theorem TotA_congr {A B : Ab} {coins coins' : Nat → Int32} {good good' : Nat → Nat → Int32} {G : Int32} {work work' : Nat → Nat → Int32} {W yr s : Int32} (h : AbEq A B) (h0 : 0 ≤ A.1 ∧ A.1 ≤ 20) (hco : ∀ w, w < 3 → coins w = coins' w) (hg : ∀ g, g < G.toNatClampNeg → ∀ c, c < 3 → good g c = good' g c) (hw : ∀ k, k < W.toNatClampNeg → ∀ c, c < 5 → work k c = work' k c) (hf : ∀ k, k < W.toNatClampNeg → Wf1 work A.1 k) : TotA A coins good G work W yr s = TotA B coins' good' G work' W yr s := by
  unfold TotA
  rw [FrA_congr (doU_congr h h0 _ hw hf) hco hg, sm_congr (f := cnU work s) (g := cnU work' s) _ (fun k hk => by unfold cnU; rw [hw k hk 3 (by decide), hw k hk 4 (by decide)])]
theorem totalOfR {n : Nat} {x0_shelf : (Nat → Int32)} {x0_rowSort : (Nat → Int32)} {x0_rowSize : (Nat → Int32)} {x0_rows : (Nat → Nat → Int64)} {x0_moved : (Nat → Int64)} {x0_shown : (Nat → Int32)} {x0_tape : (Nat → Int32)} {x0_tapeSize : Int32} {x0_refused : (Nat → Int32)} {x0_lines : Int32} {x0_line : (Nat → Nat → Int32)} {x0_changes : (Nat → Int32)} {x0_coins : (Nat → Int32)} {x0_goods : Int32} {x0_good : (Nat → Nat → Int32)} {x0_works : Int32} {x0_work : (Nat → Nat → Int32)} {x0_years : Int32} {x0_gone : Int32} {x0_spent : Int32} {x0_at : Int32} {x0_token : Int32} {x0_from : Int32} {x0_figures : Int64} {x0_fault : Int32} {x0_numbers : (Nat → Int32)} {x0_statements : Int32} {x0_left : (Nat → Int32)} {x0_far : (Nat → Int32)} {x0_tons : Int32} {x0_way : (Nat → Int32)} {x0_steps : Int32} {x0_met : Int64} {x0_queue : (Nat → Int32)} {x0_totals : (Nat → Int32)} {x1_shelf : (Nat → Int32)} {x1_rowSort : (Nat → Int32)} {x1_rowSize : (Nat → Int32)} {x1_rows : (Nat → Nat → Int64)} {x1_moved : (Nat → Int64)} {x1_shown : (Nat → Int32)} {x1_tape : (Nat → Int32)} {x1_tapeSize : Int32} {x1_refused : (Nat → Int32)} {x1_lines : Int32} {x1_line : (Nat → Nat → Int32)} {x1_changes : (Nat → Int32)} {x1_coins : (Nat → Int32)} {x1_goods : Int32} {x1_good : (Nat → Nat → Int32)} {x1_works : Int32} {x1_work : (Nat → Nat → Int32)} {x1_years : Int32} {x1_gone : Int32} {x1_spent : Int32} {x1_at : Int32} {x1_token : Int32} {x1_from : Int32} {x1_figures : Int64} {x1_fault : Int32} {x1_numbers : (Nat → Int32)} {x1_statements : Int32} {x1_left : (Nat → Int32)} {x1_far : (Nat → Int32)} {x1_tons : Int32} {x1_way : (Nat → Int32)} {x1_steps : Int32} {x1_met : Int64} {x1_queue : (Nat → Int32)} {x1_totals : (Nat → Int32)} {p1 : Int32} (hn : 1000000000000 ≤ n) (h_x0_shelf : (AI 0 2 x0_shelf)) (h_x0_rowSize : (AI 0 40 x0_rowSize)) (h_x0_tapeSize : (0 ≤ x0_tapeSize ∧ x0_tapeSize ≤ 250)) (h_x0_lines : (0 ≤ x0_lines ∧ x0_lines ≤ 20)) (h_x0_line : (LnM x0_line)) (h_x0_changes : (AI 0 99 x0_changes)) (h_x0_coins : (AI 0 9 x0_coins)) (h_x0_goods : (0 ≤ x0_goods ∧ x0_goods ≤ 8)) (h_x0_good : (GdM x0_good)) (h_x0_works : (0 ≤ x0_works ∧ x0_works ≤ 7)) (h_x0_work : (WkM x0_work)) (h_x0_years : (1 ≤ x0_years ∧ x0_years ≤ 30)) (h_x0_from : (0 ≤ x0_from ∧ x0_from ≤ 250)) (h_x0_far : (AI 0 1000000000 x0_far)) (h_x0_way : (AI 0 22 x0_way)) (h_x0_steps : (0 ≤ x0_steps ∧ x0_steps ≤ 37)) (h_x0_queue : (AI 0 35 x0_queue)) (h_x1_shelf : (AI 0 2 x1_shelf)) (h_x1_rowSize : (AI 0 40 x1_rowSize)) (h_x1_tapeSize : (0 ≤ x1_tapeSize ∧ x1_tapeSize ≤ 250)) (h_x1_lines : (0 ≤ x1_lines ∧ x1_lines ≤ 20)) (h_x1_line : (LnM x1_line)) (h_x1_changes : (AI 0 99 x1_changes)) (h_x1_coins : (AI 0 9 x1_coins)) (h_x1_goods : (0 ≤ x1_goods ∧ x1_goods ≤ 8)) (h_x1_good : (GdM x1_good)) (h_x1_works : (0 ≤ x1_works ∧ x1_works ≤ 7)) (h_x1_work : (WkM x1_work)) (h_x1_years : (1 ≤ x1_years ∧ x1_years ≤ 30)) (h_x1_from : (0 ≤ x1_from ∧ x1_from ≤ 250)) (h_x1_far : (AI 0 1000000000 x1_far)) (h_x1_way : (AI 0 22 x1_way)) (h_x1_steps : (0 ≤ x1_steps ∧ x1_steps ≤ 37)) (h_x1_queue : (AI 0 35 x1_queue)) (hf : ∀ k, k < x0_works.toNatClampNeg → Wf1 x0_work x0_lines k) : Sf (fX7_totalOf n (x0_shelf, x0_rowSort, x0_rowSize, x0_rows, x0_moved, x0_shown, x0_tape, x0_tapeSize, x0_refused, x0_lines, x0_line, x0_changes, x0_coins, x0_goods, x0_good, x0_works, x0_work, x0_years, x0_gone, x0_spent, x0_at, x0_token, x0_from, x0_figures, x0_fault, x0_numbers, x0_statements, x0_left, x0_far, x0_tons, x0_way, x0_steps, x0_met, x0_queue, x0_totals) (x1_shelf, x1_rowSort, x1_rowSize, x1_rows, x1_moved, x1_shown, x1_tape, x1_tapeSize, x1_refused, x1_lines, x1_line, x1_changes, x1_coins, x1_goods, x1_good, x1_works, x1_work, x1_years, x1_gone, x1_spent, x1_at, x1_token, x1_from, x1_figures, x1_fault, x1_numbers, x1_statements, x1_left, x1_far, x1_tons, x1_way, x1_steps, x1_met, x1_queue, x1_totals) p1) (fun r => r.1 = TotA (x0_lines, x0_line, x0_changes) x0_coins x0_good x0_goods x0_work x0_works x0_years p1) := by
  unfold fX7_totalOf
  dsimp only [u35]
  refine Sf.bind (Sf.and (sX7_fresh hn h_x0_shelf h_x0_rowSize h_x0_tapeSize h_x0_lines h_x0_line h_x0_changes h_x0_coins h_x0_goods h_x0_good h_x0_works h_x0_work h_x0_years h_x0_from h_x0_far h_x0_way h_x0_steps h_x0_queue h_x1_shelf h_x1_rowSize h_x1_tapeSize h_x1_lines h_x1_line h_x1_changes h_x1_coins h_x1_goods h_x1_good h_x1_works h_x1_work h_x1_years h_x1_from h_x1_far h_x1_way h_x1_steps h_x1_queue) (freshR hn)) ?_
  rintro ⟨g2, g3, g4, g5, g6, g7, g8, g9, g10, g11, g12⟩ ⟨⟨b1, b2, b3, b4, b5, b6, b7, b8, b9⟩, s1, s2, s3, s4, s5, s6, s7, s8, s9, _, _⟩
  have s1 : g2 = x0_lines := s1
  have s2 : ∀ l, l < 20 → ∀ c, c < 7 → g3 l c = x0_line l c := s2
  have s3 : ∀ p, p < 12 → g4 p = x0_changes p := s3
  have s4 : ∀ w, w < 3 → g5 w = x0_coins w := s4
  have s5 : g6 = x0_goods := s5
  have s6 : ∀ g, g < 8 → ∀ c, c < 3 → g7 g c = x0_good g c := s6
  have s8 : ∀ k, k < 7 → ∀ c, c < 5 → g9 k c = x0_work k c := s8
  have b1 : 0 ≤ g2 ∧ g2 ≤ 20 := b1
  have b2 : LnM g3 := b2
  have b3 : AI 0 99 g4 := b3
  have b8 : WkM g9 := b8
  have hL := nlt (M := 20) (N := 20) rfl h_x0_lines
  have hG := nlt (M := 8) (N := 8) rfl h_x0_goods
  have hW7 := nlt (M := 7) (N := 7) rfl h_x0_works
  subst s1 s5
  try dsimp only [u11]
  have hf9 : ∀ k, k < x0_works.toNatClampNeg → Wf1 g9 g2 k := fun k hk => (hf k hk).congr (fun c hc => (s8 k (by omega) c (by omega)).symm)
  refine Sf.bind (P := fun r : Int32 × Int32 × (Nat → Nat → Int32) × (Nat → Int32) × (Nat → Nat → Int32) => ((0 ≤ r.2.1 ∧ r.2.1 ≤ 20) ∧ LnM r.2.2.1 ∧ AI 0 99 r.2.2.2.1 ∧ WkM r.2.2.2.2) ∧ r.1 = sm (cnU g9 p1) x0_works.toNatClampNeg ∧ AbEq (r.2.1, r.2.2.1, r.2.2.2.1) (doU g9 p1 x0_works.toNatClampNeg (g2, g3, g4))) ?_ ?_
  · refine Sf.loop6 (fun (z15 z16 z17 : Int32) (z18 : Nat → Nat → Int32) (z19 : Nat → Int32) (z20 : Nat → Nat → Int32) => (0 ≤ z16 ∧ z16 ≤ x0_works) ∧ ((0 ≤ z17 ∧ z17 ≤ 20) ∧ LnM z18 ∧ AI 0 99 z19 ∧ WkM z20) ∧ z15 = sm (cnU g9 p1) z16.toNatClampNeg ∧ AbEq (z17, z18, z19) (doU g9 p1 z16.toNatClampNeg (g2, g3, g4)) ∧ ∀ j, z16.toNatClampNeg ≤ j → z20 j = g9 j) (fun z15 z16 z17 z18 z19 z20 => muUp z16) (fun z15 z16 z17 z18 z19 z20 h => ?_) (show (0 ≤ (0 : Int32) ∧ (0 : Int32) ≤ x0_works) ∧ ((0 ≤ g2 ∧ g2 ≤ 20) ∧ LnM g3 ∧ AI 0 99 g4 ∧ WkM g9) ∧ (0 : Int32) = sm (cnU g9 p1) (0 : Int32).toNatClampNeg ∧ AbEq (g2, g3, g4) (doU g9 p1 (0 : Int32).toNatClampNeg (g2, g3, g4)) ∧ ∀ j, (0 : Int32).toNatClampNeg ≤ j → g9 j = g9 j from ⟨⟨by decide, h_x0_works.1⟩, ⟨b1, b2, b3, b8⟩, rfl, AbEq.refl _, fun _ _ => rfl⟩) (muUp_n hn)
    obtain ⟨i0, ⟨l1, l2, l3, l4⟩, i1, i2, i3⟩ := h
    unfold fX7_totalOf_s10
    refine Sf.ite (fun hc => ?_) (fun hc => ?_)
    · have e : z16 = x0_works := Int32.le_antisymm i0.2 hc
      rw [e] at i1 i2
      exact Sf.inr ⟨⟨l1, l2, l3, l4⟩, i1, i2⟩
    obtain ⟨p0, p1', p3⟩ := up1 i0.1 (Int32.le_trans h_x0_works.2 (by decide)) hc
    have hz1 : z16 + 1 ≤ x0_works := by clear i1 i2 i3 hf hf9; grind
    have hz6 : 0 ≤ z16 ∧ z16 ≤ 6 := ⟨i0.1, by clear i1 i2 i3 hf hf9; grind⟩
    have hz30 : 0 ≤ z16 ∧ z16 ≤ 30 := ⟨i0.1, Int32.le_trans hz6.2 (by decide)⟩
    have hzn : z16.toNatClampNeg < x0_works.toNatClampNeg := by
      have a := i32_cl i0.1
      have b := i32_cl h_x0_works.1
      have c := Int32.lt_iff_toInt_lt.mp p3
      omega
    have hi : 0 ≤ z16 ∧ z16 < 7 := ⟨hz6.1, Int32.lt_of_le_of_lt hz6.2 (by decide)⟩
    have row : z20 z16.toNatClampNeg = g9 z16.toNatClampNeg := i3 _ (Nat.le_refl _)
    have nx1 : sm (cnU g9 p1) (z16 + 1).toNatClampNeg = z15 + cnU g9 p1 z16.toNatClampNeg := by
      rw [p1', i1]
      rfl
    have nx2 : doU g9 p1 (z16 + 1).toNatClampNeg (g2, g3, g4) = if tq p1 z16.toNatClampNeg = true ∧ g9 z16.toNatClampNeg 4 = 0 then doA g9 z16.toNatClampNeg (doU g9 p1 z16.toNatClampNeg (g2, g3, g4)) else doU g9 p1 z16.toNatClampNeg (g2, g3, g4) := by
      rw [p1']
      rfl
    have i3' : ∀ j, (z16 + 1).toNatClampNeg ≤ j → z20 j = g9 j := fun j hj => i3 j (by omega)
    have keep : ¬ (tq p1 z16.toNatClampNeg = true ∧ g9 z16.toNatClampNeg 4 = 0) → (0 ≤ z16 + 1 ∧ z16 + 1 ≤ x0_works) ∧ ((0 ≤ z17 ∧ z17 ≤ 20) ∧ LnM z18 ∧ AI 0 99 z19 ∧ WkM z20) ∧ z15 = sm (cnU g9 p1) (z16 + 1).toNatClampNeg ∧ AbEq (z17, z18, z19) (doU g9 p1 (z16 + 1).toNatClampNeg (g2, g3, g4)) ∧ ∀ j, (z16 + 1).toNatClampNeg ≤ j → z20 j = g9 j := by
      intro hno
      refine ⟨⟨p0, hz1⟩, ⟨l1, l2, l3, l4⟩, ?_, ?_, i3'⟩
      · rw [nx1]
        unfold cnU
        rw [if_neg hno, Int32.add_zero]
      · rw [nx2, if_neg hno]
        exact i2
    refine Sf.ite (fun hb => Sf.inl (keep (fun h => by rw [(bit_at hz30).mp hb] at h; exact absurd h.1 (by decide))) (muUp_lt hc)) (fun hb => ?_)
    have hb : tq p1 z16.toNatClampNeg = true := by
      cases hq : tq p1 z16.toNatClampNeg with
      | true => rfl
      | false => exact absurd ((bit_at hz30).mpr hq) hb
    refine Sf.ckb 7 rfl hi (fun q32 e32 _ => ?_)
    refine Sf.rdl 4 rfl rfl (fun v33 e33 => ?_)
    rw [e32, row] at e33
    refine Sf.ite (fun hv => ?_) (fun hv => Sf.inl (keep (fun h => hv (e33.trans h.2))) (muUp_lt hc))
    rw [e33] at hv
    refine Sf.ckb 7 rfl hi (fun q34 e34 _ => ?_)
    refine Sf.rdl 3 rfl rfl (fun v35 e35 => ?_)
    rw [e34, row] at e35
    refine Sf.bind (Sf.and (sX7_does h_x1_shelf h_x1_rowSize h_x1_tapeSize l1 l2 l3 b4 b5 b6 b7 l4 b9 h_x1_from h_x1_far h_x1_way h_x1_steps h_x1_queue hz6) (doesR l1 l4 hz6)) ?_
    rintro ⟨g36, g37, g38, g39⟩ ⟨⟨d1, d2, d3, d4, _⟩, e36, e39⟩
    have e36 : AbEq (g36, g37, g38) (doA z20 z16.toNatClampNeg (z17, z18, z19)) := e36
    have e39 : g39 = va_up z20 z16.toNatClampNeg (va_up (z20 z16.toNatClampNeg) 4 1) := e39
    try dsimp only [u4]
    have qL := doU_L (work := g9) (s := p1) (A := (g2, g3, g4)) b1 z16.toNatClampNeg
    have eL : z17 = (doU g9 p1 z16.toNatClampNeg (g2, g3, g4)).1 := i2.1
    have hw1 : Wf1 z20 z17 z16.toNatClampNeg := ((hf9 _ hzn).congr (fun c _ => by rw [row])).mono (by rw [eL]; exact qL.1)
    refine Sf.inl (show (0 ≤ z16 + 1 ∧ z16 + 1 ≤ x0_works) ∧ ((0 ≤ g36 ∧ g36 ≤ 20) ∧ LnM g37 ∧ AI 0 99 g38 ∧ WkM g39) ∧ z15 + v35 = sm (cnU g9 p1) (z16 + 1).toNatClampNeg ∧ AbEq (g36, g37, g38) (doU g9 p1 (z16 + 1).toNatClampNeg (g2, g3, g4)) ∧ ∀ j, (z16 + 1).toNatClampNeg ≤ j → g39 j = g9 j from ⟨⟨p0, hz1⟩, ⟨d1, d2, d3, d4⟩, ?_, ?_, fun j hj => ?_⟩) (muUp_lt hc)
    · rw [nx1, e35]
      unfold cnU
      rw [if_pos ⟨hb, hv⟩]
    · rw [nx2, if_pos ⟨hb, hv⟩]
      exact AbEq.trans e36 (doA_congr i2 (fun c _ => by rw [row]) hw1 l1)
    · rw [e39, va_ne _ _ (by omega)]
      exact i3' j hj
  · rintro ⟨w22, w23, w24, w25, w26⟩ ⟨⟨l1, l2, l3, l4⟩, h1, h2⟩
    have h1 : w22 = _ := h1
    have h2 : AbEq (w23, w24, w25) _ := h2
    try dsimp only [u5]
    refine Sf.bind (freeR hn h_x1_shelf h_x1_rowSize h_x1_tapeSize l1 l2 l3 b4 b5 b6 b7 l4 b9 h_x1_from h_x1_far h_x1_way h_x1_steps h_x1_queue) ?_
    rintro ⟨v27, g28, g29, g30⟩ e27
    have e27 : v27 = FrA (w23, w24, w25) g5 g7 g6 := e27
    refine Sf.ok ?_
    show w22 + x0_years * v27 = _
    have hA : AbEq (g2, g3, g4) (g2, x0_line, x0_changes) := ⟨rfl, fun l hl c hc => s2 l (Nat.lt_of_lt_of_le hl hL) c hc, s3⟩
    have q := TotA_congr (W := x0_works) (yr := x0_years) (s := p1) hA b1 s4 (fun g hg c hc => s6 g (Nat.lt_of_lt_of_le hg hG) c hc) (fun k hk c hc => s8 k (by omega) c hc) hf9
    rw [← q, h1, e27, FrA_congr h2 (fun _ _ => rfl) (fun _ _ _ _ => rfl)]
    unfold TotA
    rw [Int32.add_comm]

/-! land() -/
theorem CpR.refl (L : Int32) (line : Nat → Nat → Int32) (ch co : Nat → Int32) (G : Int32) (good : Nat → Nat → Int32) (W : Int32) (work : Nat → Nat → Int32) (Y gn sp : Int32) : CpR L line ch co G good W work Y gn sp (L, line, ch, co, G, good, W, work, Y, gn, sp) := ⟨rfl, fun _ _ _ _ => rfl, fun _ _ => rfl, fun _ _ => rfl, rfl, fun _ _ _ _ => rfl, rfl, fun _ _ _ _ => rfl, rfl, rfl, rfl⟩
theorem CpC.refl (lc gc wc yr : Int32) (lines goods works chg coin : Nat → Int32) : CpC lc gc wc yr lines goods works chg coin (lc, gc, wc, yr, lines, goods, works, chg, coin, 0) := ⟨rfl, rfl, rfl, rfl, fun _ _ _ _ => rfl, fun _ _ _ _ => rfl, fun _ _ _ _ => rfl, fun _ _ => rfl, fun _ _ => rfl, rfl⟩
theorem dLand {n : Nat} {x0_refused : (Nat → Int32)} {x0_isKept : Int32} {x0_gone : Int32} {x0_spent : Int32} {x1_gained : Nat → Int32} {x2_lineCount : Int32} {x2_goodsCount : Int32} {x2_workCount : Int32} {x2_years : Int32} {x2_lines : (Nat → Int32)} {x2_goods : (Nat → Int32)} {x2_works : (Nat → Int32)} {x2_change : (Nat → Int32)} {x2_coin : (Nat → Int32)} {x2_knownFree : (Nat → Int32)} {x2_isKnown : Int32} {x3_lineCount : Int32} {x3_goodsCount : Int32} {x3_workCount : Int32} {x3_years : Int32} {x3_lines : (Nat → Int32)} {x3_goods : (Nat → Int32)} {x3_works : (Nat → Int32)} {x3_change : (Nat → Int32)} {x3_coin : (Nat → Int32)} {x3_knownFree : (Nat → Int32)} {x3_isKnown : Int32} {x4_bytes : (Nat → Int32)} {x4_size : Int32} {x4_start : Int32} {x4_end : Int32} {x4_token : Int32} {x4_value : Int32} {m_shelf : (Nat → Int32)} {m_rowSort : (Nat → Int32)} {m_rowSize : (Nat → Int32)} {m_rows : (Nat → Nat → Int64)} {m_moved : (Nat → Int64)} {m_shown : (Nat → Int32)} {m_tape : (Nat → Int32)} {m_tapeSize : Int32} {m_refused : (Nat → Int32)} {m_lines : Int32} {m_line : (Nat → Nat → Int32)} {m_changes : (Nat → Int32)} {m_coins : (Nat → Int32)} {m_goods : Int32} {m_good : (Nat → Nat → Int32)} {m_works : Int32} {m_work : (Nat → Nat → Int32)} {m_years : Int32} {m_gone : Int32} {m_spent : Int32} {m_at : Int32} {m_token : Int32} {m_from : Int32} {m_figures : Int64} {m_fault : Int32} {m_numbers : (Nat → Int32)} {m_statements : Int32} {m_left : (Nat → Int32)} {m_far : (Nat → Int32)} {m_tons : Int32} {m_way : (Nat → Int32)} {m_steps : Int32} {m_met : Int64} {m_queue : (Nat → Int32)} {m_totals : (Nat → Int32)} {t_shelf : (Nat → Int32)} {t_rowSort : (Nat → Int32)} {t_rowSize : (Nat → Int32)} {t_rows : (Nat → Nat → Int64)} {t_moved : (Nat → Int64)} {t_shown : (Nat → Int32)} {t_tape : (Nat → Int32)} {t_tapeSize : Int32} {t_refused : (Nat → Int32)} {t_lines : Int32} {t_line : (Nat → Nat → Int32)} {t_changes : (Nat → Int32)} {t_coins : (Nat → Int32)} {t_goods : Int32} {t_good : (Nat → Nat → Int32)} {t_works : Int32} {t_work : (Nat → Nat → Int32)} {t_years : Int32} {t_gone : Int32} {t_spent : Int32} {t_at : Int32} {t_token : Int32} {t_from : Int32} {t_figures : Int64} {t_fault : Int32} {t_numbers : (Nat → Int32)} {t_statements : Int32} {t_left : (Nat → Int32)} {t_far : (Nat → Int32)} {t_tons : Int32} {t_way : (Nat → Int32)} {t_steps : Int32} {t_met : Int64} {t_queue : (Nat → Int32)} {t_totals : (Nat → Int32)} {er e1 e2 e3 e4 e10 fr f1 f5 f7 f9 f10 f11 : Int32} {e0 e5 e6 e7 e8 e9 f3 f4 f0 : Nat → Int32} {f2 f6 f8 : Nat → Nat → Int32} {A10 : Int32 × Int32 × Int32 × Int32 × (Nat → Int32) × (Nat → Int32) × (Nat → Int32) × (Nat → Int32) × (Nat → Int32) × Int32} {B5 : Int32 × Int32 × Int32 × Int32 × Int32} {ts : Int32} {C7 : Int32 × Int32 × Int32 × Int64 × Int32 × (Nat → Int32) × Int32} {D11 : Int32 × (Nat → Nat → Int32) × (Nat → Int32) × (Nat → Int32) × Int32 × (Nat → Nat → Int32) × Int32 × (Nat → Nat → Int32) × Int32 × Int32 × Int32} (hn : 1000000000000 ≤ n) (h_x2_lineCount : (0 ≤ x2_lineCount ∧ x2_lineCount ≤ 20)) (h_x2_goodsCount : (0 ≤ x2_goodsCount ∧ x2_goodsCount ≤ 8)) (h_x2_workCount : (0 ≤ x2_workCount ∧ x2_workCount ≤ 7)) (h_x2_years : (1 ≤ x2_years ∧ x2_years ≤ 30)) (h_x2_lines : (LnOk x2_lines)) (h_x2_goods : (GdOk x2_goods)) (h_x2_works : (WkOk x2_works)) (h_x2_change : (AI 0 99 x2_change)) (h_x2_coin : (AI 0 9 x2_coin)) (h_x3_lineCount : (0 ≤ x3_lineCount ∧ x3_lineCount ≤ 20)) (h_x3_goodsCount : (0 ≤ x3_goodsCount ∧ x3_goodsCount ≤ 8)) (h_x3_workCount : (0 ≤ x3_workCount ∧ x3_workCount ≤ 7)) (h_x3_years : (1 ≤ x3_years ∧ x3_years ≤ 30)) (h_x3_lines : (LnOk x3_lines)) (h_x3_goods : (GdOk x3_goods)) (h_x3_works : (WkOk x3_works)) (h_x3_change : (AI 0 99 x3_change)) (h_x3_coin : (AI 0 9 x3_coin)) (h_x4_size : (0 ≤ x4_size ∧ x4_size ≤ 250)) (h_x4_start : (0 ≤ x4_start ∧ x4_start ≤ 250)) (h_x4_end : (0 ≤ x4_end ∧ x4_end ≤ 250)) (hA : (LaD x3_lineCount x3_goodsCount x3_workCount x3_years x3_lines x3_goods x3_works x3_change x3_coin m_lines m_line m_changes m_coins m_goods m_good m_works m_work m_years)) (hk : Kn (FrS x3_lineCount (ro 7 x3_lines) x3_change x3_coin (ro 3 x3_goods) x3_goodsCount (ro 5 x3_works) x3_workCount) x3_knownFree x3_isKnown) (hz : x4_size = m_tapeSize) (hb : x4_bytes = m_tape) (eqA : fX6_land n (x0_refused, x0_isKept, x0_gone, x0_spent) x1_gained (x2_lineCount, x2_goodsCount, x2_workCount, x2_years, x2_lines, x2_goods, x2_works, x2_change, x2_coin, x2_knownFree, x2_isKnown) (x3_lineCount, x3_goodsCount, x3_workCount, x3_years, x3_lines, x3_goods, x3_works, x3_change, x3_coin, x3_knownFree, x3_isKnown) (x4_bytes, x4_size, x4_start, x4_end, x4_token, x4_value) = some (er, e0, A10, (e1, e2, e3, e4, e5, e6, e7, e8, e9, e10), B5)) (eqB : fX7_land n (m_shelf, m_rowSort, m_rowSize, m_rows, m_moved, m_shown, m_tape, m_tapeSize, m_refused, m_lines, m_line, m_changes, m_coins, m_goods, m_good, m_works, m_work, m_years, m_gone, m_spent, m_at, m_token, m_from, m_figures, m_fault, m_numbers, m_statements, m_left, m_far, m_tons, m_way, m_steps, m_met, m_queue, m_totals) (t_shelf, t_rowSort, t_rowSize, t_rows, t_moved, t_shown, t_tape, t_tapeSize, t_refused, t_lines, t_line, t_changes, t_coins, t_goods, t_good, t_works, t_work, t_years, t_gone, t_spent, t_at, t_token, t_from, t_figures, t_fault, t_numbers, t_statements, t_left, t_far, t_tons, t_way, t_steps, t_met, t_queue, t_totals) = some (fr, (ts, f0, f1, f2, f3, f4, f5, f6, f7, f8, f9, f10, f11, C7), D11)) : er = fr ∧ LaD e1 e2 e3 e4 e5 e6 e7 e8 e9 f1 f2 f3 f4 f5 f6 f7 f8 f9 ∧ Kn (FrS e1 (ro 7 e5) e8 e9 (ro 3 e6) e2 (ro 5 e7) e3) x3_knownFree e10 := by
  subst hz hb
  unfold fX6_land at eqA
  dsimp only [u4, u11, u6] at eqA
  obtain ⟨G1, eT, eqA⟩ := bs eqA
  have cT := (takeC h_x3_lineCount h_x3_goodsCount h_x3_workCount h_x3_years h_x3_lines h_x3_goods h_x3_works h_x3_change h_x3_coin).at eT
  have bT := (sX1_take h_x2_lines h_x2_goods h_x2_works h_x2_change h_x2_coin h_x3_lineCount h_x3_goodsCount h_x3_workCount h_x3_years h_x3_lines h_x3_goods h_x3_works h_x3_change h_x3_coin).at eT
  obtain ⟨g2, g3, g4, g5, g6, g7, g8, g9, g10, g11⟩ := G1
  dsimp only [u10] at eqA
  obtain ⟨bb1, bb2, bb3, bb4, bb5, bb6, bb7, bb8, bb9⟩ := bT
  have hC : LaD g2 g3 g4 g5 g6 g7 g8 g9 g10 m_lines m_line m_changes m_coins m_goods m_good m_works m_work m_years := hA.copy h_x3_lineCount h_x3_goodsCount h_x3_workCount cT (CpR.refl _ _ _ _ _ _ _ _ _ m_gone m_spent)
  obtain ⟨r, q, eR, eQ, hR⟩ := tape2 (x0_bytes := x4_bytes) (x0_size := x4_size) (x0_start := x4_start) (x0_end := x4_end) (x0_token := x4_token) (x0_value := x4_value) (x1_knownFree := x2_knownFree) (x1_isKnown := g11) (m_shelf := m_shelf) (m_rowSort := m_rowSort) (m_rowSize := m_rowSize) (m_rows := m_rows) (m_moved := m_moved) (m_shown := m_shown) (m_refused := m_refused) (m_gone := m_gone) (m_spent := m_spent) (m_at := m_at) (m_token := m_token) (m_from := m_from) (m_figures := m_figures) (m_fault := m_fault) (m_numbers := m_numbers) (m_statements := m_statements) (m_left := m_left) (m_far := m_far) (m_tons := m_tons) (m_way := m_way) (m_steps := m_steps) (m_met := m_met) (m_queue := m_queue) (m_totals := m_totals) hn h_x4_size bb1 bb2 bb3 bb4 bb5 bb6 bb7 bb8 bb9 hC
  have bR := (sX3_readInto (x0_start := x4_start) (x0_end := x4_end) (x1_knownFree := x2_knownFree) (x1_isKnown := g11) hn h_x4_size h_x4_start h_x4_end bb1 bb2 bb3 bb4 bb5 bb6 bb7 bb8 bb9).at eR
  rw [eR] at eqA
  obtain ⟨v13, g14, g15, g16, g17, g19, g20, g21, g22, g23, g24, g25, g26, g27, g28⟩ := r
  unfold fX7_land at eqB
  dsimp only [u35] at eqB
  obtain ⟨G2, eF, eqB⟩ := bs eqB
  have cF := (freshR hn).at eF
  obtain ⟨h2, h3, h4, h5, h6, h7, h8, h9, h10, h11, h12⟩ := G2
  dsimp only [u11] at eqB
  rw [eQ] at eqB
  obtain ⟨v14, k16, k17, k18, k19, k20, k21, k22, k23, k24, k25, k26, k27, k28, k29, k30, k31⟩ := q
  have eqA : (if 0 ≤ v13 then _ else _ : Option _) = some _ := eqA
  have eqB : (if v14 = 0 then _ else _ : Option _) = some _ := eqB
  rcases hR with ⟨c1, c2, c3⟩ | ⟨c1, c2, c3, c4⟩
  · have c1 : v13 < 0 := c1
    have c2 : v14 = 0 := c2
    have c3 : v13 = -20 - k29 := c3
    rw [if_neg (Int32.not_le.mpr c1)] at eqA
    rw [if_pos c2] at eqB
    obtain ⟨o, _, eqA⟩ := bs eqA
    obtain ⟨G3, eK, eqB⟩ := bs eqB
    have cK := (takeFromR hn).at eK
    obtain ⟨i2, i3, i4, i5, i6, i7, i8, i9, i10, i11, i12⟩ := G3
    have eqB : Option.bind (fX7_refuse _ (-2)) _ = some _ := eqB
    obtain ⟨o2, _, eqB⟩ := bs eqB
    obtain ⟨o1, o1'⟩ := o
    obtain ⟨o3, o4⟩ := o2
    have eqA := Option.some.inj eqA
    have eqB := Option.some.inj eqB
    cases eqA
    have p0 : (-20 : Int32) - k29 = fr := congrArg (fun z => z.1) eqB
    have p1 : i2 = f1 := congrArg (fun z => z.2.1.2.2.1) eqB
    have p2 : i3 = f2 := congrArg (fun z => z.2.1.2.2.2.1) eqB
    have p3 : i4 = f3 := congrArg (fun z => z.2.1.2.2.2.2.1) eqB
    have p4 : i5 = f4 := congrArg (fun z => z.2.1.2.2.2.2.2.1) eqB
    have p5 : i6 = f5 := congrArg (fun z => z.2.1.2.2.2.2.2.2.1) eqB
    have p6 : i7 = f6 := congrArg (fun z => z.2.1.2.2.2.2.2.2.2.1) eqB
    have p7 : i8 = f7 := congrArg (fun z => z.2.1.2.2.2.2.2.2.2.2.1) eqB
    have p8 : i9 = f8 := congrArg (fun z => z.2.1.2.2.2.2.2.2.2.2.2.1) eqB
    have p9 : i10 = f9 := congrArg (fun z => z.2.1.2.2.2.2.2.2.2.2.2.2.1) eqB
    subst p0 p1 p2 p3 p4 p5 p6 p7 p8 p9
    have hE : LaD x3_lineCount x3_goodsCount x3_workCount x3_years x3_lines x3_goods x3_works x3_change x3_coin h2 h3 h4 h5 h6 h7 h8 h9 h10 := hA.copy h_x3_lineCount h_x3_goodsCount h_x3_workCount (CpC.refl _ _ _ _ _ _ _ _ _) cF
    exact ⟨c3, hE.copy h_x3_lineCount h_x3_goodsCount h_x3_workCount (CpC.refl _ _ _ _ _ _ _ _ _) cK, hk⟩
  · have c1 : 0 ≤ v13 := c1
    have c2 : ¬ v14 = 0 := c2
    have c3 : v13 = k31 := c3
    have c4 : LaD g19 g20 g21 g22 g23 g24 g25 g26 g27 k16 k17 k18 k19 k20 k21 k22 k23 k24 := c4
    rw [if_pos c1] at eqA
    rw [if_neg c2] at eqB
    obtain ⟨G3, eK, eqA⟩ := bs eqA
    obtain ⟨_, _, d1, d2, d3, d4, d5, d6, d7, d8, d9⟩ := bR
    have cK := (takeC d1 d2 d3 d4 d5 d6 d7 d8 d9).at eK
    obtain ⟨i2, i3, i4, i5, i6, i7, i8, i9, i10, i11⟩ := G3
    have eqA := Option.some.inj eqA
    have eqB := Option.some.inj eqB
    cases eqA
    cases eqB
    exact ⟨c3, c4.copy d1 d2 d3 cK (CpR.refl _ _ _ _ _ _ _ _ _ m_gone m_spent), Or.inl cK.2.2.2.2.2.2.2.2.2⟩

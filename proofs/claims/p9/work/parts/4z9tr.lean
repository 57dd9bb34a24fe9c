/-! the whole tape, both readers -/
def rcE (o : (Int32 × Int32 × Int32 × Int32 × Int32 × Int32 × Int32 × Int32 × (Nat → Int32) × (Nat → Int32) × (Nat → Int32) × (Nat → Int32) × (Nat → Int32) × Int32) ⊕ ((Int32 × Int32 × Int32 × Int32 × Int32 × Int32 × Int32 × Int32 × Int32 × (Nat → Int32) × (Nat → Int32) × (Nat → Int32) × (Nat → Int32) × (Nat → Int32) × Int32) ⊕ ((Int32 × Int32 × Int32 × Int32 × Int32 × Int32 × Int32 × Int32 × (Nat → Int32) × (Nat → Int32) × (Nat → Int32) × (Nat → Int32) × (Nat → Int32) × Int32) ⊕ (Int32 × Int32 × Int32 × Int32 × Int32 × Int32 × Int32 × Int32 × (Nat → Int32) × (Nat → Int32) × (Nat → Int32) × (Nat → Int32) × (Nat → Int32) × Int32)))) : Option (Int32 × Int32 × Int32 × Int32 × Int32 × (Int32 × Int32 × Int32 × Int32 × (Nat → Int32) × (Nat → Int32) × (Nat → Int32) × (Nat → Int32) × (Nat → Int32) × Int32)) := (Sum.elim (u14 fun w23 w24 w25 w26 w27 w28 w29 w30 w31 w32 w33 w34 w35 w36 => some (((-20) - w23), w23, w24, w25, w26, (w27, w28, w29, w30, w31, w32, w33, w34, w35, w36))) (Sum.elim (u15 fun w37 w38 w39 w40 w41 w42 w43 w44 w45 w46 w47 w48 w49 w50 w51 => some (w37, w38, w39, w40, w41, (w42, w43, w44, w45, w46, w47, w48, w49, w50, w51))) (Sum.elim (u14 fun w52 w53 w54 w55 w56 w57 w58 w59 w60 w61 w62 w63 w64 w65 => some (((-20) - w52), w52, w53, w54, w55, (w56, w57, w58, w59, w60, w61, w62, w63, w64, w65))) (u14 fun w66 w67 w68 w69 w70 w71 w72 w73 w74 w75 w76 w77 w78 w79 => some (((-20) - w66), w66, w67, w68, w69, (w70, w71, w72, w73, w74, w75, w76, w77, w78, w79)))))) o
def TpR (r : Int32 × Int32 × Int32 × Int32 × Int32 × (Int32 × Int32 × Int32 × Int32 × (Nat → Int32) × (Nat → Int32) × (Nat → Int32) × (Nat → Int32) × (Nat → Int32) × Int32)) (q : Int32 × (Int32 × (Nat → Nat → Int32) × (Nat → Int32) × (Nat → Int32) × Int32 × (Nat → Nat → Int32) × Int32 × (Nat → Nat → Int32) × Int32 × Int32 × Int32 × Int32 × Int64 × Int32 × (Nat → Int32) × Int32)) : Prop :=
  (r.1 < 0 ∧ q.1 = 0 ∧ r.1 = -20 - q.2.2.2.2.2.2.2.2.2.2.2.2.2.2.1) ∨ (0 ≤ r.1 ∧ ¬ q.1 = 0 ∧ r.1 = q.2.2.2.2.2.2.2.2.2.2.2.2.2.2.2.2 ∧ LaD r.2.2.2.2.2.1 r.2.2.2.2.2.2.1 r.2.2.2.2.2.2.2.1 r.2.2.2.2.2.2.2.2.1 r.2.2.2.2.2.2.2.2.2.1 r.2.2.2.2.2.2.2.2.2.2.1 r.2.2.2.2.2.2.2.2.2.2.2.1 r.2.2.2.2.2.2.2.2.2.2.2.2.1 r.2.2.2.2.2.2.2.2.2.2.2.2.2.1 q.2.1 q.2.2.1 q.2.2.2.1 q.2.2.2.2.1 q.2.2.2.2.2.1 q.2.2.2.2.2.2.1 q.2.2.2.2.2.2.2.1 q.2.2.2.2.2.2.2.2.1 q.2.2.2.2.2.2.2.2.2.1)
theorem rc_0 {n : Nat} {x0_bytes : (Nat → Int32)} {x0_size : Int32} {x0_start : Int32} {x0_end : Int32} {x0_token : Int32} {x0_value : Int32} {x1_lineCount : Int32} {x1_goodsCount : Int32} {x1_workCount : Int32} {x1_years : Int32} {x1_lines : (Nat → Int32)} {x1_goods : (Nat → Int32)} {x1_works : (Nat → Int32)} {x1_change : (Nat → Int32)} {x1_coin : (Nat → Int32)} {x1_knownFree : (Nat → Int32)} {x1_isKnown : Int32} : fX3_readInto n (x0_bytes, x0_size, x0_start, x0_end, x0_token, x0_value) (x1_lineCount, x1_goodsCount, x1_workCount, x1_years, x1_lines, x1_goods, x1_works, x1_change, x1_coin, x1_knownFree, x1_isKnown) = (fX3_next n (x0_bytes, x0_size, x0_start, 0, x0_token, x0_value)).bind (u4 fun g1 g2 g3 g4 => (lp (u15 (fX3_readInto_s11 n x0_bytes x0_size x1_knownFree)) n (1, g1, g2, g3, g4, x1_lineCount, x1_goodsCount, x1_workCount, x1_years, x1_lines, x1_goods, x1_works, x1_change, x1_coin, x1_isKnown)).bind rcE) := rfl
theorem m20 {s : Int32} (h : 0 ≤ s ∧ s ≤ 250) : (-20 : Int32) - s < 0 := by grind
theorem tapeL {n : Nat} {bb : Nat → Int32} {sz : Int32} {kf : Nat → Int32} {m_shelf : (Nat → Int32)} {m_rowSort : (Nat → Int32)} {m_rowSize : (Nat → Int32)} {m_rows : (Nat → Nat → Int64)} {m_moved : (Nat → Int64)} {m_shown : (Nat → Int32)} {m_refused : (Nat → Int32)} {m_lines : Int32} {m_line : (Nat → Nat → Int32)} {m_changes : (Nat → Int32)} {m_coins : (Nat → Int32)} {m_goods : Int32} {m_good : (Nat → Nat → Int32)} {m_works : Int32} {m_work : (Nat → Nat → Int32)} {m_years : Int32} {m_gone : Int32} {m_spent : Int32} {m_at : Int32} {m_token : Int32} {m_from : Int32} {m_figures : Int64} {m_fault : Int32} {m_numbers : (Nat → Int32)} {m_statements : Int32} {m_left : (Nat → Int32)} {m_far : (Nat → Int32)} {m_tons : Int32} {m_way : (Nat → Int32)} {m_steps : Int32} {m_met : Int64} {m_queue : (Nat → Int32)} {m_totals : (Nat → Int32)} (hn : 1000000000000 ≤ n) (hs : 0 ≤ sz ∧ sz ≤ 250) : ∀ (a b : Nat) (x0_start : Int32) (x0_end : Int32) (x0_token : Int32) (x0_value : Int32) (x1_lineCount : Int32) (x1_goodsCount : Int32) (x1_workCount : Int32) (x1_years : Int32) (x1_lines : (Nat → Int32)) (x1_goods : (Nat → Int32)) (x1_works : (Nat → Int32)) (x1_change : (Nat → Int32)) (x1_coin : (Nat → Int32)) (x1_isKnown : Int32) (z7 sf st lx gx wx yx ftx : Int32) (lnx gdx wkx : Nat → Nat → Int32) (chx cox nbx : Nat → Int32), 200 ≤ a + z7.toNatClampNeg → 200 ≤ b + z7.toNatClampNeg → (1 ≤ z7 ∧ 2 * (z7.toInt - 1) ≤ x0_start.toInt) → TkOk sz x0_start x0_end x0_token x0_value → (0 ≤ x1_lineCount ∧ x1_lineCount ≤ 20) → (0 ≤ x1_goodsCount ∧ x1_goodsCount ≤ 8) → (0 ≤ x1_workCount ∧ x1_workCount ≤ 7) → (1 ≤ x1_years ∧ x1_years ≤ 30) → LnOk x1_lines → GdOk x1_goods → WkOk x1_works → AI 0 99 x1_change → AI 0 9 x1_coin → LaD x1_lineCount x1_goodsCount x1_workCount x1_years x1_lines x1_goods x1_works x1_change x1_coin lx lnx chx cox gx gdx wx wkx yx → Sf2 ((lp (u15 (fX3_readInto_s11 n bb sz kf)) a (z7, x0_start, x0_end, x0_token, x0_value, x1_lineCount, x1_goodsCount, x1_workCount, x1_years, x1_lines, x1_goods, x1_works, x1_change, x1_coin, x1_isKnown)).bind rcE) ((fX7_statement n (m_shelf, m_rowSort, m_rowSize, m_rows, m_moved, m_shown, bb, sz, m_refused, lx, lnx, chx, cox, gx, gdx, wx, wkx, yx, m_gone, m_spent, x0_end, x0_token, x0_start, (figs x0_token x0_value), ftx, nbx, st, m_left, m_far, m_tons, m_way, m_steps, m_met, m_queue, m_totals)).bind (rdK n b m_shelf m_rowSort m_rowSize m_rows m_moved m_shown bb sz m_refused m_lines m_line m_changes m_coins m_goods m_good m_works m_work m_years m_gone m_spent m_at m_token m_from m_figures m_fault m_numbers m_statements m_left m_far m_tons m_way m_steps m_met m_queue m_totals sf z7)) TpR := by
  intro a
  induction a with
  | zero =>
    intro b x0_start x0_end x0_token x0_value x1_lineCount x1_goodsCount x1_workCount x1_years x1_lines x1_goods x1_works x1_change x1_coin x1_isKnown z7 sf st lx gx wx yx ftx lnx gdx wkx chx cox nbx ha hb hz hT
    exfalso
    have q := i32_cl (Int32.le_trans (by decide) hz.1)
    have h1 := Int32.le_iff_toInt_le.mp hT.1.2
    have h2 := Int32.le_iff_toInt_le.mp hT.2.1
    have h3 := (i32_b hs).2
    have e : (250 : Int32).toInt = 250 := by decide
    omega
  | succ a ih =>
    intro b x0_start x0_end x0_token x0_value x1_lineCount x1_goodsCount x1_workCount x1_years x1_lines x1_goods x1_works x1_change x1_coin x1_isKnown z7 sf st lx gx wx yx ftx lnx gdx wkx chx cox nbx ha hb hz hT k1 k2 k3 k4 k5 k6 k7 k8 k9 hA
    have z70 : 0 ≤ z7 := Int32.le_trans (by decide) hz.1
    have q7 := i32_cl z70
    have h1 := Int32.le_iff_toInt_le.mp hT.1.2
    have h2 := Int32.le_iff_toInt_le.mp hT.2.1
    have h3 := (i32_b hs).2
    have e250 : (250 : Int32).toInt = 250 := by decide
    have z126 : z7.toInt ≤ 126 := by omega
    obtain ⟨b', rfl⟩ : ∃ b', b = b' + 1 := ⟨b - 1, by omega⟩
    have hst : 0 ≤ x0_start ∧ x0_start ≤ 250 := ⟨hT.1.1, Int32.le_trans hT.1.2 (Int32.le_trans hT.2.1 hs.2)⟩
    have hen : 0 ≤ x0_end ∧ x0_end ≤ 250 := ⟨Int32.le_trans hT.1.1 hT.1.2, Int32.le_trans hT.2.1 hs.2⟩
    rw [lp_s]
    show Sf2 (Option.bind (Option.bind (fX3_readInto_s11 n bb sz kf z7 x0_start x0_end x0_token x0_value x1_lineCount x1_goodsCount x1_workCount x1_years x1_lines x1_goods x1_works x1_change x1_coin x1_isKnown) _) rcE) _ TpR
    unfold fX3_readInto_s11
    rw [if_neg (show ¬ (250 : Int32) < z7 from fun h => by have h := Int32.lt_iff_toInt_lt.mp h; omega), Option.bind_assoc, Option.bind_assoc]
    refine Sf2.bind (Sf2.andL (stat2 (x1_isKnown := x1_isKnown) (x1_knownFree := kf) hn hs hT k1 k2 k3 hA) (sX3_readStatement hn hs hst hen k1 k2 k3 k4 k5 k6 k7 k8 k9)) ?_
    rintro ⟨o, s, e, t, v, l0, l1, l2, l3, l4, l5, l6, l7, l8, l9⟩ ⟨o', y0, y1, y2, y3, y4, y5, y6, y7, y8, y9, y10, y11, y12, y13, y14⟩ ⟨⟨h, hpr⟩, j0, j1, j2, j3, j4, j5, j6, j7, j8, j9, j10, j11⟩
    unfold rdK
    dsimp only [u2, u6, u10, u15]
    rcases h with ⟨c1, c2, c3⟩ | ⟨c1, c2, c3, c4, c5, c6⟩
    · have c1 : o = 0 := c1
      have c2 : o' = 0 := c2
      have c3 : y13 = s := c3
      rw [if_pos c1, if_pos c2]
      refine ⟨_, _, rfl, rfl, Or.inl ⟨?_, rfl, ?_⟩⟩
      · show (-20 : Int32) - s < 0
        exact m20 j1
      · show (-20 : Int32) - s = -20 - y13
        rw [c3]
    · have c1 : ¬ o = 0 := c1
      have c2 : ¬ o' = 0 := c2
      have c3 : (y9, y10, y11, y12) = (e, t, s, figs t v) := c3
      have c4 : TkOk sz s e t v := c4
      have c5 : x0_end ≤ s := c5
      have c6 : LaD l0 l1 l2 l3 l4 l5 l6 l7 l8 y0 y1 y2 y3 y4 y5 y6 y7 y8 := c6
      have hlt := Int32.lt_iff_toInt_lt.mp (hpr c1)
      cases c3
      rw [if_neg c1, if_neg c2, rdd_1]
      by_cases t0 : t = 0
      · rw [if_pos t0, if_pos t0]
        refine ⟨_, _, rfl, rfl, Or.inr ⟨z70, ?_, rfl, c6⟩⟩
        show ¬ (1 : Int32) = 0
        decide
      rw [if_neg t0, if_neg t0]
      by_cases t3 : t = 3
      · rw [if_pos t3, if_pos t3, Option.bind_assoc]
        refine Sf2.bind (lookNext hn hs ⟨Int32.le_trans c4.1.1 c4.1.2, c4.2.1⟩ rfl rfl rfl) ?_
        rintro ⟨g97, g98, g99, g100⟩ ⟨n1, n2, n3, n4⟩ ⟨eq, ok, le⟩
        have ok : TkOk sz g97 g98 g99 g100 := ok
        have le : e ≤ g97 := le
        cases eq
        have w1 := Int32.lt_iff_toInt_lt.mp (c4.2.2.2 t0)
        have w2 := Int32.le_iff_toInt_le.mp le
        have w3 := Int32.le_iff_toInt_le.mp c5
        have z1i : (1 : Int32).toInt = 1 := by decide
        have z7i : (z7 + 1).toInt = z7.toInt + 1 := by rw [i32_add (by omega) (by omega), z1i]
        have z71 : 1 ≤ z7 + 1 := Int32.le_iff_toInt_le.mpr (by have := Int32.le_iff_toInt_le.mp hz.1; omega)
        have q71 := i32_cl (Int32.le_trans (by decide) z71)
        exact ih b' g97 g98 g99 g100 l0 l1 l2 l3 l4 l5 l6 l7 l8 l9 (z7 + 1) z7 z7 y0 y4 y6 y8 y13 y1 y5 y7 y2 y3 y14 (by omega) (by omega) ⟨z71, by omega⟩ ok j3 j4 j5 j6 j7 j8 j9 j10 j11 c6
      · rw [if_neg t3, if_neg t3]
        refine ⟨_, _, rfl, rfl, Or.inl ⟨?_, rfl, rfl⟩⟩
        show (-20 : Int32) - s < 0
        exact m20 j1
theorem tape2 {n : Nat} {x0_bytes : (Nat → Int32)} {x0_size : Int32} {x0_start : Int32} {x0_end : Int32} {x0_token : Int32} {x0_value : Int32} {x1_lineCount : Int32} {x1_goodsCount : Int32} {x1_workCount : Int32} {x1_years : Int32} {x1_lines : (Nat → Int32)} {x1_goods : (Nat → Int32)} {x1_works : (Nat → Int32)} {x1_change : (Nat → Int32)} {x1_coin : (Nat → Int32)} {x1_knownFree : (Nat → Int32)} {x1_isKnown : Int32} {m_shelf : (Nat → Int32)} {m_rowSort : (Nat → Int32)} {m_rowSize : (Nat → Int32)} {m_rows : (Nat → Nat → Int64)} {m_moved : (Nat → Int64)} {m_shown : (Nat → Int32)} {m_refused : (Nat → Int32)} {m_lines : Int32} {m_line : (Nat → Nat → Int32)} {m_changes : (Nat → Int32)} {m_coins : (Nat → Int32)} {m_goods : Int32} {m_good : (Nat → Nat → Int32)} {m_works : Int32} {m_work : (Nat → Nat → Int32)} {m_years : Int32} {m_gone : Int32} {m_spent : Int32} {m_at : Int32} {m_token : Int32} {m_from : Int32} {m_figures : Int64} {m_fault : Int32} {m_numbers : (Nat → Int32)} {m_statements : Int32} {m_left : (Nat → Int32)} {m_far : (Nat → Int32)} {m_tons : Int32} {m_way : (Nat → Int32)} {m_steps : Int32} {m_met : Int64} {m_queue : (Nat → Int32)} {m_totals : (Nat → Int32)} (hn : 1000000000000 ≤ n) (hs : 0 ≤ x0_size ∧ x0_size ≤ 250) (h_x1_lineCount : (0 ≤ x1_lineCount ∧ x1_lineCount ≤ 20)) (h_x1_goodsCount : (0 ≤ x1_goodsCount ∧ x1_goodsCount ≤ 8)) (h_x1_workCount : (0 ≤ x1_workCount ∧ x1_workCount ≤ 7)) (h_x1_years : (1 ≤ x1_years ∧ x1_years ≤ 30)) (h_x1_lines : (LnOk x1_lines)) (h_x1_goods : (GdOk x1_goods)) (h_x1_works : (WkOk x1_works)) (h_x1_change : (AI 0 99 x1_change)) (h_x1_coin : (AI 0 9 x1_coin)) (hA : (LaD x1_lineCount x1_goodsCount x1_workCount x1_years x1_lines x1_goods x1_works x1_change x1_coin m_lines m_line m_changes m_coins m_goods m_good m_works m_work m_years)) : Sf2 (fX3_readInto n (x0_bytes, x0_size, x0_start, x0_end, x0_token, x0_value) (x1_lineCount, x1_goodsCount, x1_workCount, x1_years, x1_lines, x1_goods, x1_works, x1_change, x1_coin, x1_knownFree, x1_isKnown)) (fX7_read n (m_shelf, m_rowSort, m_rowSize, m_rows, m_moved, m_shown, x0_bytes, x0_size, m_refused, m_lines, m_line, m_changes, m_coins, m_goods, m_good, m_works, m_work, m_years, m_gone, m_spent, m_at, m_token, m_from, m_figures, m_fault, m_numbers, m_statements, m_left, m_far, m_tons, m_way, m_steps, m_met, m_queue, m_totals)) TpR := by
  rw [rc_0, rdd_0]
  refine Sf2.bind (lookNext hn hs ⟨Int32.le_refl 0, hs.1⟩ rfl rfl rfl) ?_
  rintro ⟨g1, g2, g3, g4⟩ ⟨n1, n2, n3, n4⟩ ⟨eq, ok, le⟩
  have ok : TkOk x0_size g1 g2 g3 g4 := ok
  cases eq
  have q := (i32_b (show (0 : Int32) ≤ g1 ∧ g1 ≤ g1 from ⟨ok.1.1, Int32.le_refl _⟩)).1
  have z0 : (0 : Int32).toInt = 0 := by decide
  have z1 : (1 : Int32).toInt = 1 := by decide
  exact tapeL (m_shelf := m_shelf) (m_rowSort := m_rowSort) (m_rowSize := m_rowSize) (m_rows := m_rows) (m_moved := m_moved) (m_shown := m_shown) (m_refused := m_refused) (m_lines := m_lines) (m_line := m_line) (m_changes := m_changes) (m_coins := m_coins) (m_goods := m_goods) (m_good := m_good) (m_works := m_works) (m_work := m_work) (m_years := m_years) (m_gone := m_gone) (m_spent := m_spent) (m_at := m_at) (m_token := m_token) (m_from := m_from) (m_figures := m_figures) (m_fault := m_fault) (m_numbers := m_numbers) (m_statements := m_statements) (m_left := m_left) (m_far := m_far) (m_tons := m_tons) (m_way := m_way) (m_steps := m_steps) (m_met := m_met) (m_queue := m_queue) (m_totals := m_totals) hn hs n n g1 g2 g3 g4 x1_lineCount x1_goodsCount x1_workCount x1_years x1_lines x1_goods x1_works x1_change x1_coin x1_isKnown 1 1 1 m_lines m_goods m_works m_years m_fault m_line m_good m_work m_changes m_coins m_numbers (by omega) (by omega) ⟨by decide, by omega⟩ ok h_x1_lineCount h_x1_goodsCount h_x1_workCount h_x1_years h_x1_lines h_x1_goods h_x1_works h_x1_change h_x1_coin hA

set_option maxHeartbeats 1000000 in
theorem sX6_refuse {x0_refused : (Nat → Int32)} {x0_isKept x0_gone x0_spent p1 : Int32}   : Sf (fX6_refuse (x0_refused, x0_isKept, x0_gone, x0_spent) p1) (fun r => True) := by
  unfold fX6_refuse
  dsimp only [u4]
  refine Sf.bind (sX6_within ) ?_
  intro v1 hr1
  have hx_v1 : ((v1 = 1 ∧ (-6) ≤ p1 ∧ p1 ≤ (-2)) ∨ (v1 = 0 ∧ (p1 < (-6) ∨ (-2) < p1))) := hr1
  refine Sf.ite (fun hc2 => ?_) (fun hc2 => ?_)
  · exact Sf.ok trivial
  · have hq3 : 0 ≤ ((-2) - p1) ∧ ((-2) - p1) < 5 := by grind
    refine Sf.rdb 5 rfl hq3 (fun v3 e_v3 => ?_)
    clear e_v3
    refine Sf.wrb 5 rfl hq3 (fun f4 e_f4 => ?_)
    clear e_f4
    exact Sf.ok trivial
set_option maxHeartbeats 1000000 in
theorem sX6_row {n : Nat} {x0_refused : (Nat → Int32)} {x0_isKept x0_gone x0_spent : Int32} {x1_elements : (Nat → Nat → Int64)} {x1_held x1_sizes : (Nat → Int32)} {p1 p2 p3 : Int32} (hn : 1000000000000 ≤ n) (h_x1_held : (AI (-1) 16 x1_held)) (h_x1_sizes : (AI 0 40 x1_sizes)) : Sf (fX6_row n (x0_refused, x0_isKept, x0_gone, x0_spent) (x1_elements, x1_held, x1_sizes) p1 p2 p3) (fun r => (AI (-1) 16 r.2.2.2.1) ∧ (AI 0 40 r.2.2.2.2)) := by
  unfold fX6_row
  dsimp only [u3, u4]
  refine Sf.bind (sX2_has ) ?_
  intro v1 hr1
  have hx_v1 : ((v1 = 1 ∧ 0 ≤ p1 ∧ p1 ≤ 7) ∨ (v1 = 0 ∧ (p1 < 0 ∨ 7 < p1))) := hr1
  refine Sf.ite (fun hc2 => ?_) (fun hc2 => ?_)
  · refine Sf.bind (sX6_refuse ) ?_
    rintro ⟨v3, g4⟩ hr3
    dsimp only [u2]
    exact Sf.ok (show (AI (-1) 16 x1_held) ∧ (AI 0 40 x1_sizes) from ⟨h_x1_held, h_x1_sizes⟩)
  · refine Sf.bind (sX6_within ) ?_
    intro v6 hr4
    have hx_v6 : ((v6 = 1 ∧ 0 ≤ p2 ∧ p2 ≤ 4) ∨ (v6 = 0 ∧ (p2 < 0 ∨ 4 < p2))) := hr4
    refine Sf.ite (fun hc5 => ?_) (fun hc5 => ?_)
    · refine Sf.bind (sX6_refuse ) ?_
      rintro ⟨v8, g9⟩ hr6
      dsimp only [u2]
      exact Sf.ok (show (AI (-1) 16 x1_held) ∧ (AI 0 40 x1_sizes) from ⟨h_x1_held, h_x1_sizes⟩)
    · refine Sf.bind (sX6_within ) ?_
      intro v11 hr7
      have hx_v11 : ((v11 = 1 ∧ 0 ≤ p3 ∧ p3 ≤ 40) ∨ (v11 = 0 ∧ (p3 < 0 ∨ 40 < p3))) := hr7
      refine Sf.ite (fun hc8 => ?_) (fun hc8 => ?_)
      · refine Sf.bind (sX6_refuse ) ?_
        rintro ⟨v17, g18⟩ hr9
        dsimp only [u2]
        exact Sf.ok (show (AI (-1) 16 x1_held) ∧ (AI 0 40 x1_sizes) from ⟨h_x1_held, h_x1_sizes⟩)
      · refine Sf.bind (sX2_putRow hn h_x1_held h_x1_sizes (by grind) (by grind) (by grind)) ?_
        rintro ⟨g13, g14, g15⟩ hr10
        obtain ⟨h_g14, h_g15⟩ : (AI (-1) 16 g14) ∧ (AI 0 40 g15) := hr10
        dsimp only [u3]
        exact Sf.ok (show (AI (-1) 16 g14) ∧ (AI 0 40 g15) from ⟨h_g14, h_g15⟩)
set_option maxHeartbeats 1000000 in
theorem sX6_noRow {x0_refused : (Nat → Int32)} {x0_isKept x0_gone x0_spent : Int32} {x1_elements : (Nat → Nat → Int64)} {x1_held x1_sizes : (Nat → Int32)} {p1 : Int32}  (h_x1_held : (AI (-1) 16 x1_held)) (h_x1_sizes : (AI 0 40 x1_sizes)) : Sf (fX6_noRow (x0_refused, x0_isKept, x0_gone, x0_spent) (x1_elements, x1_held, x1_sizes) p1) (fun r => (r ≠ 0 ∨ (0 ≤ p1 ∧ p1 ≤ 7))) := by
  unfold fX6_noRow
  dsimp only [u3, u4]
  refine Sf.bind (sX2_has ) ?_
  intro v1 hr1
  have hx_v1 : ((v1 = 1 ∧ 0 ≤ p1 ∧ p1 ≤ 7) ∨ (v1 = 0 ∧ (p1 < 0 ∨ 7 < p1))) := hr1
  refine Sf.ite (fun hc2 => ?_) (fun hc2 => ?_)
  · exact Sf.ok (show ((-2) ≠ 0 ∨ (0 ≤ p1 ∧ p1 ≤ 7)) from (by grind))
  · refine Sf.bind (sX2_hasWork h_x1_held h_x1_sizes (by grind)) ?_
    intro v3 hr3
    refine Sf.ite (fun hc4 => ?_) (fun hc4 => ?_)
    · refine Sf.bind (sX2_hasRow h_x1_held h_x1_sizes (by grind)) ?_
      intro v5 hr5
      have hx_v5 : ((v5 = 1) ∨ (v5 = 0)) := hr5
      refine Sf.ite (fun hc6 => ?_) (fun hc6 => ?_)
      · exact Sf.ok (show ((-4) ≠ 0 ∨ (0 ≤ p1 ∧ p1 ≤ 7)) from (by grind))
      · exact Sf.ok (show (0 ≠ 0 ∨ (0 ≤ p1 ∧ p1 ≤ 7)) from (by grind))
    · exact Sf.ok (show ((-3) ≠ 0 ∨ (0 ≤ p1 ∧ p1 ≤ 7)) from (by grind))
set_option maxHeartbeats 1000000 in
theorem sX6_set {x0_refused : (Nat → Int32)} {x0_isKept x0_gone x0_spent : Int32} {x1_elements : (Nat → Nat → Int64)} {x1_held x1_sizes : (Nat → Int32)} {p1 p2 : Int32} {p3 : Int64}  (h_x1_held : (AI (-1) 16 x1_held)) (h_x1_sizes : (AI 0 40 x1_sizes)) : Sf (fX6_set (x0_refused, x0_isKept, x0_gone, x0_spent) (x1_elements, x1_held, x1_sizes) p1 p2 p3) (fun r => True) := by
  unfold fX6_set
  dsimp only [u3, u4]
  refine Sf.bind (sX6_noRow h_x1_held h_x1_sizes) ?_
  intro v1 hr1
  have hx_v1 : (v1 ≠ 0 ∨ (0 ≤ p1 ∧ p1 ≤ 7)) := hr1
  refine Sf.ite (fun hc2 => ?_) (fun hc2 => ?_)
  · refine Sf.rdI 8 rfl h_x1_sizes (by grind) (fun v3 h_v3 e_v3 => ?_)
    clear e_v3
    refine Sf.bind (sX6_within ) ?_
    intro v4 hr3
    have hx_v4 : ((v4 = 1 ∧ 0 ≤ p2 ∧ p2 ≤ (v3 - 1)) ∨ (v4 = 0 ∧ (p2 < 0 ∨ (v3 - 1) < p2))) := hr3
    refine Sf.ite (fun hc4 => ?_) (fun hc4 => ?_)
    · refine Sf.bind (sX6_refuse ) ?_
      rintro ⟨v8, g9⟩ hr5
      dsimp only [u2]
      exact Sf.ok trivial
    · refine Sf.bind (sX2_put h_x1_held h_x1_sizes (by grind) (by grind)) ?_
      intro g6 hr6
      exact Sf.ok trivial
  · refine Sf.bind (sX6_refuse ) ?_
    rintro ⟨v11, g12⟩ hr7
    dsimp only [u2]
    exact Sf.ok trivial
set_option maxHeartbeats 1000000 in
theorem sX6_copy {x0_refused : (Nat → Int32)} {x0_isKept x0_gone x0_spent : Int32} {x1_elements : (Nat → Nat → Int64)} {x1_held x1_sizes : (Nat → Int32)} {p1 p2 p3 p4 p5 : Int32}  (h_x1_held : (AI (-1) 16 x1_held)) (h_x1_sizes : (AI 0 40 x1_sizes)) : Sf (fX6_copy (x0_refused, x0_isKept, x0_gone, x0_spent) (x1_elements, x1_held, x1_sizes) p1 p2 p3 p4 p5) (fun r => True) := by
  unfold fX6_copy
  dsimp only [u3, u4]
  refine Sf.bind (sX2_has ) ?_
  intro v1 hr1
  have hx_v1 : ((v1 = 1 ∧ 0 ≤ p1 ∧ p1 ≤ 7) ∨ (v1 = 0 ∧ (p1 < 0 ∨ 7 < p1))) := hr1
  refine Sf.ite (fun hc2 => ?_) (fun hc2 => ?_)
  · refine Sf.bind (sX6_refuse ) ?_
    rintro ⟨v3, g4⟩ hr3
    dsimp only [u2]
    exact Sf.ok trivial
  · refine Sf.bind (sX2_has ) ?_
    intro v6 hr4
    have hx_v6 : ((v6 = 1 ∧ 0 ≤ p2 ∧ p2 ≤ 7) ∨ (v6 = 0 ∧ (p2 < 0 ∨ 7 < p2))) := hr4
    refine Sf.ite (fun hc5 => ?_) (fun hc5 => ?_)
    · refine Sf.bind (sX6_refuse ) ?_
      rintro ⟨v51, g52⟩ hr6
      dsimp only [u2]
      exact Sf.ok trivial
    · refine Sf.bind (sX2_hasWork h_x1_held h_x1_sizes (by grind)) ?_
      intro v8 hr7
      refine Sf.ite (fun hc8 => ?_) (fun hc8 => ?_)
      · refine Sf.bind (sX2_hasWork h_x1_held h_x1_sizes (by grind)) ?_
        intro v13 hr9
        refine Sf.ite (fun hc10 => ?_) (fun hc10 => ?_)
        · refine Sf.bind (sX2_differ h_x1_held h_x1_sizes (by grind) (by grind)) ?_
          intro v18 hr11
          refine Sf.ite (fun hc12 => ?_) (fun hc12 => ?_)
          · refine Sf.rdI 8 rfl h_x1_held (by grind) (fun v20 h_v20 e_v20 => ?_)
            clear e_v20
            refine Sf.ite (fun hc13 => ?_) (fun hc13 => ?_)
            · refine Sf.bind (sX6_refuse ) ?_
              rintro ⟨v21, g22⟩ hr14
              dsimp only [u2]
              exact Sf.ok trivial
            · refine Sf.rdI 8 rfl h_x1_held (by grind) (fun v24 h_v24 e_v24 => ?_)
              clear e_v24
              refine Sf.ite (fun hc15 => ?_) (fun hc15 => ?_)
              · refine Sf.bind (sX6_refuse ) ?_
                rintro ⟨v45, g46⟩ hr16
                dsimp only [u2]
                exact Sf.ok trivial
              · refine Sf.bind (sX6_within ) ?_
                intro v25 hr17
                have hx_v25 : ((v25 = 1 ∧ 0 ≤ p5 ∧ p5 ≤ 40) ∨ (v25 = 0 ∧ (p5 < 0 ∨ 40 < p5))) := hr17
                refine Sf.ite (fun hc18 => ?_) (fun hc18 => ?_)
                · refine Sf.bind (sX6_refuse ) ?_
                  rintro ⟨v27, g28⟩ hr19
                  dsimp only [u2]
                  exact Sf.ok trivial
                · refine Sf.rdI 8 rfl h_x1_sizes (by grind) (fun v30 h_v30 e_v30 => ?_)
                  clear e_v30
                  refine Sf.bind (sX6_within ) ?_
                  intro v31 hr20
                  have hx_v31 : ((v31 = 1 ∧ 0 ≤ p3 ∧ p3 ≤ (v30 - p5)) ∨ (v31 = 0 ∧ (p3 < 0 ∨ (v30 - p5) < p3))) := hr20
                  refine Sf.ite (fun hc21 => ?_) (fun hc21 => ?_)
                  · refine Sf.bind (sX6_refuse ) ?_
                    rintro ⟨v33, g34⟩ hr22
                    dsimp only [u2]
                    exact Sf.ok trivial
                  · refine Sf.rdI 8 rfl h_x1_sizes (by grind) (fun v36 h_v36 e_v36 => ?_)
                    clear e_v36
                    refine Sf.bind (sX6_within ) ?_
                    intro v37 hr23
                    have hx_v37 : ((v37 = 1 ∧ 0 ≤ p4 ∧ p4 ≤ (v36 - p5)) ∨ (v37 = 0 ∧ (p4 < 0 ∨ (v36 - p5) < p4))) := hr23
                    refine Sf.ite (fun hc24 => ?_) (fun hc24 => ?_)
                    · refine Sf.bind (sX6_refuse ) ?_
                      rintro ⟨v42, g43⟩ hr25
                      dsimp only [u2]
                      exact Sf.ok trivial
                    · refine Sf.ckb 8 rfl (by grind) (fun q39 e_q39 h_q39 => ?_)
                      refine Sf.ckb 8 rfl (by grind) (fun q40 e_q40 h_q40 => ?_)
                      refine Sf.cpyb (by grind) (cpa (by grind)) (cpa (by grind)) (fun f41 e_f41 => ?_)
                      exact Sf.ok trivial
          · refine Sf.bind (sX6_refuse ) ?_
            rintro ⟨v48, g49⟩ hr26
            dsimp only [u2]
            exact Sf.ok trivial
        · refine Sf.bind (sX6_refuse ) ?_
          rintro ⟨v15, g16⟩ hr27
          dsimp only [u2]
          exact Sf.ok trivial
      · refine Sf.bind (sX6_refuse ) ?_
        rintro ⟨v10, g11⟩ hr28
        dsimp only [u2]
        exact Sf.ok trivial
set_option maxHeartbeats 1000000 in
theorem sX6_element {x0_refused : (Nat → Int32)} {x0_isKept x0_gone x0_spent : Int32} {x1_elements : (Nat → Nat → Int64)} {x1_held x1_sizes : (Nat → Int32)} {p1 p2 : Int32}  (h_x1_held : (AI (-1) 16 x1_held)) (h_x1_sizes : (AI 0 40 x1_sizes)) : Sf (fX6_element (x0_refused, x0_isKept, x0_gone, x0_spent) (x1_elements, x1_held, x1_sizes) p1 p2) (fun r => True) := by
  unfold fX6_element
  dsimp only [u3, u4]
  refine Sf.bind (sX2_has ) ?_
  intro v1 hr1
  have hx_v1 : ((v1 = 1 ∧ 0 ≤ p1 ∧ p1 ≤ 7) ∨ (v1 = 0 ∧ (p1 < 0 ∨ 7 < p1))) := hr1
  refine Sf.ite (fun hc2 => ?_) (fun hc2 => ?_)
  · exact Sf.ok trivial
  · refine Sf.bind (sX2_hasRow h_x1_held h_x1_sizes (by grind)) ?_
    intro v3 hr3
    have hx_v3 : ((v3 = 1) ∨ (v3 = 0)) := hr3
    refine Sf.ite (fun hc4 => ?_) (fun hc4 => ?_)
    · exact Sf.ok trivial
    · refine Sf.rdI 8 rfl h_x1_sizes (by grind) (fun v5 h_v5 e_v5 => ?_)
      clear e_v5
      refine Sf.bind (sX6_within ) ?_
      intro v6 hr5
      have hx_v6 : ((v6 = 1 ∧ 0 ≤ p2 ∧ p2 ≤ (v5 - 1)) ∨ (v6 = 0 ∧ (p2 < 0 ∨ (v5 - 1) < p2))) := hr5
      refine Sf.ite (fun hc6 => ?_) (fun hc6 => ?_)
      · exact Sf.ok trivial
      · refine Sf.ckb 8 rfl (by grind) (fun q8 e_q8 h_q8 => ?_)
        refine Sf.rdb 40 rfl (by grind) (fun v9 e_v9 => ?_)
        clear e_v9
        exact Sf.ok trivial
set_option maxHeartbeats 1000000 in
theorem sX6_holds {x0_refused : (Nat → Int32)} {x0_isKept x0_gone x0_spent : Int32} {x1_elements : (Nat → Nat → Int64)} {x1_held x1_sizes : (Nat → Int32)} {p1 : Int32}  (h_x1_held : (AI (-1) 16 x1_held)) (h_x1_sizes : (AI 0 40 x1_sizes)) : Sf (fX6_holds (x0_refused, x0_isKept, x0_gone, x0_spent) (x1_elements, x1_held, x1_sizes) p1) (fun r => True) := by
  unfold fX6_holds
  dsimp only [u3, u4]
  refine Sf.bind (sX2_has ) ?_
  intro v1 hr1
  have hx_v1 : ((v1 = 1 ∧ 0 ≤ p1 ∧ p1 ≤ 7) ∨ (v1 = 0 ∧ (p1 < 0 ∨ 7 < p1))) := hr1
  refine Sf.ite (fun hc2 => ?_) (fun hc2 => ?_)
  · exact Sf.ok trivial
  · refine Sf.rdI 8 rfl h_x1_held (by grind) (fun v3 h_v3 e_v3 => ?_)
    clear e_v3
    exact Sf.ok trivial
set_option maxHeartbeats 1000000 in
theorem sX6_show {x0_refused : (Nat → Int32)} {x0_isKept x0_gone x0_spent : Int32} {x1_elements : (Nat → Nat → Int64)} {x1_held x1_sizes : (Nat → Int32)} {x2_lineCount x2_goodsCount x2_workCount x2_years : Int32} {x2_lines x2_goods x2_works x2_change x2_coin x2_knownFree : (Nat → Int32)} {x2_isKnown p1 p2 : Int32}  (h_x1_held : (AI (-1) 16 x1_held)) (h_x1_sizes : (AI 0 40 x1_sizes)) (h_x2_lineCount : (0 ≤ x2_lineCount ∧ x2_lineCount ≤ 20)) (h_x2_goodsCount : (0 ≤ x2_goodsCount ∧ x2_goodsCount ≤ 8)) (h_x2_workCount : (0 ≤ x2_workCount ∧ x2_workCount ≤ 7)) (h_x2_years : (1 ≤ x2_years ∧ x2_years ≤ 30)) (h_x2_lines : (LnOk x2_lines)) (h_x2_goods : (GdOk x2_goods)) (h_x2_works : (WkOk x2_works)) (h_x2_change : (AI 0 99 x2_change)) (h_x2_coin : (AI 0 9 x2_coin)) : Sf (fX6_show (x0_refused, x0_isKept, x0_gone, x0_spent) (x1_elements, x1_held, x1_sizes) (x2_lineCount, x2_goodsCount, x2_workCount, x2_years, x2_lines, x2_goods, x2_works, x2_change, x2_coin, x2_knownFree, x2_isKnown) p1 p2) (fun r => (AI (-1) 16 r.2.2)) := by
  unfold fX6_show
  dsimp only [u11, u3, u4]
  refine Sf.bind (sX2_has ) ?_
  intro v1 hr1
  have hx_v1 : ((v1 = 1 ∧ 0 ≤ p1 ∧ p1 ≤ 7) ∨ (v1 = 0 ∧ (p1 < 0 ∨ 7 < p1))) := hr1
  refine Sf.ite (fun hc2 => ?_) (fun hc2 => ?_)
  · refine Sf.bind (sX6_refuse ) ?_
    rintro ⟨v3, g4⟩ hr3
    dsimp only [u2]
    exact Sf.ok (show (AI (-1) 16 x1_held) from h_x1_held)
  · refine Sf.ite (fun hc4 => ?_) (fun hc4 => ?_)
    · unfold fX6_show_j30
      refine Sf.ite (fun hc5 => ?_) (fun hc5 => ?_)
      · refine Sf.wrI 8 rfl h_x1_held (by grind) (by decide) (fun f7 h_f7 e_f7 => ?_)
        clear e_f7
        exact Sf.ok (show (AI (-1) 16 f7) from h_f7)
      · refine Sf.wrI 8 rfl h_x1_held (by grind) (by grind) (fun f6 h_f6 e_f6 => ?_)
        clear e_f6
        exact Sf.ok (show (AI (-1) 16 f6) from h_f6)
    · refine Sf.bind (sX1_hasWork h_x2_lineCount h_x2_goodsCount h_x2_workCount h_x2_years h_x2_lines h_x2_goods h_x2_works h_x2_change h_x2_coin) ?_
      intro v8 hr6
      have hx_v8 : ((v8 = 1 ∧ 0 ≤ p2 ∧ p2 < x2_workCount) ∨ (v8 = 0 ∧ ¬ (0 ≤ p2 ∧ p2 < x2_workCount))) := hr6
      refine Sf.ite (fun hc7 => ?_) (fun hc7 => ?_)
      · refine Sf.bind (sX6_refuse ) ?_
        rintro ⟨v10, g11⟩ hr8
        dsimp only [u2]
        exact Sf.ok (show (AI (-1) 16 x1_held) from h_x1_held)
      · unfold fX6_show_j30
        refine Sf.ite (fun hc9 => ?_) (fun hc9 => ?_)
        · refine Sf.wrI 8 rfl h_x1_held (by grind) (by decide) (fun f7 h_f7 e_f7 => ?_)
          clear e_f7
          exact Sf.ok (show (AI (-1) 16 f7) from h_f7)
        · refine Sf.wrI 8 rfl h_x1_held (by grind) (by grind) (fun f6 h_f6 e_f6 => ?_)
          clear e_f6
          exact Sf.ok (show (AI (-1) 16 f6) from h_f6)
set_option maxHeartbeats 1000000 in
theorem sX6_says {n : Nat} {x0_refused : (Nat → Int32)} {x0_isKept x0_gone x0_spent : Int32} {x1_elements : (Nat → Nat → Int64)} {x1_held x1_sizes : (Nat → Int32)} {x2_lineCount x2_goodsCount x2_workCount x2_years : Int32} {x2_lines x2_goods x2_works x2_change x2_coin x2_knownFree : (Nat → Int32)} {x2_isKnown p1 p2 : Int32} (hn : 1000000000000 ≤ n) (h_x1_held : (AI (-1) 16 x1_held)) (h_x1_sizes : (AI 0 40 x1_sizes)) (h_x2_lineCount : (0 ≤ x2_lineCount ∧ x2_lineCount ≤ 20)) (h_x2_goodsCount : (0 ≤ x2_goodsCount ∧ x2_goodsCount ≤ 8)) (h_x2_workCount : (0 ≤ x2_workCount ∧ x2_workCount ≤ 7)) (h_x2_years : (1 ≤ x2_years ∧ x2_years ≤ 30)) (h_x2_lines : (LnOk x2_lines)) (h_x2_goods : (GdOk x2_goods)) (h_x2_works : (WkOk x2_works)) (h_x2_change : (AI 0 99 x2_change)) (h_x2_coin : (AI 0 9 x2_coin)) : Sf (fX6_says n (x0_refused, x0_isKept, x0_gone, x0_spent) (x1_elements, x1_held, x1_sizes) (x2_lineCount, x2_goodsCount, x2_workCount, x2_years, x2_lines, x2_goods, x2_works, x2_change, x2_coin, x2_knownFree, x2_isKnown) p1 p2) (fun r => True) := by
  unfold fX6_says
  dsimp only [u11, u3, u4]
  refine Sf.bind (sX2_has ) ?_
  intro v1 hr1
  have hx_v1 : ((v1 = 1 ∧ 0 ≤ p1 ∧ p1 ≤ 7) ∨ (v1 = 0 ∧ (p1 < 0 ∨ 7 < p1))) := hr1
  refine Sf.ite (fun hc2 => ?_) (fun hc2 => ?_)
  · refine Sf.bind (sX6_refuse ) ?_
    rintro ⟨v3, g4⟩ hr3
    dsimp only [u2]
    exact Sf.ok trivial
  · refine Sf.bind (sX6_within ) ?_
    intro v6 hr4
    have hx_v6 : ((v6 = 1 ∧ 0 ≤ p2 ∧ p2 ≤ 5) ∨ (v6 = 0 ∧ (p2 < 0 ∨ 5 < p2))) := hr4
    refine Sf.ite (fun hc5 => ?_) (fun hc5 => ?_)
    · refine Sf.bind (sX6_refuse ) ?_
      rintro ⟨v41, g42⟩ hr6
      dsimp only [u2]
      exact Sf.ok trivial
    · refine Sf.bind (sX2_workIn h_x1_held h_x1_sizes (by grind)) ?_
      intro v8 hr7
      refine Sf.bind (sX2_hasRow h_x1_held h_x1_sizes (by grind)) ?_
      intro v10 hr8
      have hx_v10 : ((v10 = 1) ∨ (v10 = 0)) := hr8
      refine Sf.ite (fun hc9 => ?_) (fun hc9 => ?_)
      · refine Sf.bind (sX1_hasWork h_x2_lineCount h_x2_goodsCount h_x2_workCount h_x2_years h_x2_lines h_x2_goods h_x2_works h_x2_change h_x2_coin) ?_
        intro v15 hr10
        have hx_v15 : ((v15 = 1 ∧ 0 ≤ v8 ∧ v8 < x2_workCount) ∨ (v15 = 0 ∧ ¬ (0 ≤ v8 ∧ v8 < x2_workCount))) := hr10
        refine Sf.ite (fun hc11 => ?_) (fun hc11 => ?_)
        · unfold fX6_says_j77
          refine Sf.bind (sX1_hasWork h_x2_lineCount h_x2_goodsCount h_x2_workCount h_x2_years h_x2_lines h_x2_goods h_x2_works h_x2_change h_x2_coin) ?_
          intro v17 hr12
          have hx_v17 : ((v17 = 1 ∧ 0 ≤ v8 ∧ v8 < x2_workCount) ∨ (v17 = 0 ∧ ¬ (0 ≤ v8 ∧ v8 < x2_workCount))) := hr12
          refine Sf.ite (fun hc13 => ?_) (fun hc13 => ?_)
          · refine Sf.bind (sX6_refuse ) ?_
            rintro ⟨v31, g32⟩ hr14
            dsimp only [u2]
            exact Sf.ok trivial
          · refine Sf.ite (fun hc15 => ?_) (fun hc15 => ?_)
            · refine Sf.bind (s_ofWork h_x2_works (by grind) (by decide)) ?_
              intro v19 hr16
              obtain ⟨h_v19, e_v19⟩ : (0 ≤ v19 ∧ v19 ≤ 9999) ∧ v19 = x2_works (v8.toNatClampNeg * 5 + 3) := hr16
              clear e_v19
              exact Sf.ok trivial
            · refine Sf.ite (fun hc17 => ?_) (fun hc17 => ?_)
              · refine Sf.bind (s_ofWork h_x2_works (by grind) (by decide)) ?_
                intro v21 hr18
                obtain ⟨h_v21, e_v21⟩ : (0 ≤ v21 ∧ v21 ≤ 19) ∧ v21 = x2_works (v8.toNatClampNeg * 5 + 1) := hr18
                clear e_v21
                refine Sf.bind (s_ofWork h_x2_works (by grind) (by decide)) ?_
                intro v23 hr19
                obtain ⟨h_v23, e_v23⟩ : (0 ≤ v23 ∧ v23 ≤ 99) ∧ v23 = x2_works (v8.toNatClampNeg * 5 + 2) := hr19
                clear e_v23
                exact Sf.ok trivial
              · refine Sf.ite (fun hc20 => ?_) (fun hc20 => ?_)
                · refine Sf.bind (s_ofWork h_x2_works (by grind) (by decide)) ?_
                  intro v25 hr21
                  obtain ⟨h_v25, e_v25⟩ : (0 ≤ v25 ∧ v25 ≤ 19) ∧ v25 = x2_works (v8.toNatClampNeg * 5 + 1) := hr21
                  clear e_v25
                  refine Sf.bind (s_ofWork h_x2_works (by grind) (by decide)) ?_
                  intro v27 hr22
                  obtain ⟨h_v27, e_v27⟩ : (0 ≤ v27 ∧ v27 ≤ 99) ∧ v27 = x2_works (v8.toNatClampNeg * 5 + 2) := hr22
                  clear e_v27
                  exact Sf.ok trivial
                · refine Sf.bind (s_ofWork h_x2_works (by grind) (by decide)) ?_
                  intro v29 hr23
                  obtain ⟨h_v29, e_v29⟩ : (0 ≤ v29 ∧ v29 ≤ 19) ∧ v29 = x2_works (v8.toNatClampNeg * 5 + 1) := hr23
                  clear e_v29
                  exact Sf.ok trivial
        · refine Sf.bind (s_ofWork h_x2_works (by grind) (by decide)) ?_
          intro v34 hr24
          obtain ⟨h_v34, e_v34⟩ : (0 ≤ v34 ∧ v34 ≤ 5) ∧ v34 = x2_works (v8.toNatClampNeg * 5 + 0) := hr24
          clear e_v34
          refine Sf.bind (sX6_isUnder hn ) ?_
          intro v36 hr25
          refine Sf.ite (fun hc26 => ?_) (fun hc26 => ?_)
          · refine Sf.bind (sX6_refuse ) ?_
            rintro ⟨v38, g39⟩ hr27
            dsimp only [u2]
            exact Sf.ok trivial
          · unfold fX6_says_j77
            refine Sf.bind (sX1_hasWork h_x2_lineCount h_x2_goodsCount h_x2_workCount h_x2_years h_x2_lines h_x2_goods h_x2_works h_x2_change h_x2_coin) ?_
            intro v17 hr28
            have hx_v17 : ((v17 = 1 ∧ 0 ≤ v8 ∧ v8 < x2_workCount) ∨ (v17 = 0 ∧ ¬ (0 ≤ v8 ∧ v8 < x2_workCount))) := hr28
            refine Sf.ite (fun hc29 => ?_) (fun hc29 => ?_)
            · refine Sf.bind (sX6_refuse ) ?_
              rintro ⟨v31, g32⟩ hr30
              dsimp only [u2]
              exact Sf.ok trivial
            · refine Sf.ite (fun hc31 => ?_) (fun hc31 => ?_)
              · refine Sf.bind (s_ofWork h_x2_works (by grind) (by decide)) ?_
                intro v19 hr32
                obtain ⟨h_v19, e_v19⟩ : (0 ≤ v19 ∧ v19 ≤ 9999) ∧ v19 = x2_works (v8.toNatClampNeg * 5 + 3) := hr32
                clear e_v19
                exact Sf.ok trivial
              · refine Sf.ite (fun hc33 => ?_) (fun hc33 => ?_)
                · refine Sf.bind (s_ofWork h_x2_works (by grind) (by decide)) ?_
                  intro v21 hr34
                  obtain ⟨h_v21, e_v21⟩ : (0 ≤ v21 ∧ v21 ≤ 19) ∧ v21 = x2_works (v8.toNatClampNeg * 5 + 1) := hr34
                  clear e_v21
                  refine Sf.bind (s_ofWork h_x2_works (by grind) (by decide)) ?_
                  intro v23 hr35
                  obtain ⟨h_v23, e_v23⟩ : (0 ≤ v23 ∧ v23 ≤ 99) ∧ v23 = x2_works (v8.toNatClampNeg * 5 + 2) := hr35
                  clear e_v23
                  exact Sf.ok trivial
                · refine Sf.ite (fun hc36 => ?_) (fun hc36 => ?_)
                  · refine Sf.bind (s_ofWork h_x2_works (by grind) (by decide)) ?_
                    intro v25 hr37
                    obtain ⟨h_v25, e_v25⟩ : (0 ≤ v25 ∧ v25 ≤ 19) ∧ v25 = x2_works (v8.toNatClampNeg * 5 + 1) := hr37
                    clear e_v25
                    refine Sf.bind (s_ofWork h_x2_works (by grind) (by decide)) ?_
                    intro v27 hr38
                    obtain ⟨h_v27, e_v27⟩ : (0 ≤ v27 ∧ v27 ≤ 99) ∧ v27 = x2_works (v8.toNatClampNeg * 5 + 2) := hr38
                    clear e_v27
                    exact Sf.ok trivial
                  · refine Sf.bind (s_ofWork h_x2_works (by grind) (by decide)) ?_
                    intro v29 hr39
                    obtain ⟨h_v29, e_v29⟩ : (0 ≤ v29 ∧ v29 ≤ 19) ∧ v29 = x2_works (v8.toNatClampNeg * 5 + 1) := hr39
                    clear e_v29
                    exact Sf.ok trivial
      · refine Sf.bind (sX6_refuse ) ?_
        rintro ⟨v12, g13⟩ hr40
        dsimp only [u2]
        exact Sf.ok trivial
set_option maxHeartbeats 1000000 in
theorem sX6_isPlace {p0 : Int32}   : Sf (fX6_isPlace p0) (fun r => ((r = 1 ∧ 0 ≤ p0 ∧ p0 ≤ 11) ∨ (r = 0 ∧ (p0 < 0 ∨ 11 < p0)))) := by
  unfold fX6_isPlace
  refine Sf.bind (sX6_within ) ?_
  intro v1 hr1
  have hx_v1 : ((v1 = 1 ∧ 0 ≤ p0 ∧ p0 ≤ 11) ∨ (v1 = 0 ∧ (p0 < 0 ∨ 11 < p0))) := hr1
  refine Sf.zbb (by grind) (fun v3 e_v3 => ?_)
  exact Sf.ok (show ((v3 = 1 ∧ 0 ≤ p0 ∧ p0 ≤ 11) ∨ (v3 = 0 ∧ (p0 < 0 ∨ 11 < p0))) from (by grind))
set_option maxHeartbeats 1000000 in
theorem sX6_line {x0_refused : (Nat → Int32)} {x0_isKept x0_gone x0_spent x1_lineCount x1_goodsCount x1_workCount x1_years : Int32} {x1_lines x1_goods x1_works x1_change x1_coin x1_knownFree : (Nat → Int32)} {x1_isKnown p1 p2 p3 p4 p5 p6 : Int32}  (h_x1_lineCount : (0 ≤ x1_lineCount ∧ x1_lineCount ≤ 20)) (h_x1_goodsCount : (0 ≤ x1_goodsCount ∧ x1_goodsCount ≤ 8)) (h_x1_workCount : (0 ≤ x1_workCount ∧ x1_workCount ≤ 7)) (h_x1_years : (1 ≤ x1_years ∧ x1_years ≤ 30)) (h_x1_lines : (LnOk x1_lines)) (h_x1_goods : (GdOk x1_goods)) (h_x1_works : (WkOk x1_works)) (h_x1_change : (AI 0 99 x1_change)) (h_x1_coin : (AI 0 9 x1_coin)) : Sf (fX6_line (x0_refused, x0_isKept, x0_gone, x0_spent) (x1_lineCount, x1_goodsCount, x1_workCount, x1_years, x1_lines, x1_goods, x1_works, x1_change, x1_coin, x1_knownFree, x1_isKnown) p1 p2 p3 p4 p5 p6) (fun r => (0 ≤ r.2.2.1 ∧ r.2.2.1 ≤ 20) ∧ (LnOk r.2.2.2.1)) := by
  unfold fX6_line
  dsimp only [u11, u4]
  refine Sf.bind (sX6_isPlace ) ?_
  intro v1 hr1
  have hx_v1 : ((v1 = 1 ∧ 0 ≤ p1 ∧ p1 ≤ 11) ∨ (v1 = 0 ∧ (p1 < 0 ∨ 11 < p1))) := hr1
  refine Sf.ite (fun hc2 => ?_) (fun hc2 => ?_)
  · refine Sf.bind (sX6_refuse ) ?_
    rintro ⟨v3, g4⟩ hr3
    dsimp only [u2]
    exact Sf.ok (show (0 ≤ x1_lineCount ∧ x1_lineCount ≤ 20) ∧ (LnOk x1_lines) from ⟨h_x1_lineCount, h_x1_lines⟩)
  · refine Sf.bind (sX6_isPlace ) ?_
    intro v6 hr4
    have hx_v6 : ((v6 = 1 ∧ 0 ≤ p2 ∧ p2 ≤ 11) ∨ (v6 = 0 ∧ (p2 < 0 ∨ 11 < p2))) := hr4
    refine Sf.ite (fun hc5 => ?_) (fun hc5 => ?_)
    · refine Sf.bind (sX6_refuse ) ?_
      rintro ⟨v8, g9⟩ hr6
      dsimp only [u2]
      exact Sf.ok (show (0 ≤ x1_lineCount ∧ x1_lineCount ≤ 20) ∧ (LnOk x1_lines) from ⟨h_x1_lineCount, h_x1_lines⟩)
    · refine Sf.ite (fun hc7 => ?_) (fun hc7 => ?_)
      · refine Sf.bind (sX6_refuse ) ?_
        rintro ⟨v11, g12⟩ hr8
        dsimp only [u2]
        exact Sf.ok (show (0 ≤ x1_lineCount ∧ x1_lineCount ≤ 20) ∧ (LnOk x1_lines) from ⟨h_x1_lineCount, h_x1_lines⟩)
      · refine Sf.bind (sX6_within ) ?_
        intro v14 hr9
        have hx_v14 : ((v14 = 1 ∧ 1 ≤ p3 ∧ p3 ≤ 7) ∨ (v14 = 0 ∧ (p3 < 1 ∨ 7 < p3))) := hr9
        refine Sf.ite (fun hc10 => ?_) (fun hc10 => ?_)
        · refine Sf.bind (sX6_refuse ) ?_
          rintro ⟨v16, g17⟩ hr11
          dsimp only [u2]
          exact Sf.ok (show (0 ≤ x1_lineCount ∧ x1_lineCount ≤ 20) ∧ (LnOk x1_lines) from ⟨h_x1_lineCount, h_x1_lines⟩)
        · refine Sf.bind (sX6_within ) ?_
          intro v19 hr12
          have hx_v19 : ((v19 = 1 ∧ 1 ≤ p4 ∧ p4 ≤ 60) ∨ (v19 = 0 ∧ (p4 < 1 ∨ 60 < p4))) := hr12
          refine Sf.ite (fun hc13 => ?_) (fun hc13 => ?_)
          · refine Sf.bind (sX6_refuse ) ?_
            rintro ⟨v21, g22⟩ hr14
            dsimp only [u2]
            exact Sf.ok (show (0 ≤ x1_lineCount ∧ x1_lineCount ≤ 20) ∧ (LnOk x1_lines) from ⟨h_x1_lineCount, h_x1_lines⟩)
          · refine Sf.bind (sX6_within ) ?_
            intro v24 hr15
            have hx_v24 : ((v24 = 1 ∧ 1 ≤ p5 ∧ p5 ≤ 999) ∨ (v24 = 0 ∧ (p5 < 1 ∨ 999 < p5))) := hr15
            refine Sf.ite (fun hc16 => ?_) (fun hc16 => ?_)
            · refine Sf.bind (sX6_refuse ) ?_
              rintro ⟨v26, g27⟩ hr17
              dsimp only [u2]
              exact Sf.ok (show (0 ≤ x1_lineCount ∧ x1_lineCount ≤ 20) ∧ (LnOk x1_lines) from ⟨h_x1_lineCount, h_x1_lines⟩)
            · refine Sf.bind (sX6_within ) ?_
              intro v29 hr18
              have hx_v29 : ((v29 = 1 ∧ 0 ≤ p6 ∧ p6 ≤ 5) ∨ (v29 = 0 ∧ (p6 < 0 ∨ 5 < p6))) := hr18
              refine Sf.ite (fun hc19 => ?_) (fun hc19 => ?_)
              · refine Sf.bind (sX6_refuse ) ?_
                rintro ⟨v38, g39⟩ hr20
                dsimp only [u2]
                exact Sf.ok (show (0 ≤ x1_lineCount ∧ x1_lineCount ≤ 20) ∧ (LnOk x1_lines) from ⟨h_x1_lineCount, h_x1_lines⟩)
              · refine Sf.ite (fun hc21 => ?_) (fun hc21 => ?_)
                · refine Sf.bind (sX1_addLine h_x1_lineCount h_x1_lines (by grind) (by grind) (by grind) (by grind) (by grind) (by grind)) ?_
                  rintro ⟨g31, g32, g33⟩ hr22
                  obtain ⟨h_g31, h_g32⟩ : (0 ≤ g31 ∧ g31 ≤ 20) ∧ (LnOk g32) := hr22
                  dsimp only [u3]
                  exact Sf.ok (show (0 ≤ g31 ∧ g31 ≤ 20) ∧ (LnOk g32) from ⟨h_g31, h_g32⟩)
                · refine Sf.bind (sX6_refuse ) ?_
                  rintro ⟨v35, g36⟩ hr23
                  dsimp only [u2]
                  exact Sf.ok (show (0 ≤ x1_lineCount ∧ x1_lineCount ≤ 20) ∧ (LnOk x1_lines) from ⟨h_x1_lineCount, h_x1_lines⟩)
set_option maxHeartbeats 1000000 in
theorem sX6_goods {x0_refused : (Nat → Int32)} {x0_isKept x0_gone x0_spent x1_lineCount x1_goodsCount x1_workCount x1_years : Int32} {x1_lines x1_goods x1_works x1_change x1_coin x1_knownFree : (Nat → Int32)} {x1_isKnown p1 p2 p3 : Int32}  (h_x1_lineCount : (0 ≤ x1_lineCount ∧ x1_lineCount ≤ 20)) (h_x1_goodsCount : (0 ≤ x1_goodsCount ∧ x1_goodsCount ≤ 8)) (h_x1_workCount : (0 ≤ x1_workCount ∧ x1_workCount ≤ 7)) (h_x1_years : (1 ≤ x1_years ∧ x1_years ≤ 30)) (h_x1_lines : (LnOk x1_lines)) (h_x1_goods : (GdOk x1_goods)) (h_x1_works : (WkOk x1_works)) (h_x1_change : (AI 0 99 x1_change)) (h_x1_coin : (AI 0 9 x1_coin)) : Sf (fX6_goods (x0_refused, x0_isKept, x0_gone, x0_spent) (x1_lineCount, x1_goodsCount, x1_workCount, x1_years, x1_lines, x1_goods, x1_works, x1_change, x1_coin, x1_knownFree, x1_isKnown) p1 p2 p3) (fun r => (0 ≤ r.2.2.1 ∧ r.2.2.1 ≤ 8) ∧ (GdOk r.2.2.2.1)) := by
  unfold fX6_goods
  dsimp only [u11, u4]
  refine Sf.bind (sX6_isPlace ) ?_
  intro v1 hr1
  have hx_v1 : ((v1 = 1 ∧ 0 ≤ p1 ∧ p1 ≤ 11) ∨ (v1 = 0 ∧ (p1 < 0 ∨ 11 < p1))) := hr1
  refine Sf.ite (fun hc2 => ?_) (fun hc2 => ?_)
  · refine Sf.bind (sX6_refuse ) ?_
    rintro ⟨v3, g4⟩ hr3
    dsimp only [u2]
    exact Sf.ok (show (0 ≤ x1_goodsCount ∧ x1_goodsCount ≤ 8) ∧ (GdOk x1_goods) from ⟨h_x1_goodsCount, h_x1_goods⟩)
  · refine Sf.bind (sX6_isPlace ) ?_
    intro v6 hr4
    have hx_v6 : ((v6 = 1 ∧ 0 ≤ p2 ∧ p2 ≤ 11) ∨ (v6 = 0 ∧ (p2 < 0 ∨ 11 < p2))) := hr4
    refine Sf.ite (fun hc5 => ?_) (fun hc5 => ?_)
    · refine Sf.bind (sX6_refuse ) ?_
      rintro ⟨v8, g9⟩ hr6
      dsimp only [u2]
      exact Sf.ok (show (0 ≤ x1_goodsCount ∧ x1_goodsCount ≤ 8) ∧ (GdOk x1_goods) from ⟨h_x1_goodsCount, h_x1_goods⟩)
    · refine Sf.ite (fun hc7 => ?_) (fun hc7 => ?_)
      · refine Sf.bind (sX6_refuse ) ?_
        rintro ⟨v11, g12⟩ hr8
        dsimp only [u2]
        exact Sf.ok (show (0 ≤ x1_goodsCount ∧ x1_goodsCount ≤ 8) ∧ (GdOk x1_goods) from ⟨h_x1_goodsCount, h_x1_goods⟩)
      · refine Sf.bind (sX6_within ) ?_
        intro v14 hr9
        have hx_v14 : ((v14 = 1 ∧ 1 ≤ p3 ∧ p3 ≤ 99) ∨ (v14 = 0 ∧ (p3 < 1 ∨ 99 < p3))) := hr9
        refine Sf.ite (fun hc10 => ?_) (fun hc10 => ?_)
        · refine Sf.bind (sX6_refuse ) ?_
          rintro ⟨v23, g24⟩ hr11
          dsimp only [u2]
          exact Sf.ok (show (0 ≤ x1_goodsCount ∧ x1_goodsCount ≤ 8) ∧ (GdOk x1_goods) from ⟨h_x1_goodsCount, h_x1_goods⟩)
        · refine Sf.ite (fun hc12 => ?_) (fun hc12 => ?_)
          · refine Sf.bind (sX1_addGoods h_x1_goodsCount h_x1_goods (by grind) (by grind) (by grind)) ?_
            rintro ⟨g16, g17, g18⟩ hr13
            obtain ⟨h_g16, h_g17⟩ : (0 ≤ g16 ∧ g16 ≤ 8) ∧ (GdOk g17) := hr13
            dsimp only [u3]
            exact Sf.ok (show (0 ≤ g16 ∧ g16 ≤ 8) ∧ (GdOk g17) from ⟨h_g16, h_g17⟩)
          · refine Sf.bind (sX6_refuse ) ?_
            rintro ⟨v20, g21⟩ hr14
            dsimp only [u2]
            exact Sf.ok (show (0 ≤ x1_goodsCount ∧ x1_goodsCount ≤ 8) ∧ (GdOk x1_goods) from ⟨h_x1_goodsCount, h_x1_goods⟩)
set_option maxHeartbeats 1000000 in
theorem sX6_work {n : Nat} {x0_refused : (Nat → Int32)} {x0_isKept x0_gone x0_spent x1_lineCount x1_goodsCount x1_workCount x1_years : Int32} {x1_lines x1_goods x1_works x1_change x1_coin x1_knownFree : (Nat → Int32)} {x1_isKnown p1 p2 p3 p4 : Int32} (hn : 1000000000000 ≤ n) (h_x1_lineCount : (0 ≤ x1_lineCount ∧ x1_lineCount ≤ 20)) (h_x1_goodsCount : (0 ≤ x1_goodsCount ∧ x1_goodsCount ≤ 8)) (h_x1_workCount : (0 ≤ x1_workCount ∧ x1_workCount ≤ 7)) (h_x1_years : (1 ≤ x1_years ∧ x1_years ≤ 30)) (h_x1_lines : (LnOk x1_lines)) (h_x1_goods : (GdOk x1_goods)) (h_x1_works : (WkOk x1_works)) (h_x1_change : (AI 0 99 x1_change)) (h_x1_coin : (AI 0 9 x1_coin)) : Sf (fX6_work n (x0_refused, x0_isKept, x0_gone, x0_spent) (x1_lineCount, x1_goodsCount, x1_workCount, x1_years, x1_lines, x1_goods, x1_works, x1_change, x1_coin, x1_knownFree, x1_isKnown) p1 p2 p3 p4) (fun r => (0 ≤ r.2.2.1 ∧ r.2.2.1 ≤ 7) ∧ (WkOk r.2.2.2.1)) := by
  unfold fX6_work
  dsimp only [u11, u4]
  refine Sf.bind (sX1_allowsWork hn h_x1_lineCount h_x1_goodsCount h_x1_workCount h_x1_years h_x1_lines h_x1_goods h_x1_works h_x1_change h_x1_coin) ?_
  intro v1 hr1
  have hx_v1 : (v1 = 0 ∨ (v1 = 1 ∧ (0 ≤ p1 ∧ p1 ≤ 5) ∧ (0 ≤ p2 ∧ p2 ≤ 19) ∧ (0 ≤ p3 ∧ p3 ≤ 99) ∧ WkR p1 p2 p3)) := hr1
  refine Sf.ite (fun hc2 => ?_) (fun hc2 => ?_)
  · refine Sf.bind (sX6_refuse ) ?_
    rintro ⟨v3, g4⟩ hr3
    dsimp only [u2]
    exact Sf.ok (show (0 ≤ x1_workCount ∧ x1_workCount ≤ 7) ∧ (WkOk x1_works) from ⟨h_x1_workCount, h_x1_works⟩)
  · refine Sf.bind (sX6_within ) ?_
    intro v6 hr4
    have hx_v6 : ((v6 = 1 ∧ 0 ≤ p4 ∧ p4 ≤ 9999) ∨ (v6 = 0 ∧ (p4 < 0 ∨ 9999 < p4))) := hr4
    refine Sf.ite (fun hc5 => ?_) (fun hc5 => ?_)
    · refine Sf.bind (sX6_refuse ) ?_
      rintro ⟨v15, g16⟩ hr6
      dsimp only [u2]
      exact Sf.ok (show (0 ≤ x1_workCount ∧ x1_workCount ≤ 7) ∧ (WkOk x1_works) from ⟨h_x1_workCount, h_x1_works⟩)
    · refine Sf.ite (fun hc7 => ?_) (fun hc7 => ?_)
      · refine Sf.bind (sX1_addWork h_x1_workCount h_x1_works (by grind) (by grind) (by grind) (by grind) (by first | grind | (unfold WkR; grind))) ?_
        rintro ⟨g8, g9, g10⟩ hr8
        obtain ⟨h_g8, h_g9⟩ : (0 ≤ g8 ∧ g8 ≤ 7) ∧ (WkOk g9) := hr8
        dsimp only [u3]
        exact Sf.ok (show (0 ≤ g8 ∧ g8 ≤ 7) ∧ (WkOk g9) from ⟨h_g8, h_g9⟩)
      · refine Sf.bind (sX6_refuse ) ?_
        rintro ⟨v12, g13⟩ hr9
        dsimp only [u2]
        exact Sf.ok (show (0 ≤ x1_workCount ∧ x1_workCount ≤ 7) ∧ (WkOk x1_works) from ⟨h_x1_workCount, h_x1_works⟩)
set_option maxHeartbeats 1000000 in
theorem sX6_change {x0_refused : (Nat → Int32)} {x0_isKept x0_gone x0_spent x1_lineCount x1_goodsCount x1_workCount x1_years : Int32} {x1_lines x1_goods x1_works x1_change x1_coin x1_knownFree : (Nat → Int32)} {x1_isKnown p1 p2 : Int32}  (h_x1_lineCount : (0 ≤ x1_lineCount ∧ x1_lineCount ≤ 20)) (h_x1_goodsCount : (0 ≤ x1_goodsCount ∧ x1_goodsCount ≤ 8)) (h_x1_workCount : (0 ≤ x1_workCount ∧ x1_workCount ≤ 7)) (h_x1_years : (1 ≤ x1_years ∧ x1_years ≤ 30)) (h_x1_lines : (LnOk x1_lines)) (h_x1_goods : (GdOk x1_goods)) (h_x1_works : (WkOk x1_works)) (h_x1_change : (AI 0 99 x1_change)) (h_x1_coin : (AI 0 9 x1_coin)) : Sf (fX6_change (x0_refused, x0_isKept, x0_gone, x0_spent) (x1_lineCount, x1_goodsCount, x1_workCount, x1_years, x1_lines, x1_goods, x1_works, x1_change, x1_coin, x1_knownFree, x1_isKnown) p1 p2) (fun r => (AI 0 99 r.2.2.1)) := by
  unfold fX6_change
  dsimp only [u11, u4]
  refine Sf.bind (sX6_isPlace ) ?_
  intro v1 hr1
  have hx_v1 : ((v1 = 1 ∧ 0 ≤ p1 ∧ p1 ≤ 11) ∨ (v1 = 0 ∧ (p1 < 0 ∨ 11 < p1))) := hr1
  refine Sf.ite (fun hc2 => ?_) (fun hc2 => ?_)
  · refine Sf.bind (sX6_refuse ) ?_
    rintro ⟨v3, g4⟩ hr3
    dsimp only [u2]
    exact Sf.ok (show (AI 0 99 x1_change) from h_x1_change)
  · refine Sf.bind (sX6_within ) ?_
    intro v6 hr4
    have hx_v6 : ((v6 = 1 ∧ 0 ≤ p2 ∧ p2 ≤ 99) ∨ (v6 = 0 ∧ (p2 < 0 ∨ 99 < p2))) := hr4
    refine Sf.ite (fun hc5 => ?_) (fun hc5 => ?_)
    · refine Sf.bind (sX6_refuse ) ?_
      rintro ⟨v12, g13⟩ hr6
      dsimp only [u2]
      exact Sf.ok (show (AI 0 99 x1_change) from h_x1_change)
    · refine Sf.rdI 12 rfl h_x1_change (by grind) (fun v8 h_v8 e_v8 => ?_)
      clear e_v8
      refine Sf.bind (sX1_putChange h_x1_lineCount h_x1_goodsCount h_x1_workCount h_x1_years h_x1_lines h_x1_goods h_x1_works h_x1_change h_x1_coin (by grind)) ?_
      rintro ⟨g9, g10⟩ hr7
      have h_g9 : (AI 0 99 g9) := hr7
      dsimp only [u2]
      exact Sf.ok (show (AI 0 99 g9) from h_g9)
set_option maxHeartbeats 1000000 in
theorem sX6_coin {x0_refused : (Nat → Int32)} {x0_isKept x0_gone x0_spent x1_lineCount x1_goodsCount x1_workCount x1_years : Int32} {x1_lines x1_goods x1_works x1_change x1_coin x1_knownFree : (Nat → Int32)} {x1_isKnown p1 p2 : Int32}  (h_x1_lineCount : (0 ≤ x1_lineCount ∧ x1_lineCount ≤ 20)) (h_x1_goodsCount : (0 ≤ x1_goodsCount ∧ x1_goodsCount ≤ 8)) (h_x1_workCount : (0 ≤ x1_workCount ∧ x1_workCount ≤ 7)) (h_x1_years : (1 ≤ x1_years ∧ x1_years ≤ 30)) (h_x1_lines : (LnOk x1_lines)) (h_x1_goods : (GdOk x1_goods)) (h_x1_works : (WkOk x1_works)) (h_x1_change : (AI 0 99 x1_change)) (h_x1_coin : (AI 0 9 x1_coin)) : Sf (fX6_coin (x0_refused, x0_isKept, x0_gone, x0_spent) (x1_lineCount, x1_goodsCount, x1_workCount, x1_years, x1_lines, x1_goods, x1_works, x1_change, x1_coin, x1_knownFree, x1_isKnown) p1 p2) (fun r => (AI 0 9 r.2.2.1)) := by
  unfold fX6_coin
  dsimp only [u11, u4]
  refine Sf.bind (sX6_within ) ?_
  intro v1 hr1
  have hx_v1 : ((v1 = 1 ∧ 0 ≤ p1 ∧ p1 ≤ 2) ∨ (v1 = 0 ∧ (p1 < 0 ∨ 2 < p1))) := hr1
  refine Sf.ite (fun hc2 => ?_) (fun hc2 => ?_)
  · refine Sf.bind (sX6_refuse ) ?_
    rintro ⟨v3, g4⟩ hr3
    dsimp only [u2]
    exact Sf.ok (show (AI 0 9 x1_coin) from h_x1_coin)
  · refine Sf.bind (sX6_within ) ?_
    intro v6 hr4
    have hx_v6 : ((v6 = 1 ∧ 0 ≤ p2 ∧ p2 ≤ 9) ∨ (v6 = 0 ∧ (p2 < 0 ∨ 9 < p2))) := hr4
    refine Sf.ite (fun hc5 => ?_) (fun hc5 => ?_)
    · refine Sf.bind (sX6_refuse ) ?_
      rintro ⟨v12, g13⟩ hr6
      dsimp only [u2]
      exact Sf.ok (show (AI 0 9 x1_coin) from h_x1_coin)
    · refine Sf.rdI 3 rfl h_x1_coin (by grind) (fun v8 h_v8 e_v8 => ?_)
      clear e_v8
      refine Sf.bind (sX1_putCoin h_x1_lineCount h_x1_goodsCount h_x1_workCount h_x1_years h_x1_lines h_x1_goods h_x1_works h_x1_change h_x1_coin (by grind)) ?_
      rintro ⟨g9, g10⟩ hr7
      have h_g9 : (AI 0 9 g9) := hr7
      dsimp only [u2]
      exact Sf.ok (show (AI 0 9 g9) from h_g9)
set_option maxHeartbeats 1000000 in
theorem sX6_years {x0_refused : (Nat → Int32)} {x0_isKept x0_gone x0_spent x1_lineCount x1_goodsCount x1_workCount x1_years : Int32} {x1_lines x1_goods x1_works x1_change x1_coin x1_knownFree : (Nat → Int32)} {x1_isKnown p1 : Int32}  (h_x1_lineCount : (0 ≤ x1_lineCount ∧ x1_lineCount ≤ 20)) (h_x1_goodsCount : (0 ≤ x1_goodsCount ∧ x1_goodsCount ≤ 8)) (h_x1_workCount : (0 ≤ x1_workCount ∧ x1_workCount ≤ 7)) (h_x1_years : (1 ≤ x1_years ∧ x1_years ≤ 30)) (h_x1_lines : (LnOk x1_lines)) (h_x1_goods : (GdOk x1_goods)) (h_x1_works : (WkOk x1_works)) (h_x1_change : (AI 0 99 x1_change)) (h_x1_coin : (AI 0 9 x1_coin)) : Sf (fX6_years (x0_refused, x0_isKept, x0_gone, x0_spent) (x1_lineCount, x1_goodsCount, x1_workCount, x1_years, x1_lines, x1_goods, x1_works, x1_change, x1_coin, x1_knownFree, x1_isKnown) p1) (fun r => (1 ≤ r.2.2 ∧ r.2.2 ≤ 30)) := by
  unfold fX6_years
  dsimp only [u11, u4]
  refine Sf.bind (sX6_within ) ?_
  intro v1 hr1
  have hx_v1 : ((v1 = 1 ∧ 1 ≤ p1 ∧ p1 ≤ 30) ∨ (v1 = 0 ∧ (p1 < 1 ∨ 30 < p1))) := hr1
  refine Sf.ite (fun hc2 => ?_) (fun hc2 => ?_)
  · refine Sf.bind (sX6_refuse ) ?_
    rintro ⟨v3, g4⟩ hr3
    dsimp only [u2]
    exact Sf.ok (show (1 ≤ x1_years ∧ x1_years ≤ 30) from h_x1_years)
  · exact Sf.ok (show (1 ≤ p1 ∧ p1 ≤ 30) from (by grind))
set_option maxHeartbeats 1000000 in
theorem sX6_washed {x0_refused : (Nat → Int32)} {x0_isKept x0_gone x0_spent x1_lineCount x1_goodsCount x1_workCount x1_years : Int32} {x1_lines x1_goods x1_works x1_change x1_coin x1_knownFree : (Nat → Int32)} {x1_isKnown p1 p2 : Int32}  (h_x1_lineCount : (0 ≤ x1_lineCount ∧ x1_lineCount ≤ 20)) (h_x1_goodsCount : (0 ≤ x1_goodsCount ∧ x1_goodsCount ≤ 8)) (h_x1_workCount : (0 ≤ x1_workCount ∧ x1_workCount ≤ 7)) (h_x1_years : (1 ≤ x1_years ∧ x1_years ≤ 30)) (h_x1_lines : (LnOk x1_lines)) (h_x1_goods : (GdOk x1_goods)) (h_x1_works : (WkOk x1_works)) (h_x1_change : (AI 0 99 x1_change)) (h_x1_coin : (AI 0 9 x1_coin)) : Sf (fX6_washed (x0_refused, x0_isKept, x0_gone, x0_spent) (x1_lineCount, x1_goodsCount, x1_workCount, x1_years, x1_lines, x1_goods, x1_works, x1_change, x1_coin, x1_knownFree, x1_isKnown) p1 p2) (fun r => (LnOk r.2.2.1)) := by
  unfold fX6_washed
  dsimp only [u11, u4]
  refine Sf.bind (sX1_hasLine h_x1_lineCount h_x1_goodsCount h_x1_workCount h_x1_years h_x1_lines h_x1_goods h_x1_works h_x1_change h_x1_coin) ?_
  intro v1 hr1
  have hx_v1 : ((v1 = 1 ∧ 0 ≤ p1 ∧ p1 < x1_lineCount) ∨ (v1 = 0 ∧ ¬ (0 ≤ p1 ∧ p1 < x1_lineCount))) := hr1
  refine Sf.ite (fun hc2 => ?_) (fun hc2 => ?_)
  · refine Sf.bind (sX6_refuse ) ?_
    rintro ⟨v9, g10⟩ hr3
    dsimp only [u2]
    exact Sf.ok (show (LnOk x1_lines) from h_x1_lines)
  · refine Sf.ite (fun hc4 => ?_) (fun hc4 => ?_)
    · unfold fX6_washed_j27
      refine Sf.bind (s_ofLine h_x1_lines (by grind) (by decide)) ?_
      intro v4 hr5
      obtain ⟨h_v4, e_v4⟩ : (0 ≤ v4 ∧ v4 ≤ 1) ∧ v4 = x1_lines (p1.toNatClampNeg * 7 + 6) := hr5
      clear e_v4
      refine Sf.ite (fun hc6 => ?_) (fun hc6 => ?_)
      · exact Sf.ok (show (LnOk x1_lines) from h_x1_lines)
      · refine Sf.bind (sX1_putWashed h_x1_lineCount h_x1_lines (by decide)) ?_
        rintro ⟨g6, g7⟩ hr7
        have h_g6 : (LnOk g6) := hr7
        dsimp only [u2]
        exact Sf.ok (show (LnOk g6) from h_g6)
    · unfold fX6_washed_j27
      refine Sf.bind (s_ofLine h_x1_lines (by grind) (by decide)) ?_
      intro v4 hr8
      obtain ⟨h_v4, e_v4⟩ : (0 ≤ v4 ∧ v4 ≤ 1) ∧ v4 = x1_lines (p1.toNatClampNeg * 7 + 6) := hr8
      clear e_v4
      refine Sf.ite (fun hc9 => ?_) (fun hc9 => ?_)
      · exact Sf.ok (show (LnOk x1_lines) from h_x1_lines)
      · refine Sf.bind (sX1_putWashed h_x1_lineCount h_x1_lines (by decide)) ?_
        rintro ⟨g6, g7⟩ hr10
        have h_g6 : (LnOk g6) := hr10
        dsimp only [u2]
        exact Sf.ok (show (LnOk g6) from h_g6)
theorem TX6_feed_s42 {p1 x1_start x1_end x1_token x1_value z4 : Int32} {z5 : (Nat → Int32)} {z6 : Int32}  (h_x1_start : (0 ≤ x1_start ∧ x1_start ≤ 250)) (h_x1_end : (0 ≤ x1_end ∧ x1_end ≤ 250)) (h_z6 : (0 ≤ z6 ∧ z6 ≤ 250)) : Sf (fX6_feed_s42 p1 x1_start x1_end x1_token x1_value z4 z5 z6) (LQ (fun (e : Int32 × (Nat → Int32) × Int32) => (0 ≤ e.2.2 ∧ e.2.2 ≤ 250)) (fun (e : Int32 × (Nat → Int32) × Int32) => muDe e.1) (muDe z4) (fun e => (0 ≤ e.2 ∧ e.2 ≤ 250))) := by
  unfold fX6_feed_s42
  refine Sf.ite (fun hc1 => ?_) (fun hc1 => ?_)
  · exact Sf.inr (show (0 ≤ z6 ∧ z6 ≤ 250) from h_z6)
  · refine Sf.bind (sX3_put h_z6 h_x1_start h_x1_end) ?_
    rintro ⟨g10, g11⟩ hr2
    have h_g11 : (0 ≤ g11 ∧ g11 ≤ 250) := hr2
    exact Sf.inl (show (0 ≤ g11 ∧ g11 ≤ 250) from h_g11) (muDe_lta hc1)
theorem LX6_feed_s42 {n : Nat} {p1 x1_start x1_end x1_token x1_value z4 : Int32} {z5 : (Nat → Int32)} {z6 : Int32} (hn : 1000000000000 ≤ n) (h_x1_start : (0 ≤ x1_start ∧ x1_start ≤ 250)) (h_x1_end : (0 ≤ x1_end ∧ x1_end ≤ 250)) (h_z6 : (0 ≤ z6 ∧ z6 ≤ 250)) : Sf (lp (u3 (fX6_feed_s42 p1 x1_start x1_end x1_token x1_value)) n (z4, z5, z6)) (fun e => (0 ≤ e.2 ∧ e.2 ≤ 250)) :=
  Sf.loop (fun (e : Int32 × (Nat → Int32) × Int32) => (0 ≤ e.2.2 ∧ e.2.2 ≤ 250)) (fun (e : Int32 × (Nat → Int32) × Int32) => muDe e.1) (fun s h => by rw [u3_def]; exact TX6_feed_s42 h_x1_start h_x1_end h) n _ h_z6 (muDe_n hn)
set_option maxHeartbeats 1000000 in
theorem sX6_feed {n : Nat} {x0_refused : (Nat → Int32)} {x0_isKept x0_gone x0_spent : Int32} {x1_bytes : (Nat → Int32)} {x1_size x1_start x1_end x1_token x1_value p1 p2 : Int32} (hn : 1000000000000 ≤ n) (h_x1_size : (0 ≤ x1_size ∧ x1_size ≤ 250)) (h_x1_start : (0 ≤ x1_start ∧ x1_start ≤ 250)) (h_x1_end : (0 ≤ x1_end ∧ x1_end ≤ 250)) : Sf (fX6_feed n (x0_refused, x0_isKept, x0_gone, x0_spent) (x1_bytes, x1_size, x1_start, x1_end, x1_token, x1_value) p1 p2) (fun r => (0 ≤ r.2.2.2 ∧ r.2.2.2 ≤ 250)) := by
  unfold fX6_feed
  dsimp only [u4, u6]
  refine Sf.bind (sX6_within ) ?_
  intro v1 hr1
  have hx_v1 : ((v1 = 1 ∧ 1 ≤ p2 ∧ p2 ≤ 4) ∨ (v1 = 0 ∧ (p2 < 1 ∨ 4 < p2))) := hr1
  refine Sf.ite (fun hc2 => ?_) (fun hc2 => ?_)
  · refine Sf.bind (sX6_refuse ) ?_
    rintro ⟨v16, g17⟩ hr3
    exact Sf.ok (show (0 ≤ x1_size ∧ x1_size ≤ 250) from h_x1_size)
  · refine Sf.ite (fun hc4 => ?_) (fun hc4 => ?_)
    · refine Sf.bind (LX6_feed_s42 hn h_x1_start h_x1_end h_x1_size) ?_
      rintro ⟨w8, w9⟩ hr5
      have h_w9 : (0 ≤ w9 ∧ w9 ≤ 250) := hr5
      exact Sf.ok (show (0 ≤ w9 ∧ w9 ≤ 250) from h_w9)
    · refine Sf.bind (sX6_refuse ) ?_
      rintro ⟨v13, g14⟩ hr6
      exact Sf.ok (show (0 ≤ x1_size ∧ x1_size ≤ 250) from h_x1_size)
set_option maxHeartbeats 1000000 in
theorem sX6_wipe {x0_refused : (Nat → Int32)} {x0_isKept x0_gone x0_spent : Int32} {x1_bytes : (Nat → Int32)} {x1_size x1_start x1_end x1_token x1_value : Int32}  (h_x1_size : (0 ≤ x1_size ∧ x1_size ≤ 250)) (h_x1_start : (0 ≤ x1_start ∧ x1_start ≤ 250)) (h_x1_end : (0 ≤ x1_end ∧ x1_end ≤ 250)) : Sf (fX6_wipe (x0_refused, x0_isKept, x0_gone, x0_spent) (x1_bytes, x1_size, x1_start, x1_end, x1_token, x1_value)) (fun r => (0 ≤ r.2 ∧ r.2 ≤ 250)) := by
  unfold fX6_wipe
  dsimp only [u4, u6]
  exact Sf.ok (show (0 ≤ 0 ∧ 0 ≤ 250) from (by decide))
set_option maxHeartbeats 1000000 in
theorem sX6_land {n : Nat} {x0_refused : (Nat → Int32)} {x0_isKept x0_gone x0_spent : Int32} {x1_gained : (Nat → Int32)} {x2_lineCount x2_goodsCount x2_workCount x2_years : Int32} {x2_lines x2_goods x2_works x2_change x2_coin x2_knownFree : (Nat → Int32)} {x2_isKnown x3_lineCount x3_goodsCount x3_workCount x3_years : Int32} {x3_lines x3_goods x3_works x3_change x3_coin x3_knownFree : (Nat → Int32)} {x3_isKnown : Int32} {x4_bytes : (Nat → Int32)} {x4_size x4_start x4_end x4_token x4_value : Int32} (hn : 1000000000000 ≤ n) (h_x2_lineCount : (0 ≤ x2_lineCount ∧ x2_lineCount ≤ 20)) (h_x2_goodsCount : (0 ≤ x2_goodsCount ∧ x2_goodsCount ≤ 8)) (h_x2_workCount : (0 ≤ x2_workCount ∧ x2_workCount ≤ 7)) (h_x2_years : (1 ≤ x2_years ∧ x2_years ≤ 30)) (h_x2_lines : (LnOk x2_lines)) (h_x2_goods : (GdOk x2_goods)) (h_x2_works : (WkOk x2_works)) (h_x2_change : (AI 0 99 x2_change)) (h_x2_coin : (AI 0 9 x2_coin)) (h_x3_lineCount : (0 ≤ x3_lineCount ∧ x3_lineCount ≤ 20)) (h_x3_goodsCount : (0 ≤ x3_goodsCount ∧ x3_goodsCount ≤ 8)) (h_x3_workCount : (0 ≤ x3_workCount ∧ x3_workCount ≤ 7)) (h_x3_years : (1 ≤ x3_years ∧ x3_years ≤ 30)) (h_x3_lines : (LnOk x3_lines)) (h_x3_goods : (GdOk x3_goods)) (h_x3_works : (WkOk x3_works)) (h_x3_change : (AI 0 99 x3_change)) (h_x3_coin : (AI 0 9 x3_coin)) (h_x4_size : (0 ≤ x4_size ∧ x4_size ≤ 250)) (h_x4_start : (0 ≤ x4_start ∧ x4_start ≤ 250)) (h_x4_end : (0 ≤ x4_end ∧ x4_end ≤ 250)) : Sf (fX6_land n (x0_refused, x0_isKept, x0_gone, x0_spent) x1_gained (x2_lineCount, x2_goodsCount, x2_workCount, x2_years, x2_lines, x2_goods, x2_works, x2_change, x2_coin, x2_knownFree, x2_isKnown) (x3_lineCount, x3_goodsCount, x3_workCount, x3_years, x3_lines, x3_goods, x3_works, x3_change, x3_coin, x3_knownFree, x3_isKnown) (x4_bytes, x4_size, x4_start, x4_end, x4_token, x4_value)) (fun r => (0 ≤ r.2.2.1.1 ∧ r.2.2.1.1 ≤ 20) ∧ (0 ≤ r.2.2.1.2.1 ∧ r.2.2.1.2.1 ≤ 8) ∧ (0 ≤ r.2.2.1.2.2.1 ∧ r.2.2.1.2.2.1 ≤ 7) ∧ (1 ≤ r.2.2.1.2.2.2.1 ∧ r.2.2.1.2.2.2.1 ≤ 30) ∧ (LnOk r.2.2.1.2.2.2.2.1) ∧ (GdOk r.2.2.1.2.2.2.2.2.1) ∧ (WkOk r.2.2.1.2.2.2.2.2.2.1) ∧ (AI 0 99 r.2.2.1.2.2.2.2.2.2.2.1) ∧ (AI 0 9 r.2.2.1.2.2.2.2.2.2.2.2.1) ∧ (0 ≤ r.2.2.2.1.1 ∧ r.2.2.2.1.1 ≤ 20) ∧ (0 ≤ r.2.2.2.1.2.1 ∧ r.2.2.2.1.2.1 ≤ 8) ∧ (0 ≤ r.2.2.2.1.2.2.1 ∧ r.2.2.2.1.2.2.1 ≤ 7) ∧ (1 ≤ r.2.2.2.1.2.2.2.1 ∧ r.2.2.2.1.2.2.2.1 ≤ 30) ∧ (LnOk r.2.2.2.1.2.2.2.2.1) ∧ (GdOk r.2.2.2.1.2.2.2.2.2.1) ∧ (WkOk r.2.2.2.1.2.2.2.2.2.2.1) ∧ (AI 0 99 r.2.2.2.1.2.2.2.2.2.2.2.1) ∧ (AI 0 9 r.2.2.2.1.2.2.2.2.2.2.2.2.1) ∧ (0 ≤ r.2.2.2.2.1 ∧ r.2.2.2.2.1 ≤ 250) ∧ (0 ≤ r.2.2.2.2.2.1 ∧ r.2.2.2.2.2.1 ≤ 250) ∧ (0 ≤ r.2.2.2.2.2.2.1 ∧ r.2.2.2.2.2.2.1 ≤ 250)) := by
  unfold fX6_land
  dsimp only [u11, u4, u6]
  refine Sf.bind (sX1_take h_x2_lines h_x2_goods h_x2_works h_x2_change h_x2_coin h_x3_lineCount h_x3_goodsCount h_x3_workCount h_x3_years h_x3_lines h_x3_goods h_x3_works h_x3_change h_x3_coin) ?_
  rintro ⟨g2, g3, g4, g5, g6, g7, g8, g9, g10, g11⟩ hr1
  obtain ⟨h_g2, h_g3, h_g4, h_g5, h_g6, h_g7, h_g8, h_g9, h_g10⟩ : (0 ≤ g2 ∧ g2 ≤ 20) ∧ (0 ≤ g3 ∧ g3 ≤ 8) ∧ (0 ≤ g4 ∧ g4 ≤ 7) ∧ (1 ≤ g5 ∧ g5 ≤ 30) ∧ (LnOk g6) ∧ (GdOk g7) ∧ (WkOk g8) ∧ (AI 0 99 g9) ∧ (AI 0 9 g10) := hr1
  dsimp only [u10]
  refine Sf.bind (sX3_readInto hn h_x4_size h_x4_start h_x4_end h_g2 h_g3 h_g4 h_g5 h_g6 h_g7 h_g8 h_g9 h_g10) ?_
  rintro ⟨v13, g14, g15, g16, g17, ⟨g19, g20, g21, g22, g23, g24, g25, g26, g27, g28⟩⟩ hr2
  obtain ⟨h_g14, h_g15, h_g19, h_g20, h_g21, h_g22, h_g23, h_g24, h_g25, h_g26, h_g27⟩ : (0 ≤ g14 ∧ g14 ≤ 250) ∧ (0 ≤ g15 ∧ g15 ≤ 250) ∧ (0 ≤ g19 ∧ g19 ≤ 20) ∧ (0 ≤ g20 ∧ g20 ≤ 8) ∧ (0 ≤ g21 ∧ g21 ≤ 7) ∧ (1 ≤ g22 ∧ g22 ≤ 30) ∧ (LnOk g23) ∧ (GdOk g24) ∧ (WkOk g25) ∧ (AI 0 99 g26) ∧ (AI 0 9 g27) := hr2
  dsimp only [u10, u6]
  refine Sf.ite (fun hc3 => ?_) (fun hc3 => ?_)
  · refine Sf.bind (sX1_take h_x3_lines h_x3_goods h_x3_works h_x3_change h_x3_coin h_g19 h_g20 h_g21 h_g22 h_g23 h_g24 h_g25 h_g26 h_g27) ?_
    rintro ⟨g31, g32, g33, g34, g35, g36, g37, g38, g39, g40⟩ hr4
    obtain ⟨h_g31, h_g32, h_g33, h_g34, h_g35, h_g36, h_g37, h_g38, h_g39⟩ : (0 ≤ g31 ∧ g31 ≤ 20) ∧ (0 ≤ g32 ∧ g32 ≤ 8) ∧ (0 ≤ g33 ∧ g33 ≤ 7) ∧ (1 ≤ g34 ∧ g34 ≤ 30) ∧ (LnOk g35) ∧ (GdOk g36) ∧ (WkOk g37) ∧ (AI 0 99 g38) ∧ (AI 0 9 g39) := hr4
    dsimp only [u10]
    exact Sf.ok (show (0 ≤ g19 ∧ g19 ≤ 20) ∧ (0 ≤ g20 ∧ g20 ≤ 8) ∧ (0 ≤ g21 ∧ g21 ≤ 7) ∧ (1 ≤ g22 ∧ g22 ≤ 30) ∧ (LnOk g23) ∧ (GdOk g24) ∧ (WkOk g25) ∧ (AI 0 99 g26) ∧ (AI 0 9 g27) ∧ (0 ≤ g31 ∧ g31 ≤ 20) ∧ (0 ≤ g32 ∧ g32 ≤ 8) ∧ (0 ≤ g33 ∧ g33 ≤ 7) ∧ (1 ≤ g34 ∧ g34 ≤ 30) ∧ (LnOk g35) ∧ (GdOk g36) ∧ (WkOk g37) ∧ (AI 0 99 g38) ∧ (AI 0 9 g39) ∧ (0 ≤ 0 ∧ 0 ≤ 250) ∧ (0 ≤ g14 ∧ g14 ≤ 250) ∧ (0 ≤ g15 ∧ g15 ≤ 250) from ⟨h_g19, h_g20, h_g21, h_g22, h_g23, h_g24, h_g25, h_g26, h_g27, h_g31, h_g32, h_g33, h_g34, h_g35, h_g36, h_g37, h_g38, h_g39, (by decide), h_g14, h_g15⟩)
  · refine Sf.bind (sX6_refuse ) ?_
    rintro ⟨v42, g43⟩ hr5
    dsimp only [u2]
    exact Sf.ok (show (0 ≤ g19 ∧ g19 ≤ 20) ∧ (0 ≤ g20 ∧ g20 ≤ 8) ∧ (0 ≤ g21 ∧ g21 ≤ 7) ∧ (1 ≤ g22 ∧ g22 ≤ 30) ∧ (LnOk g23) ∧ (GdOk g24) ∧ (WkOk g25) ∧ (AI 0 99 g26) ∧ (AI 0 9 g27) ∧ (0 ≤ x3_lineCount ∧ x3_lineCount ≤ 20) ∧ (0 ≤ x3_goodsCount ∧ x3_goodsCount ≤ 8) ∧ (0 ≤ x3_workCount ∧ x3_workCount ≤ 7) ∧ (1 ≤ x3_years ∧ x3_years ≤ 30) ∧ (LnOk x3_lines) ∧ (GdOk x3_goods) ∧ (WkOk x3_works) ∧ (AI 0 99 x3_change) ∧ (AI 0 9 x3_coin) ∧ (0 ≤ 0 ∧ 0 ≤ 250) ∧ (0 ≤ g14 ∧ g14 ≤ 250) ∧ (0 ≤ g15 ∧ g15 ≤ 250) from ⟨h_g19, h_g20, h_g21, h_g22, h_g23, h_g24, h_g25, h_g26, h_g27, h_x3_lineCount, h_x3_goodsCount, h_x3_workCount, h_x3_years, h_x3_lines, h_x3_goods, h_x3_works, h_x3_change, h_x3_coin, (by decide), h_g14, h_g15⟩)
set_option maxHeartbeats 1000000 in
theorem sX6_lineOf {x0_refused : (Nat → Int32)} {x0_isKept x0_gone x0_spent x1_lineCount x1_goodsCount x1_workCount x1_years : Int32} {x1_lines x1_goods x1_works x1_change x1_coin x1_knownFree : (Nat → Int32)} {x1_isKnown p1 p2 : Int32}  (h_x1_lineCount : (0 ≤ x1_lineCount ∧ x1_lineCount ≤ 20)) (h_x1_goodsCount : (0 ≤ x1_goodsCount ∧ x1_goodsCount ≤ 8)) (h_x1_workCount : (0 ≤ x1_workCount ∧ x1_workCount ≤ 7)) (h_x1_years : (1 ≤ x1_years ∧ x1_years ≤ 30)) (h_x1_lines : (LnOk x1_lines)) (h_x1_goods : (GdOk x1_goods)) (h_x1_works : (WkOk x1_works)) (h_x1_change : (AI 0 99 x1_change)) (h_x1_coin : (AI 0 9 x1_coin)) : Sf (fX6_lineOf (x0_refused, x0_isKept, x0_gone, x0_spent) (x1_lineCount, x1_goodsCount, x1_workCount, x1_years, x1_lines, x1_goods, x1_works, x1_change, x1_coin, x1_knownFree, x1_isKnown) p1 p2) (fun r => True) := by
  unfold fX6_lineOf
  dsimp only [u11, u4]
  refine Sf.bind (sX1_hasLine h_x1_lineCount h_x1_goodsCount h_x1_workCount h_x1_years h_x1_lines h_x1_goods h_x1_works h_x1_change h_x1_coin) ?_
  intro v1 hr1
  have hx_v1 : ((v1 = 1 ∧ 0 ≤ p1 ∧ p1 < x1_lineCount) ∨ (v1 = 0 ∧ ¬ (0 ≤ p1 ∧ p1 < x1_lineCount))) := hr1
  refine Sf.ite (fun hc2 => ?_) (fun hc2 => ?_)
  · refine Sf.bind (sX6_refuse ) ?_
    rintro ⟨v3, g4⟩ hr3
    dsimp only [u2]
    exact Sf.ok trivial
  · refine Sf.bind (sX6_within ) ?_
    intro v6 hr4
    have hx_v6 : ((v6 = 1 ∧ 0 ≤ p2 ∧ p2 ≤ 6) ∨ (v6 = 0 ∧ (p2 < 0 ∨ 6 < p2))) := hr4
    refine Sf.ite (fun hc5 => ?_) (fun hc5 => ?_)
    · refine Sf.bind (sX6_refuse ) ?_
      rintro ⟨v10, g11⟩ hr6
      dsimp only [u2]
      exact Sf.ok trivial
    · refine Sf.bind (sX1_ofLine h_x1_lines (by grind) (by grind)) ?_
      intro v8 hr7
      exact Sf.ok trivial
set_option maxHeartbeats 1000000 in
theorem sX6_goodsOf {x0_refused : (Nat → Int32)} {x0_isKept x0_gone x0_spent x1_lineCount x1_goodsCount x1_workCount x1_years : Int32} {x1_lines x1_goods x1_works x1_change x1_coin x1_knownFree : (Nat → Int32)} {x1_isKnown p1 p2 : Int32}  (h_x1_lineCount : (0 ≤ x1_lineCount ∧ x1_lineCount ≤ 20)) (h_x1_goodsCount : (0 ≤ x1_goodsCount ∧ x1_goodsCount ≤ 8)) (h_x1_workCount : (0 ≤ x1_workCount ∧ x1_workCount ≤ 7)) (h_x1_years : (1 ≤ x1_years ∧ x1_years ≤ 30)) (h_x1_lines : (LnOk x1_lines)) (h_x1_goods : (GdOk x1_goods)) (h_x1_works : (WkOk x1_works)) (h_x1_change : (AI 0 99 x1_change)) (h_x1_coin : (AI 0 9 x1_coin)) : Sf (fX6_goodsOf (x0_refused, x0_isKept, x0_gone, x0_spent) (x1_lineCount, x1_goodsCount, x1_workCount, x1_years, x1_lines, x1_goods, x1_works, x1_change, x1_coin, x1_knownFree, x1_isKnown) p1 p2) (fun r => True) := by
  unfold fX6_goodsOf
  dsimp only [u11, u4]
  refine Sf.bind (sX1_hasGoods h_x1_lineCount h_x1_goodsCount h_x1_workCount h_x1_years h_x1_lines h_x1_goods h_x1_works h_x1_change h_x1_coin) ?_
  intro v1 hr1
  have hx_v1 : ((v1 = 1 ∧ 0 ≤ p1 ∧ p1 < x1_goodsCount) ∨ (v1 = 0 ∧ ¬ (0 ≤ p1 ∧ p1 < x1_goodsCount))) := hr1
  refine Sf.ite (fun hc2 => ?_) (fun hc2 => ?_)
  · refine Sf.bind (sX6_refuse ) ?_
    rintro ⟨v3, g4⟩ hr3
    dsimp only [u2]
    exact Sf.ok trivial
  · refine Sf.bind (sX6_within ) ?_
    intro v6 hr4
    have hx_v6 : ((v6 = 1 ∧ 0 ≤ p2 ∧ p2 ≤ 2) ∨ (v6 = 0 ∧ (p2 < 0 ∨ 2 < p2))) := hr4
    refine Sf.ite (fun hc5 => ?_) (fun hc5 => ?_)
    · refine Sf.bind (sX6_refuse ) ?_
      rintro ⟨v10, g11⟩ hr6
      dsimp only [u2]
      exact Sf.ok trivial
    · refine Sf.bind (sX1_ofGoods h_x1_goods (by grind) (by grind)) ?_
      intro v8 hr7
      exact Sf.ok trivial
set_option maxHeartbeats 1000000 in
theorem sX6_workOf {x0_refused : (Nat → Int32)} {x0_isKept x0_gone x0_spent x1_lineCount x1_goodsCount x1_workCount x1_years : Int32} {x1_lines x1_goods x1_works x1_change x1_coin x1_knownFree : (Nat → Int32)} {x1_isKnown p1 p2 : Int32}  (h_x1_lineCount : (0 ≤ x1_lineCount ∧ x1_lineCount ≤ 20)) (h_x1_goodsCount : (0 ≤ x1_goodsCount ∧ x1_goodsCount ≤ 8)) (h_x1_workCount : (0 ≤ x1_workCount ∧ x1_workCount ≤ 7)) (h_x1_years : (1 ≤ x1_years ∧ x1_years ≤ 30)) (h_x1_lines : (LnOk x1_lines)) (h_x1_goods : (GdOk x1_goods)) (h_x1_works : (WkOk x1_works)) (h_x1_change : (AI 0 99 x1_change)) (h_x1_coin : (AI 0 9 x1_coin)) : Sf (fX6_workOf (x0_refused, x0_isKept, x0_gone, x0_spent) (x1_lineCount, x1_goodsCount, x1_workCount, x1_years, x1_lines, x1_goods, x1_works, x1_change, x1_coin, x1_knownFree, x1_isKnown) p1 p2) (fun r => True) := by
  unfold fX6_workOf
  dsimp only [u11, u4]
  refine Sf.bind (sX1_hasWork h_x1_lineCount h_x1_goodsCount h_x1_workCount h_x1_years h_x1_lines h_x1_goods h_x1_works h_x1_change h_x1_coin) ?_
  intro v1 hr1
  have hx_v1 : ((v1 = 1 ∧ 0 ≤ p1 ∧ p1 < x1_workCount) ∨ (v1 = 0 ∧ ¬ (0 ≤ p1 ∧ p1 < x1_workCount))) := hr1
  refine Sf.ite (fun hc2 => ?_) (fun hc2 => ?_)
  · refine Sf.bind (sX6_refuse ) ?_
    rintro ⟨v3, g4⟩ hr3
    dsimp only [u2]
    exact Sf.ok trivial
  · refine Sf.bind (sX6_within ) ?_
    intro v6 hr4
    have hx_v6 : ((v6 = 1 ∧ 0 ≤ p2 ∧ p2 ≤ 4) ∨ (v6 = 0 ∧ (p2 < 0 ∨ 4 < p2))) := hr4
    refine Sf.ite (fun hc5 => ?_) (fun hc5 => ?_)
    · refine Sf.bind (sX6_refuse ) ?_
      rintro ⟨v10, g11⟩ hr6
      dsimp only [u2]
      exact Sf.ok trivial
    · refine Sf.bind (sX1_ofWork h_x1_works (by grind) (by grind)) ?_
      intro v8 hr7
      exact Sf.ok trivial
set_option maxHeartbeats 1000000 in
theorem sX6_cheapest {n : Nat} {x0_refused : (Nat → Int32)} {x0_isKept x0_gone x0_spent x1_lineCount x1_goodsCount x1_workCount x1_years : Int32} {x1_lines x1_goods x1_works x1_change x1_coin x1_knownFree : (Nat → Int32)} {x1_isKnown : Int32} {x2_left x2_earned : (Nat → Int32)} {x2_turnCost x2_turnWayless : Int32} {x3_edgeA x3_edgeB x3_edgeCost x3_edgeLine x3_change x3_away x3_steps x3_nodes : (Nat → Int32)} {x3_stepCount : Int32} {x3_open : (Nat → Int32)} {x3_openCount : Int32} {x3_seen : Int64} {x3_edgeCount x3_aim p1 p2 : Int32} (hn : 1000000000000 ≤ n) (h_x1_lineCount : (0 ≤ x1_lineCount ∧ x1_lineCount ≤ 20)) (h_x1_goodsCount : (0 ≤ x1_goodsCount ∧ x1_goodsCount ≤ 8)) (h_x1_workCount : (0 ≤ x1_workCount ∧ x1_workCount ≤ 7)) (h_x1_years : (1 ≤ x1_years ∧ x1_years ≤ 30)) (h_x1_lines : (LnOk x1_lines)) (h_x1_goods : (GdOk x1_goods)) (h_x1_works : (WkOk x1_works)) (h_x1_change : (AI 0 99 x1_change)) (h_x1_coin : (AI 0 9 x1_coin)) (h_x3_edgeA : (AI 0 35 x3_edgeA)) (h_x3_edgeB : (AI 0 35 x3_edgeB)) (h_x3_edgeLine : (AI 0 19 x3_edgeLine)) (h_x3_steps : (AI 0 22 x3_steps)) (h_x3_nodes : (AI 0 35 x3_nodes)) (h_x3_stepCount : (0 ≤ x3_stepCount ∧ x3_stepCount ≤ 36)) (h_x3_open : (AI 0 35 x3_open)) (h_x3_openCount : (0 ≤ x3_openCount ∧ x3_openCount ≤ 36)) (h_x3_edgeCount : (0 ≤ x3_edgeCount ∧ x3_edgeCount ≤ 60)) : Sf (fX6_cheapest n (x0_refused, x0_isKept, x0_gone, x0_spent) (x1_lineCount, x1_goodsCount, x1_workCount, x1_years, x1_lines, x1_goods, x1_works, x1_change, x1_coin, x1_knownFree, x1_isKnown) (x2_left, x2_earned, x2_turnCost, x2_turnWayless) (x3_edgeA, x3_edgeB, x3_edgeCost, x3_edgeLine, x3_change, x3_away, x3_steps, x3_nodes, x3_stepCount, x3_open, x3_openCount, x3_seen, x3_edgeCount, x3_aim) p1 p2) (fun r => (AI 0 35 r.2.2.1) ∧ (AI 0 35 r.2.2.2.1) ∧ (AI 0 19 r.2.2.2.2.2.1) ∧ (0 ≤ r.2.2.2.2.2.2.2.2.1 ∧ r.2.2.2.2.2.2.2.2.1 ≤ 60)) := by
  unfold fX6_cheapest
  dsimp only [u11, u14, u4]
  refine Sf.bind (sX6_isPlace ) ?_
  intro v1 hr1
  have hx_v1 : ((v1 = 1 ∧ 0 ≤ p1 ∧ p1 ≤ 11) ∨ (v1 = 0 ∧ (p1 < 0 ∨ 11 < p1))) := hr1
  refine Sf.ite (fun hc2 => ?_) (fun hc2 => ?_)
  · refine Sf.bind (sX6_refuse ) ?_
    rintro ⟨v3, g4⟩ hr3
    dsimp only [u2]
    exact Sf.ok (show (AI 0 35 x3_edgeA) ∧ (AI 0 35 x3_edgeB) ∧ (AI 0 19 x3_edgeLine) ∧ (0 ≤ x3_edgeCount ∧ x3_edgeCount ≤ 60) from ⟨h_x3_edgeA, h_x3_edgeB, h_x3_edgeLine, h_x3_edgeCount⟩)
  · refine Sf.bind (sX6_isPlace ) ?_
    intro v6 hr4
    have hx_v6 : ((v6 = 1 ∧ 0 ≤ p2 ∧ p2 ≤ 11) ∨ (v6 = 0 ∧ (p2 < 0 ∨ 11 < p2))) := hr4
    refine Sf.ite (fun hc5 => ?_) (fun hc5 => ?_)
    · refine Sf.bind (sX6_refuse ) ?_
      rintro ⟨v22, g23⟩ hr6
      dsimp only [u2]
      exact Sf.ok (show (AI 0 35 x3_edgeA) ∧ (AI 0 35 x3_edgeB) ∧ (AI 0 19 x3_edgeLine) ∧ (0 ≤ x3_edgeCount ∧ x3_edgeCount ≤ 60) from ⟨h_x3_edgeA, h_x3_edgeB, h_x3_edgeLine, h_x3_edgeCount⟩)
    · refine Sf.ite (fun hc7 => ?_) (fun hc7 => ?_)
      · exact Sf.ok (show (AI 0 35 x3_edgeA) ∧ (AI 0 35 x3_edgeB) ∧ (AI 0 19 x3_edgeLine) ∧ (0 ≤ x3_edgeCount ∧ x3_edgeCount ≤ 60) from ⟨h_x3_edgeA, h_x3_edgeB, h_x3_edgeLine, h_x3_edgeCount⟩)
      · refine Sf.bind (sX4_costBetween hn h_x3_edgeA h_x3_edgeB h_x3_edgeLine h_x3_steps h_x3_nodes h_x3_stepCount h_x3_open h_x3_openCount h_x3_edgeCount h_x1_lineCount h_x1_goodsCount h_x1_workCount h_x1_years h_x1_lines h_x1_goods h_x1_works h_x1_change h_x1_coin (by grind) (by grind)) ?_
        rintro ⟨v8, ⟨g10, g11, g12, g13, g14, g15, g16, g17⟩⟩ hr8
        obtain ⟨h_g10, h_g11, h_g13, h_g16⟩ : (AI 0 35 g10) ∧ (AI 0 35 g11) ∧ (AI 0 19 g13) ∧ (0 ≤ g16 ∧ g16 ≤ 60) := hr8
        dsimp only [u2, u8]
        refine Sf.ite (fun hc9 => ?_) (fun hc9 => ?_)
        · refine Sf.bind (sX6_refuse ) ?_
          rintro ⟨v19, g20⟩ hr10
          dsimp only [u2]
          exact Sf.ok (show (AI 0 35 g10) ∧ (AI 0 35 g11) ∧ (AI 0 19 g13) ∧ (0 ≤ g16 ∧ g16 ≤ 60) from ⟨h_g10, h_g11, h_g13, h_g16⟩)
        · exact Sf.ok (show (AI 0 35 g10) ∧ (AI 0 35 g11) ∧ (AI 0 19 g13) ∧ (0 ≤ g16 ∧ g16 ≤ 60) from ⟨h_g10, h_g11, h_g13, h_g16⟩)
set_option maxHeartbeats 1000000 in
theorem sX6_way {n : Nat} {x0_refused : (Nat → Int32)} {x0_isKept x0_gone x0_spent x1_lineCount x1_goodsCount x1_workCount x1_years : Int32} {x1_lines x1_goods x1_works x1_change x1_coin x1_knownFree : (Nat → Int32)} {x1_isKnown : Int32} {x2_left x2_earned : (Nat → Int32)} {x2_turnCost x2_turnWayless : Int32} {x3_edgeA x3_edgeB x3_edgeCost x3_edgeLine x3_change x3_away x3_steps x3_nodes : (Nat → Int32)} {x3_stepCount : Int32} {x3_open : (Nat → Int32)} {x3_openCount : Int32} {x3_seen : Int64} {x3_edgeCount x3_aim p1 p2 : Int32} (hn : 1000000000000 ≤ n) (h_x1_lineCount : (0 ≤ x1_lineCount ∧ x1_lineCount ≤ 20)) (h_x1_goodsCount : (0 ≤ x1_goodsCount ∧ x1_goodsCount ≤ 8)) (h_x1_workCount : (0 ≤ x1_workCount ∧ x1_workCount ≤ 7)) (h_x1_years : (1 ≤ x1_years ∧ x1_years ≤ 30)) (h_x1_lines : (LnOk x1_lines)) (h_x1_goods : (GdOk x1_goods)) (h_x1_works : (WkOk x1_works)) (h_x1_change : (AI 0 99 x1_change)) (h_x1_coin : (AI 0 9 x1_coin)) (h_x3_edgeA : (AI 0 35 x3_edgeA)) (h_x3_edgeB : (AI 0 35 x3_edgeB)) (h_x3_edgeLine : (AI 0 19 x3_edgeLine)) (h_x3_steps : (AI 0 22 x3_steps)) (h_x3_nodes : (AI 0 35 x3_nodes)) (h_x3_stepCount : (0 ≤ x3_stepCount ∧ x3_stepCount ≤ 36)) (h_x3_open : (AI 0 35 x3_open)) (h_x3_openCount : (0 ≤ x3_openCount ∧ x3_openCount ≤ 36)) (h_x3_edgeCount : (0 ≤ x3_edgeCount ∧ x3_edgeCount ≤ 60)) : Sf (fX6_way n (x0_refused, x0_isKept, x0_gone, x0_spent) (x1_lineCount, x1_goodsCount, x1_workCount, x1_years, x1_lines, x1_goods, x1_works, x1_change, x1_coin, x1_knownFree, x1_isKnown) (x2_left, x2_earned, x2_turnCost, x2_turnWayless) (x3_edgeA, x3_edgeB, x3_edgeCost, x3_edgeLine, x3_change, x3_away, x3_steps, x3_nodes, x3_stepCount, x3_open, x3_openCount, x3_seen, x3_edgeCount, x3_aim) p1 p2) (fun r => (AI 0 35 r.2.2.1) ∧ (AI 0 35 r.2.2.2.1) ∧ (AI 0 19 r.2.2.2.2.2.1) ∧ (AI 0 22 r.2.2.2.2.2.2.2.2.1) ∧ (AI 0 35 r.2.2.2.2.2.2.2.2.2.1) ∧ (0 ≤ r.2.2.2.2.2.2.2.2.2.2.1 ∧ r.2.2.2.2.2.2.2.2.2.2.1 ≤ 36) ∧ (AI 0 35 r.2.2.2.2.2.2.2.2.2.2.2.1) ∧ (0 ≤ r.2.2.2.2.2.2.2.2.2.2.2.2.1 ∧ r.2.2.2.2.2.2.2.2.2.2.2.2.1 ≤ 36) ∧ (0 ≤ r.2.2.2.2.2.2.2.2.2.2.2.2.2.2.1 ∧ r.2.2.2.2.2.2.2.2.2.2.2.2.2.2.1 ≤ 60)) := by
  unfold fX6_way
  dsimp only [u11, u14, u4]
  refine Sf.bind (sX6_within ) ?_
  intro v1 hr1
  have hx_v1 : ((v1 = 1 ∧ 10 ≤ p2 ∧ p2 ≤ 46) ∨ (v1 = 0 ∧ (p2 < 10 ∨ 46 < p2))) := hr1
  refine Sf.bind (sX1_hasGoods h_x1_lineCount h_x1_goodsCount h_x1_workCount h_x1_years h_x1_lines h_x1_goods h_x1_works h_x1_change h_x1_coin) ?_
  intro v3 hr2
  have hx_v3 : ((v3 = 1 ∧ 0 ≤ p1 ∧ p1 < x1_goodsCount) ∨ (v3 = 0 ∧ ¬ (0 ≤ p1 ∧ p1 < x1_goodsCount))) := hr2
  refine Sf.ite (fun hc3 => ?_) (fun hc3 => ?_)
  · refine Sf.bind (sX6_refuse ) ?_
    rintro ⟨v5, g6⟩ hr4
    dsimp only [u2]
    exact Sf.ok (show (AI 0 35 x3_edgeA) ∧ (AI 0 35 x3_edgeB) ∧ (AI 0 19 x3_edgeLine) ∧ (AI 0 22 x3_steps) ∧ (AI 0 35 x3_nodes) ∧ (0 ≤ x3_stepCount ∧ x3_stepCount ≤ 36) ∧ (AI 0 35 x3_open) ∧ (0 ≤ x3_openCount ∧ x3_openCount ≤ 36) ∧ (0 ≤ x3_edgeCount ∧ x3_edgeCount ≤ 60) from ⟨h_x3_edgeA, h_x3_edgeB, h_x3_edgeLine, h_x3_steps, h_x3_nodes, h_x3_stepCount, h_x3_open, h_x3_openCount, h_x3_edgeCount⟩)
  · refine Sf.bind (sX6_within ) ?_
    intro v8 hr5
    have hx_v8 : ((v8 = 1 ∧ 0 ≤ p2 ∧ p2 ≤ 3) ∨ (v8 = 0 ∧ (p2 < 0 ∨ 3 < p2))) := hr5
    refine Sf.ite (fun hc6 => ?_) (fun hc6 => ?_)
    · refine Sf.ite (fun hc7 => ?_) (fun hc7 => ?_)
      · refine Sf.bind (sX6_refuse ) ?_
        rintro ⟨v52, g53⟩ hr8
        dsimp only [u2]
        exact Sf.ok (show (AI 0 35 x3_edgeA) ∧ (AI 0 35 x3_edgeB) ∧ (AI 0 19 x3_edgeLine) ∧ (AI 0 22 x3_steps) ∧ (AI 0 35 x3_nodes) ∧ (0 ≤ x3_stepCount ∧ x3_stepCount ≤ 36) ∧ (AI 0 35 x3_open) ∧ (0 ≤ x3_openCount ∧ x3_openCount ≤ 36) ∧ (0 ≤ x3_edgeCount ∧ x3_edgeCount ≤ 60) from ⟨h_x3_edgeA, h_x3_edgeB, h_x3_edgeLine, h_x3_steps, h_x3_nodes, h_x3_stepCount, h_x3_open, h_x3_openCount, h_x3_edgeCount⟩)
      · unfold fX6_way_j40
        refine Sf.bind (sX1_linesThere hn h_x1_lineCount h_x1_goodsCount h_x1_workCount h_x1_years h_x1_lines h_x1_goods h_x1_works h_x1_change h_x1_coin) ?_
        intro v10 hr9
        refine Sf.bind (sX5_prepare hn h_x3_edgeA h_x3_edgeB h_x3_edgeLine h_x3_steps h_x3_nodes h_x3_stepCount h_x3_open h_x3_openCount h_x3_edgeCount h_x1_lineCount h_x1_goodsCount h_x1_workCount h_x1_years h_x1_lines h_x1_goods h_x1_works h_x1_change h_x1_coin) ?_
        rintro ⟨g13, g14, g15, g16, g17, g18, g19⟩ hr10
        obtain ⟨h_g13, h_g14, h_g16, h_g18⟩ : (AI 0 35 g13) ∧ (AI 0 35 g14) ∧ (AI 0 19 g16) ∧ (0 ≤ g18 ∧ g18 ≤ 60) := hr10
        dsimp only [u7]
        refine Sf.bind (s_ofGoods h_x1_goods (by grind) (by decide)) ?_
        intro v21 hr11
        obtain ⟨h_v21, e_v21⟩ : (0 ≤ v21 ∧ v21 ≤ 11) ∧ v21 = x1_goods (p1.toNatClampNeg * 3 + 0) := hr11
        clear e_v21
        refine Sf.bind (s_ofGoods h_x1_goods (by grind) (by decide)) ?_
        intro v23 hr12
        obtain ⟨h_v23, e_v23⟩ : (0 ≤ v23 ∧ v23 ≤ 11) ∧ v23 = x1_goods (p1.toNatClampNeg * 3 + 1) := hr12
        clear e_v23
        refine Sf.bind (sX5_trace hn h_g13 h_g14 h_g16 h_x3_steps h_x3_nodes h_x3_stepCount h_x3_open h_x3_openCount h_g18 h_v21 h_v23) ?_
        rintro ⟨v25, ⟨g27, g28, g29, g30, g31, g32, g33, g34⟩⟩ hr13
        obtain ⟨h_g28, h_g29, h_g30, h_g31, h_g32⟩ : (AI 0 22 g28) ∧ (AI 0 35 g29) ∧ (0 ≤ g30 ∧ g30 ≤ 36) ∧ (AI 0 35 g31) ∧ (0 ≤ g32 ∧ g32 ≤ 36) := hr13
        dsimp only [u2, u8]
        refine Sf.ite (fun hc14 => ?_) (fun hc14 => ?_)
        · refine Sf.bind (sX6_refuse ) ?_
          rintro ⟨v49, g50⟩ hr15
          dsimp only [u2]
          exact Sf.ok (show (AI 0 35 g13) ∧ (AI 0 35 g14) ∧ (AI 0 19 g16) ∧ (AI 0 22 g28) ∧ (AI 0 35 g29) ∧ (0 ≤ g30 ∧ g30 ≤ 36) ∧ (AI 0 35 g31) ∧ (0 ≤ g32 ∧ g32 ≤ 36) ∧ (0 ≤ g18 ∧ g18 ≤ 60) from ⟨h_g13, h_g14, h_g16, h_g28, h_g29, h_g30, h_g31, h_g32, h_g18⟩)
        · refine Sf.ite (fun hc16 => ?_) (fun hc16 => ?_)
          · refine Sf.ite (fun hc17 => ?_) (fun hc17 => ?_)
            · refine Sf.bind (sX5_linesOnWay hn h_g13 h_g14 h_g16 h_g28 h_g29 h_g30 h_g31 h_g32 h_g18) ?_
              intro v36 hr18
              exact Sf.ok (show (AI 0 35 g13) ∧ (AI 0 35 g14) ∧ (AI 0 19 g16) ∧ (AI 0 22 g28) ∧ (AI 0 35 g29) ∧ (0 ≤ g30 ∧ g30 ≤ 36) ∧ (AI 0 35 g31) ∧ (0 ≤ g32 ∧ g32 ≤ 36) ∧ (0 ≤ g18 ∧ g18 ≤ 60) from ⟨h_g13, h_g14, h_g16, h_g28, h_g29, h_g30, h_g31, h_g32, h_g18⟩)
            · refine Sf.ite (fun hc19 => ?_) (fun hc19 => ?_)
              · refine Sf.bind (sX5_changesOnWay hn h_g13 h_g14 h_g16 h_g28 h_g29 h_g30 h_g31 h_g32 h_g18) ?_
                intro v38 hr20
                exact Sf.ok (show (AI 0 35 g13) ∧ (AI 0 35 g14) ∧ (AI 0 19 g16) ∧ (AI 0 22 g28) ∧ (AI 0 35 g29) ∧ (0 ≤ g30 ∧ g30 ≤ 36) ∧ (AI 0 35 g31) ∧ (0 ≤ g32 ∧ g32 ≤ 36) ∧ (0 ≤ g18 ∧ g18 ≤ 60) from ⟨h_g13, h_g14, h_g16, h_g28, h_g29, h_g30, h_g31, h_g32, h_g18⟩)
              · refine Sf.ite (fun hc21 => ?_) (fun hc21 => ?_)
                · refine Sf.bind (sX5_widthAfter h_g13 h_g14 h_g16 h_g28 h_g29 h_g30 h_g31 h_g32 h_g18) ?_
                  intro v40 hr22
                  exact Sf.ok (show (AI 0 35 g13) ∧ (AI 0 35 g14) ∧ (AI 0 19 g16) ∧ (AI 0 22 g28) ∧ (AI 0 35 g29) ∧ (0 ≤ g30 ∧ g30 ≤ 36) ∧ (AI 0 35 g31) ∧ (0 ≤ g32 ∧ g32 ≤ 36) ∧ (0 ≤ g18 ∧ g18 ≤ 60) from ⟨h_g13, h_g14, h_g16, h_g28, h_g29, h_g30, h_g31, h_g32, h_g18⟩)
                · refine Sf.bind (sX5_widthAfter h_g13 h_g14 h_g16 h_g28 h_g29 h_g30 h_g31 h_g32 h_g18) ?_
                  intro v42 hr23
                  exact Sf.ok (show (AI 0 35 g13) ∧ (AI 0 35 g14) ∧ (AI 0 19 g16) ∧ (AI 0 22 g28) ∧ (AI 0 35 g29) ∧ (0 ≤ g30 ∧ g30 ≤ 36) ∧ (AI 0 35 g31) ∧ (0 ≤ g32 ∧ g32 ≤ 36) ∧ (0 ≤ g18 ∧ g18 ≤ 60) from ⟨h_g13, h_g14, h_g16, h_g28, h_g29, h_g30, h_g31, h_g32, h_g18⟩)
          · refine Sf.bind (sX5_lineAt hn h_g13 h_g14 h_g16 h_g28 h_g29 h_g30 h_g31 h_g32 h_g18) ?_
            intro v44 hr24
            refine Sf.ite (fun hc25 => ?_) (fun hc25 => ?_)
            · refine Sf.bind (sX6_refuse ) ?_
              rintro ⟨v46, g47⟩ hr26
              dsimp only [u2]
              exact Sf.ok (show (AI 0 35 g13) ∧ (AI 0 35 g14) ∧ (AI 0 19 g16) ∧ (AI 0 22 g28) ∧ (AI 0 35 g29) ∧ (0 ≤ g30 ∧ g30 ≤ 36) ∧ (AI 0 35 g31) ∧ (0 ≤ g32 ∧ g32 ≤ 36) ∧ (0 ≤ g18 ∧ g18 ≤ 60) from ⟨h_g13, h_g14, h_g16, h_g28, h_g29, h_g30, h_g31, h_g32, h_g18⟩)
            · exact Sf.ok (show (AI 0 35 g13) ∧ (AI 0 35 g14) ∧ (AI 0 19 g16) ∧ (AI 0 22 g28) ∧ (AI 0 35 g29) ∧ (0 ≤ g30 ∧ g30 ≤ 36) ∧ (AI 0 35 g31) ∧ (0 ≤ g32 ∧ g32 ≤ 36) ∧ (0 ≤ g18 ∧ g18 ≤ 60) from ⟨h_g13, h_g14, h_g16, h_g28, h_g29, h_g30, h_g31, h_g32, h_g18⟩)
    · unfold fX6_way_j40
      refine Sf.bind (sX1_linesThere hn h_x1_lineCount h_x1_goodsCount h_x1_workCount h_x1_years h_x1_lines h_x1_goods h_x1_works h_x1_change h_x1_coin) ?_
      intro v10 hr27
      refine Sf.bind (sX5_prepare hn h_x3_edgeA h_x3_edgeB h_x3_edgeLine h_x3_steps h_x3_nodes h_x3_stepCount h_x3_open h_x3_openCount h_x3_edgeCount h_x1_lineCount h_x1_goodsCount h_x1_workCount h_x1_years h_x1_lines h_x1_goods h_x1_works h_x1_change h_x1_coin) ?_
      rintro ⟨g13, g14, g15, g16, g17, g18, g19⟩ hr28
      obtain ⟨h_g13, h_g14, h_g16, h_g18⟩ : (AI 0 35 g13) ∧ (AI 0 35 g14) ∧ (AI 0 19 g16) ∧ (0 ≤ g18 ∧ g18 ≤ 60) := hr28
      dsimp only [u7]
      refine Sf.bind (s_ofGoods h_x1_goods (by grind) (by decide)) ?_
      intro v21 hr29
      obtain ⟨h_v21, e_v21⟩ : (0 ≤ v21 ∧ v21 ≤ 11) ∧ v21 = x1_goods (p1.toNatClampNeg * 3 + 0) := hr29
      clear e_v21
      refine Sf.bind (s_ofGoods h_x1_goods (by grind) (by decide)) ?_
      intro v23 hr30
      obtain ⟨h_v23, e_v23⟩ : (0 ≤ v23 ∧ v23 ≤ 11) ∧ v23 = x1_goods (p1.toNatClampNeg * 3 + 1) := hr30
      clear e_v23
      refine Sf.bind (sX5_trace hn h_g13 h_g14 h_g16 h_x3_steps h_x3_nodes h_x3_stepCount h_x3_open h_x3_openCount h_g18 h_v21 h_v23) ?_
      rintro ⟨v25, ⟨g27, g28, g29, g30, g31, g32, g33, g34⟩⟩ hr31
      obtain ⟨h_g28, h_g29, h_g30, h_g31, h_g32⟩ : (AI 0 22 g28) ∧ (AI 0 35 g29) ∧ (0 ≤ g30 ∧ g30 ≤ 36) ∧ (AI 0 35 g31) ∧ (0 ≤ g32 ∧ g32 ≤ 36) := hr31
      dsimp only [u2, u8]
      refine Sf.ite (fun hc32 => ?_) (fun hc32 => ?_)
      · refine Sf.bind (sX6_refuse ) ?_
        rintro ⟨v49, g50⟩ hr33
        dsimp only [u2]
        exact Sf.ok (show (AI 0 35 g13) ∧ (AI 0 35 g14) ∧ (AI 0 19 g16) ∧ (AI 0 22 g28) ∧ (AI 0 35 g29) ∧ (0 ≤ g30 ∧ g30 ≤ 36) ∧ (AI 0 35 g31) ∧ (0 ≤ g32 ∧ g32 ≤ 36) ∧ (0 ≤ g18 ∧ g18 ≤ 60) from ⟨h_g13, h_g14, h_g16, h_g28, h_g29, h_g30, h_g31, h_g32, h_g18⟩)
      · refine Sf.ite (fun hc34 => ?_) (fun hc34 => ?_)
        · refine Sf.ite (fun hc35 => ?_) (fun hc35 => ?_)
          · refine Sf.bind (sX5_linesOnWay hn h_g13 h_g14 h_g16 h_g28 h_g29 h_g30 h_g31 h_g32 h_g18) ?_
            intro v36 hr36
            exact Sf.ok (show (AI 0 35 g13) ∧ (AI 0 35 g14) ∧ (AI 0 19 g16) ∧ (AI 0 22 g28) ∧ (AI 0 35 g29) ∧ (0 ≤ g30 ∧ g30 ≤ 36) ∧ (AI 0 35 g31) ∧ (0 ≤ g32 ∧ g32 ≤ 36) ∧ (0 ≤ g18 ∧ g18 ≤ 60) from ⟨h_g13, h_g14, h_g16, h_g28, h_g29, h_g30, h_g31, h_g32, h_g18⟩)
          · refine Sf.ite (fun hc37 => ?_) (fun hc37 => ?_)
            · refine Sf.bind (sX5_changesOnWay hn h_g13 h_g14 h_g16 h_g28 h_g29 h_g30 h_g31 h_g32 h_g18) ?_
              intro v38 hr38
              exact Sf.ok (show (AI 0 35 g13) ∧ (AI 0 35 g14) ∧ (AI 0 19 g16) ∧ (AI 0 22 g28) ∧ (AI 0 35 g29) ∧ (0 ≤ g30 ∧ g30 ≤ 36) ∧ (AI 0 35 g31) ∧ (0 ≤ g32 ∧ g32 ≤ 36) ∧ (0 ≤ g18 ∧ g18 ≤ 60) from ⟨h_g13, h_g14, h_g16, h_g28, h_g29, h_g30, h_g31, h_g32, h_g18⟩)
            · refine Sf.ite (fun hc39 => ?_) (fun hc39 => ?_)
              · refine Sf.bind (sX5_widthAfter h_g13 h_g14 h_g16 h_g28 h_g29 h_g30 h_g31 h_g32 h_g18) ?_
                intro v40 hr40
                exact Sf.ok (show (AI 0 35 g13) ∧ (AI 0 35 g14) ∧ (AI 0 19 g16) ∧ (AI 0 22 g28) ∧ (AI 0 35 g29) ∧ (0 ≤ g30 ∧ g30 ≤ 36) ∧ (AI 0 35 g31) ∧ (0 ≤ g32 ∧ g32 ≤ 36) ∧ (0 ≤ g18 ∧ g18 ≤ 60) from ⟨h_g13, h_g14, h_g16, h_g28, h_g29, h_g30, h_g31, h_g32, h_g18⟩)
              · refine Sf.bind (sX5_widthAfter h_g13 h_g14 h_g16 h_g28 h_g29 h_g30 h_g31 h_g32 h_g18) ?_
                intro v42 hr41
                exact Sf.ok (show (AI 0 35 g13) ∧ (AI 0 35 g14) ∧ (AI 0 19 g16) ∧ (AI 0 22 g28) ∧ (AI 0 35 g29) ∧ (0 ≤ g30 ∧ g30 ≤ 36) ∧ (AI 0 35 g31) ∧ (0 ≤ g32 ∧ g32 ≤ 36) ∧ (0 ≤ g18 ∧ g18 ≤ 60) from ⟨h_g13, h_g14, h_g16, h_g28, h_g29, h_g30, h_g31, h_g32, h_g18⟩)
        · refine Sf.bind (sX5_lineAt hn h_g13 h_g14 h_g16 h_g28 h_g29 h_g30 h_g31 h_g32 h_g18) ?_
          intro v44 hr42
          refine Sf.ite (fun hc43 => ?_) (fun hc43 => ?_)
          · refine Sf.bind (sX6_refuse ) ?_
            rintro ⟨v46, g47⟩ hr44
            dsimp only [u2]
            exact Sf.ok (show (AI 0 35 g13) ∧ (AI 0 35 g14) ∧ (AI 0 19 g16) ∧ (AI 0 22 g28) ∧ (AI 0 35 g29) ∧ (0 ≤ g30 ∧ g30 ≤ 36) ∧ (AI 0 35 g31) ∧ (0 ≤ g32 ∧ g32 ≤ 36) ∧ (0 ≤ g18 ∧ g18 ≤ 60) from ⟨h_g13, h_g14, h_g16, h_g28, h_g29, h_g30, h_g31, h_g32, h_g18⟩)
          · exact Sf.ok (show (AI 0 35 g13) ∧ (AI 0 35 g14) ∧ (AI 0 19 g16) ∧ (AI 0 22 g28) ∧ (AI 0 35 g29) ∧ (0 ≤ g30 ∧ g30 ≤ 36) ∧ (AI 0 35 g31) ∧ (0 ≤ g32 ∧ g32 ≤ 36) ∧ (0 ≤ g18 ∧ g18 ≤ 60) from ⟨h_g13, h_g14, h_g16, h_g28, h_g29, h_g30, h_g31, h_g32, h_g18⟩)
set_option maxHeartbeats 1000000 in
theorem sX6_free {n : Nat} {x0_refused : (Nat → Int32)} {x0_isKept x0_gone x0_spent : Int32} {x1_gained : (Nat → Int32)} {x2_lineCount x2_goodsCount x2_workCount x2_years : Int32} {x2_lines x2_goods x2_works x2_change x2_coin x2_knownFree : (Nat → Int32)} {x2_isKnown x3_lineCount x3_goodsCount x3_workCount x3_years : Int32} {x3_lines x3_goods x3_works x3_change x3_coin x3_knownFree : (Nat → Int32)} {x3_isKnown : Int32} {x4_left x4_earned : (Nat → Int32)} {x4_turnCost x4_turnWayless : Int32} {x5_edgeA x5_edgeB x5_edgeCost x5_edgeLine x5_change x5_away x5_steps x5_nodes : (Nat → Int32)} {x5_stepCount : Int32} {x5_open : (Nat → Int32)} {x5_openCount : Int32} {x5_seen : Int64} {x5_edgeCount x5_aim : Int32} (hn : 1000000000000 ≤ n) (h_x2_lineCount : (0 ≤ x2_lineCount ∧ x2_lineCount ≤ 20)) (h_x2_goodsCount : (0 ≤ x2_goodsCount ∧ x2_goodsCount ≤ 8)) (h_x2_workCount : (0 ≤ x2_workCount ∧ x2_workCount ≤ 7)) (h_x2_years : (1 ≤ x2_years ∧ x2_years ≤ 30)) (h_x2_lines : (LnOk x2_lines)) (h_x2_goods : (GdOk x2_goods)) (h_x2_works : (WkOk x2_works)) (h_x2_change : (AI 0 99 x2_change)) (h_x2_coin : (AI 0 9 x2_coin)) (h_x3_lineCount : (0 ≤ x3_lineCount ∧ x3_lineCount ≤ 20)) (h_x3_goodsCount : (0 ≤ x3_goodsCount ∧ x3_goodsCount ≤ 8)) (h_x3_workCount : (0 ≤ x3_workCount ∧ x3_workCount ≤ 7)) (h_x3_years : (1 ≤ x3_years ∧ x3_years ≤ 30)) (h_x3_lines : (LnOk x3_lines)) (h_x3_goods : (GdOk x3_goods)) (h_x3_works : (WkOk x3_works)) (h_x3_change : (AI 0 99 x3_change)) (h_x3_coin : (AI 0 9 x3_coin)) (h_x5_edgeA : (AI 0 35 x5_edgeA)) (h_x5_edgeB : (AI 0 35 x5_edgeB)) (h_x5_edgeLine : (AI 0 19 x5_edgeLine)) (h_x5_steps : (AI 0 22 x5_steps)) (h_x5_nodes : (AI 0 35 x5_nodes)) (h_x5_stepCount : (0 ≤ x5_stepCount ∧ x5_stepCount ≤ 36)) (h_x5_open : (AI 0 35 x5_open)) (h_x5_openCount : (0 ≤ x5_openCount ∧ x5_openCount ≤ 36)) (h_x5_edgeCount : (0 ≤ x5_edgeCount ∧ x5_edgeCount ≤ 60)) : Sf (fX6_free n (x0_refused, x0_isKept, x0_gone, x0_spent) x1_gained (x2_lineCount, x2_goodsCount, x2_workCount, x2_years, x2_lines, x2_goods, x2_works, x2_change, x2_coin, x2_knownFree, x2_isKnown) (x3_lineCount, x3_goodsCount, x3_workCount, x3_years, x3_lines, x3_goods, x3_works, x3_change, x3_coin, x3_knownFree, x3_isKnown) (x4_left, x4_earned, x4_turnCost, x4_turnWayless) (x5_edgeA, x5_edgeB, x5_edgeCost, x5_edgeLine, x5_change, x5_away, x5_steps, x5_nodes, x5_stepCount, x5_open, x5_openCount, x5_seen, x5_edgeCount, x5_aim)) (fun r => (0 ≤ r.2.1.1 ∧ r.2.1.1 ≤ 20) ∧ (0 ≤ r.2.1.2.1 ∧ r.2.1.2.1 ≤ 8) ∧ (0 ≤ r.2.1.2.2.1 ∧ r.2.1.2.2.1 ≤ 7) ∧ (1 ≤ r.2.1.2.2.2.1 ∧ r.2.1.2.2.2.1 ≤ 30) ∧ (LnOk r.2.1.2.2.2.2.1) ∧ (GdOk r.2.1.2.2.2.2.2.1) ∧ (WkOk r.2.1.2.2.2.2.2.2.1) ∧ (AI 0 99 r.2.1.2.2.2.2.2.2.2.1) ∧ (AI 0 9 r.2.1.2.2.2.2.2.2.2.2.1) ∧ (0 ≤ r.2.2.1.1 ∧ r.2.2.1.1 ≤ 20) ∧ (LnOk r.2.2.1.2.1) ∧ (AI 0 99 r.2.2.1.2.2.1) ∧ (AI 0 35 r.2.2.2.1) ∧ (AI 0 35 r.2.2.2.2.1) ∧ (AI 0 19 r.2.2.2.2.2.2.1) ∧ (0 ≤ r.2.2.2.2.2.2.2.2.2.1 ∧ r.2.2.2.2.2.2.2.2.2.1 ≤ 60)) := by
  unfold fX6_free
  dsimp only [u11, u14, u4]
  refine Sf.bind (sX0_freeWith hn h_x5_edgeA h_x5_edgeB h_x5_edgeLine h_x5_steps h_x5_nodes h_x5_stepCount h_x5_open h_x5_openCount h_x5_edgeCount h_x2_lineCount h_x2_goodsCount h_x2_workCount h_x2_years h_x2_lines h_x2_goods h_x2_works h_x2_change h_x2_coin h_x3_lineCount h_x3_goodsCount h_x3_workCount h_x3_years h_x3_lines h_x3_goods h_x3_works h_x3_change h_x3_coin) ?_
  rintro ⟨v1, ⟨g3, g4, g5, g6, g7, g8, g9, g10⟩, ⟨g12, g13, g14, g15, g16, g17, g18, g19, g20, g21⟩, ⟨g23, g24, g25, g26, g27⟩⟩ hr1
  obtain ⟨h_g3, h_g4, h_g6, h_g9, h_g12, h_g13, h_g14, h_g15, h_g16, h_g17, h_g18, h_g19, h_g20, h_g23, h_g24, h_g25⟩ : (AI 0 35 g3) ∧ (AI 0 35 g4) ∧ (AI 0 19 g6) ∧ (0 ≤ g9 ∧ g9 ≤ 60) ∧ (0 ≤ g12 ∧ g12 ≤ 20) ∧ (0 ≤ g13 ∧ g13 ≤ 8) ∧ (0 ≤ g14 ∧ g14 ≤ 7) ∧ (1 ≤ g15 ∧ g15 ≤ 30) ∧ (LnOk g16) ∧ (GdOk g17) ∧ (WkOk g18) ∧ (AI 0 99 g19) ∧ (AI 0 9 g20) ∧ (0 ≤ g23 ∧ g23 ≤ 20) ∧ (LnOk g24) ∧ (AI 0 99 g25) := hr1
  dsimp only [u10, u4, u5, u8]
  exact Sf.ok (show (0 ≤ g12 ∧ g12 ≤ 20) ∧ (0 ≤ g13 ∧ g13 ≤ 8) ∧ (0 ≤ g14 ∧ g14 ≤ 7) ∧ (1 ≤ g15 ∧ g15 ≤ 30) ∧ (LnOk g16) ∧ (GdOk g17) ∧ (WkOk g18) ∧ (AI 0 99 g19) ∧ (AI 0 9 g20) ∧ (0 ≤ g23 ∧ g23 ≤ 20) ∧ (LnOk g24) ∧ (AI 0 99 g25) ∧ (AI 0 35 g3) ∧ (AI 0 35 g4) ∧ (AI 0 19 g6) ∧ (0 ≤ g9 ∧ g9 ≤ 60) from ⟨h_g12, h_g13, h_g14, h_g15, h_g16, h_g17, h_g18, h_g19, h_g20, h_g23, h_g24, h_g25, h_g3, h_g4, h_g6, h_g9⟩)
set_option maxHeartbeats 1000000 in
theorem sX6_turn {n : Nat} {x0_refused : (Nat → Int32)} {x0_isKept x0_gone x0_spent x1_lineCount x1_goodsCount x1_workCount x1_years : Int32} {x1_lines x1_goods x1_works x1_change x1_coin x1_knownFree : (Nat → Int32)} {x1_isKnown : Int32} {x2_left x2_earned : (Nat → Int32)} {x2_turnCost x2_turnWayless : Int32} {x3_edgeA x3_edgeB x3_edgeCost x3_edgeLine x3_change x3_away x3_steps x3_nodes : (Nat → Int32)} {x3_stepCount : Int32} {x3_open : (Nat → Int32)} {x3_openCount : Int32} {x3_seen : Int64} {x3_edgeCount x3_aim p1 : Int32} (hn : 1000000000000 ≤ n) (h_x1_lineCount : (0 ≤ x1_lineCount ∧ x1_lineCount ≤ 20)) (h_x1_goodsCount : (0 ≤ x1_goodsCount ∧ x1_goodsCount ≤ 8)) (h_x1_workCount : (0 ≤ x1_workCount ∧ x1_workCount ≤ 7)) (h_x1_years : (1 ≤ x1_years ∧ x1_years ≤ 30)) (h_x1_lines : (LnOk x1_lines)) (h_x1_goods : (GdOk x1_goods)) (h_x1_works : (WkOk x1_works)) (h_x1_change : (AI 0 99 x1_change)) (h_x1_coin : (AI 0 9 x1_coin)) (h_x3_edgeA : (AI 0 35 x3_edgeA)) (h_x3_edgeB : (AI 0 35 x3_edgeB)) (h_x3_edgeLine : (AI 0 19 x3_edgeLine)) (h_x3_steps : (AI 0 22 x3_steps)) (h_x3_nodes : (AI 0 35 x3_nodes)) (h_x3_stepCount : (0 ≤ x3_stepCount ∧ x3_stepCount ≤ 36)) (h_x3_open : (AI 0 35 x3_open)) (h_x3_openCount : (0 ≤ x3_openCount ∧ x3_openCount ≤ 36)) (h_x3_edgeCount : (0 ≤ x3_edgeCount ∧ x3_edgeCount ≤ 60)) : Sf (fX6_turn n (x0_refused, x0_isKept, x0_gone, x0_spent) (x1_lineCount, x1_goodsCount, x1_workCount, x1_years, x1_lines, x1_goods, x1_works, x1_change, x1_coin, x1_knownFree, x1_isKnown) (x2_left, x2_earned, x2_turnCost, x2_turnWayless) (x3_edgeA, x3_edgeB, x3_edgeCost, x3_edgeLine, x3_change, x3_away, x3_steps, x3_nodes, x3_stepCount, x3_open, x3_openCount, x3_seen, x3_edgeCount, x3_aim) p1) (fun r => (AI 0 35 r.2.2.2.2.2.1) ∧ (AI 0 35 r.2.2.2.2.2.2.1) ∧ (AI 0 19 r.2.2.2.2.2.2.2.2.1) ∧ (AI 0 22 r.2.2.2.2.2.2.2.2.2.2.2.1) ∧ (AI 0 35 r.2.2.2.2.2.2.2.2.2.2.2.2.1) ∧ (0 ≤ r.2.2.2.2.2.2.2.2.2.2.2.2.2.1 ∧ r.2.2.2.2.2.2.2.2.2.2.2.2.2.1 ≤ 36) ∧ (AI 0 35 r.2.2.2.2.2.2.2.2.2.2.2.2.2.2.1) ∧ (0 ≤ r.2.2.2.2.2.2.2.2.2.2.2.2.2.2.2.1 ∧ r.2.2.2.2.2.2.2.2.2.2.2.2.2.2.2.1 ≤ 36) ∧ (0 ≤ r.2.2.2.2.2.2.2.2.2.2.2.2.2.2.2.2.2.1 ∧ r.2.2.2.2.2.2.2.2.2.2.2.2.2.2.2.2.2.1 ≤ 60)) := by
  unfold fX6_turn
  dsimp only [u11, u14, u4]
  refine Sf.bind (sX6_within ) ?_
  intro v1 hr1
  have hx_v1 : ((v1 = 1 ∧ 10 ≤ p1 ∧ p1 ≤ ((10 + x1_lineCount) - 1)) ∨ (v1 = 0 ∧ (p1 < 10 ∨ ((10 + x1_lineCount) - 1) < p1))) := hr1
  refine Sf.bind (sX6_within ) ?_
  intro v3 hr2
  have hx_v3 : ((v3 = 1 ∧ 0 ≤ p1 ∧ p1 ≤ 1) ∨ (v3 = 0 ∧ (p1 < 0 ∨ 1 < p1))) := hr2
  refine Sf.ite (fun hc3 => ?_) (fun hc3 => ?_)
  · refine Sf.ite (fun hc4 => ?_) (fun hc4 => ?_)
    · refine Sf.bind (sX6_refuse ) ?_
      rintro ⟨v25, g26⟩ hr5
      dsimp only [u2]
      exact Sf.ok (show (AI 0 35 x3_edgeA) ∧ (AI 0 35 x3_edgeB) ∧ (AI 0 19 x3_edgeLine) ∧ (AI 0 22 x3_steps) ∧ (AI 0 35 x3_nodes) ∧ (0 ≤ x3_stepCount ∧ x3_stepCount ≤ 36) ∧ (AI 0 35 x3_open) ∧ (0 ≤ x3_openCount ∧ x3_openCount ≤ 36) ∧ (0 ≤ x3_edgeCount ∧ x3_edgeCount ≤ 60) from ⟨h_x3_edgeA, h_x3_edgeB, h_x3_edgeLine, h_x3_steps, h_x3_nodes, h_x3_stepCount, h_x3_open, h_x3_openCount, h_x3_edgeCount⟩)
    · unfold fX6_turn_j39
      refine Sf.bind (sX4_sendInTurn hn h_x3_edgeA h_x3_edgeB h_x3_edgeLine h_x3_steps h_x3_nodes h_x3_stepCount h_x3_open h_x3_openCount h_x3_edgeCount h_x1_lineCount h_x1_goodsCount h_x1_workCount h_x1_years h_x1_lines h_x1_goods h_x1_works h_x1_change h_x1_coin) ?_
      rintro ⟨g5, g6, g7, ⟨g9, g10, g11, g12, g13, g14, g15, g16, g17, g18, g19, g20, g21, g22⟩⟩ hr6
      obtain ⟨h_g9, h_g10, h_g12, h_g15, h_g16, h_g17, h_g18, h_g19, h_g21⟩ : (AI 0 35 g9) ∧ (AI 0 35 g10) ∧ (AI 0 19 g12) ∧ (AI 0 22 g15) ∧ (AI 0 35 g16) ∧ (0 ≤ g17 ∧ g17 ≤ 36) ∧ (AI 0 35 g18) ∧ (0 ≤ g19 ∧ g19 ≤ 36) ∧ (0 ≤ g21 ∧ g21 ≤ 60) := hr6
      dsimp only [u14, u4]
      refine Sf.ite (fun hc7 => ?_) (fun hc7 => ?_)
      · refine Sf.ite (fun hc8 => ?_) (fun hc8 => ?_)
        · exact Sf.ok (show (AI 0 35 g9) ∧ (AI 0 35 g10) ∧ (AI 0 19 g12) ∧ (AI 0 22 g15) ∧ (AI 0 35 g16) ∧ (0 ≤ g17 ∧ g17 ≤ 36) ∧ (AI 0 35 g18) ∧ (0 ≤ g19 ∧ g19 ≤ 36) ∧ (0 ≤ g21 ∧ g21 ≤ 60) from ⟨h_g9, h_g10, h_g12, h_g15, h_g16, h_g17, h_g18, h_g19, h_g21⟩)
        · exact Sf.ok (show (AI 0 35 g9) ∧ (AI 0 35 g10) ∧ (AI 0 19 g12) ∧ (AI 0 22 g15) ∧ (AI 0 35 g16) ∧ (0 ≤ g17 ∧ g17 ≤ 36) ∧ (AI 0 35 g18) ∧ (0 ≤ g19 ∧ g19 ≤ 36) ∧ (0 ≤ g21 ∧ g21 ≤ 60) from ⟨h_g9, h_g10, h_g12, h_g15, h_g16, h_g17, h_g18, h_g19, h_g21⟩)
      · have hq9 : 0 ≤ (p1 - 10) ∧ (p1 - 10) < 20 := ix10 hx_v1 (by assumption) h_x1_lineCount
        refine Sf.rdb 20 rfl hq9 (fun v24 e_v24 => ?_)
        clear e_v24
        exact Sf.ok (show (AI 0 35 g9) ∧ (AI 0 35 g10) ∧ (AI 0 19 g12) ∧ (AI 0 22 g15) ∧ (AI 0 35 g16) ∧ (0 ≤ g17 ∧ g17 ≤ 36) ∧ (AI 0 35 g18) ∧ (0 ≤ g19 ∧ g19 ≤ 36) ∧ (0 ≤ g21 ∧ g21 ≤ 60) from ⟨h_g9, h_g10, h_g12, h_g15, h_g16, h_g17, h_g18, h_g19, h_g21⟩)
  · unfold fX6_turn_j39
    refine Sf.bind (sX4_sendInTurn hn h_x3_edgeA h_x3_edgeB h_x3_edgeLine h_x3_steps h_x3_nodes h_x3_stepCount h_x3_open h_x3_openCount h_x3_edgeCount h_x1_lineCount h_x1_goodsCount h_x1_workCount h_x1_years h_x1_lines h_x1_goods h_x1_works h_x1_change h_x1_coin) ?_
    rintro ⟨g5, g6, g7, ⟨g9, g10, g11, g12, g13, g14, g15, g16, g17, g18, g19, g20, g21, g22⟩⟩ hr10
    obtain ⟨h_g9, h_g10, h_g12, h_g15, h_g16, h_g17, h_g18, h_g19, h_g21⟩ : (AI 0 35 g9) ∧ (AI 0 35 g10) ∧ (AI 0 19 g12) ∧ (AI 0 22 g15) ∧ (AI 0 35 g16) ∧ (0 ≤ g17 ∧ g17 ≤ 36) ∧ (AI 0 35 g18) ∧ (0 ≤ g19 ∧ g19 ≤ 36) ∧ (0 ≤ g21 ∧ g21 ≤ 60) := hr10
    dsimp only [u14, u4]
    refine Sf.ite (fun hc11 => ?_) (fun hc11 => ?_)
    · refine Sf.ite (fun hc12 => ?_) (fun hc12 => ?_)
      · exact Sf.ok (show (AI 0 35 g9) ∧ (AI 0 35 g10) ∧ (AI 0 19 g12) ∧ (AI 0 22 g15) ∧ (AI 0 35 g16) ∧ (0 ≤ g17 ∧ g17 ≤ 36) ∧ (AI 0 35 g18) ∧ (0 ≤ g19 ∧ g19 ≤ 36) ∧ (0 ≤ g21 ∧ g21 ≤ 60) from ⟨h_g9, h_g10, h_g12, h_g15, h_g16, h_g17, h_g18, h_g19, h_g21⟩)
      · exact Sf.ok (show (AI 0 35 g9) ∧ (AI 0 35 g10) ∧ (AI 0 19 g12) ∧ (AI 0 22 g15) ∧ (AI 0 35 g16) ∧ (0 ≤ g17 ∧ g17 ≤ 36) ∧ (AI 0 35 g18) ∧ (0 ≤ g19 ∧ g19 ≤ 36) ∧ (0 ≤ g21 ∧ g21 ≤ 60) from ⟨h_g9, h_g10, h_g12, h_g15, h_g16, h_g17, h_g18, h_g19, h_g21⟩)
    · have hq13 : 0 ≤ (p1 - 10) ∧ (p1 - 10) < 20 := ix10 hx_v1 (by assumption) h_x1_lineCount
      refine Sf.rdb 20 rfl hq13 (fun v24 e_v24 => ?_)
      clear e_v24
      exact Sf.ok (show (AI 0 35 g9) ∧ (AI 0 35 g10) ∧ (AI 0 19 g12) ∧ (AI 0 22 g15) ∧ (AI 0 35 g16) ∧ (0 ≤ g17 ∧ g17 ≤ 36) ∧ (AI 0 35 g18) ∧ (0 ≤ g19 ∧ g19 ≤ 36) ∧ (0 ≤ g21 ∧ g21 ≤ 60) from ⟨h_g9, h_g10, h_g12, h_g15, h_g16, h_g17, h_g18, h_g19, h_g21⟩)
set_option maxHeartbeats 1000000 in
theorem sX6_total {n : Nat} {x0_refused : (Nat → Int32)} {x0_isKept x0_gone x0_spent : Int32} {x1_gained : (Nat → Int32)} {x2_lineCount x2_goodsCount x2_workCount x2_years : Int32} {x2_lines x2_goods x2_works x2_change x2_coin x2_knownFree : (Nat → Int32)} {x2_isKnown x3_lineCount x3_goodsCount x3_workCount x3_years : Int32} {x3_lines x3_goods x3_works x3_change x3_coin x3_knownFree : (Nat → Int32)} {x3_isKnown : Int32} {x4_left x4_earned : (Nat → Int32)} {x4_turnCost x4_turnWayless : Int32} {x5_edgeA x5_edgeB x5_edgeCost x5_edgeLine x5_change x5_away x5_steps x5_nodes : (Nat → Int32)} {x5_stepCount : Int32} {x5_open : (Nat → Int32)} {x5_openCount : Int32} {x5_seen : Int64} {x5_edgeCount x5_aim p1 : Int32} (hn : 1000000000000 ≤ n) (h_x2_lineCount : (0 ≤ x2_lineCount ∧ x2_lineCount ≤ 20)) (h_x2_goodsCount : (0 ≤ x2_goodsCount ∧ x2_goodsCount ≤ 8)) (h_x2_workCount : (0 ≤ x2_workCount ∧ x2_workCount ≤ 7)) (h_x2_years : (1 ≤ x2_years ∧ x2_years ≤ 30)) (h_x2_lines : (LnOk x2_lines)) (h_x2_goods : (GdOk x2_goods)) (h_x2_works : (WkOk x2_works)) (h_x2_change : (AI 0 99 x2_change)) (h_x2_coin : (AI 0 9 x2_coin)) (h_x3_lineCount : (0 ≤ x3_lineCount ∧ x3_lineCount ≤ 20)) (h_x3_goodsCount : (0 ≤ x3_goodsCount ∧ x3_goodsCount ≤ 8)) (h_x3_workCount : (0 ≤ x3_workCount ∧ x3_workCount ≤ 7)) (h_x3_years : (1 ≤ x3_years ∧ x3_years ≤ 30)) (h_x3_lines : (LnOk x3_lines)) (h_x3_goods : (GdOk x3_goods)) (h_x3_works : (WkOk x3_works)) (h_x3_change : (AI 0 99 x3_change)) (h_x3_coin : (AI 0 9 x3_coin)) (h_x5_edgeA : (AI 0 35 x5_edgeA)) (h_x5_edgeB : (AI 0 35 x5_edgeB)) (h_x5_edgeLine : (AI 0 19 x5_edgeLine)) (h_x5_steps : (AI 0 22 x5_steps)) (h_x5_nodes : (AI 0 35 x5_nodes)) (h_x5_stepCount : (0 ≤ x5_stepCount ∧ x5_stepCount ≤ 36)) (h_x5_open : (AI 0 35 x5_open)) (h_x5_openCount : (0 ≤ x5_openCount ∧ x5_openCount ≤ 36)) (h_x5_edgeCount : (0 ≤ x5_edgeCount ∧ x5_edgeCount ≤ 60)) : Sf (fX6_total n (x0_refused, x0_isKept, x0_gone, x0_spent) x1_gained (x2_lineCount, x2_goodsCount, x2_workCount, x2_years, x2_lines, x2_goods, x2_works, x2_change, x2_coin, x2_knownFree, x2_isKnown) (x3_lineCount, x3_goodsCount, x3_workCount, x3_years, x3_lines, x3_goods, x3_works, x3_change, x3_coin, x3_knownFree, x3_isKnown) (x4_left, x4_earned, x4_turnCost, x4_turnWayless) (x5_edgeA, x5_edgeB, x5_edgeCost, x5_edgeLine, x5_change, x5_away, x5_steps, x5_nodes, x5_stepCount, x5_open, x5_openCount, x5_seen, x5_edgeCount, x5_aim) p1) (fun r => (0 ≤ r.2.2.1.1 ∧ r.2.2.1.1 ≤ 20) ∧ (0 ≤ r.2.2.1.2.1 ∧ r.2.2.1.2.1 ≤ 8) ∧ (0 ≤ r.2.2.1.2.2.1 ∧ r.2.2.1.2.2.1 ≤ 7) ∧ (1 ≤ r.2.2.1.2.2.2.1 ∧ r.2.2.1.2.2.2.1 ≤ 30) ∧ (LnOk r.2.2.1.2.2.2.2.1) ∧ (GdOk r.2.2.1.2.2.2.2.2.1) ∧ (WkOk r.2.2.1.2.2.2.2.2.2.1) ∧ (AI 0 99 r.2.2.1.2.2.2.2.2.2.2.1) ∧ (AI 0 9 r.2.2.1.2.2.2.2.2.2.2.2.1) ∧ (0 ≤ r.2.2.2.1.1 ∧ r.2.2.2.1.1 ≤ 20) ∧ (LnOk r.2.2.2.1.2.1) ∧ (AI 0 99 r.2.2.2.1.2.2.1) ∧ (AI 0 35 r.2.2.2.2.1) ∧ (AI 0 35 r.2.2.2.2.2.1) ∧ (AI 0 19 r.2.2.2.2.2.2.2.1) ∧ (0 ≤ r.2.2.2.2.2.2.2.2.2.2.1 ∧ r.2.2.2.2.2.2.2.2.2.2.1 ≤ 60)) := by
  unfold fX6_total
  dsimp only [u11, u14, u4]
  refine Sf.bind (sX6_within ) ?_
  intro v1 hr1
  have hx_v1 : ((v1 = 1 ∧ 0 ≤ p1 ∧ p1 ≤ (((1 : Int32) <<< (x3_workCount &&& 31)) - 1)) ∨ (v1 = 0 ∧ (p1 < 0 ∨ (((1 : Int32) <<< (x3_workCount &&& 31)) - 1) < p1))) := hr1
  refine Sf.ite (fun hc2 => ?_) (fun hc2 => ?_)
  · refine Sf.bind (sX6_refuse ) ?_
    rintro ⟨v31, g32⟩ hr3
    dsimp only [u2]
    exact Sf.ok (show (0 ≤ x2_lineCount ∧ x2_lineCount ≤ 20) ∧ (0 ≤ x2_goodsCount ∧ x2_goodsCount ≤ 8) ∧ (0 ≤ x2_workCount ∧ x2_workCount ≤ 7) ∧ (1 ≤ x2_years ∧ x2_years ≤ 30) ∧ (LnOk x2_lines) ∧ (GdOk x2_goods) ∧ (WkOk x2_works) ∧ (AI 0 99 x2_change) ∧ (AI 0 9 x2_coin) ∧ (0 ≤ x3_lineCount ∧ x3_lineCount ≤ 20) ∧ (LnOk x3_lines) ∧ (AI 0 99 x3_change) ∧ (AI 0 35 x5_edgeA) ∧ (AI 0 35 x5_edgeB) ∧ (AI 0 19 x5_edgeLine) ∧ (0 ≤ x5_edgeCount ∧ x5_edgeCount ≤ 60) from ⟨h_x2_lineCount, h_x2_goodsCount, h_x2_workCount, h_x2_years, h_x2_lines, h_x2_goods, h_x2_works, h_x2_change, h_x2_coin, h_x3_lineCount, h_x3_lines, h_x3_change, h_x5_edgeA, h_x5_edgeB, h_x5_edgeLine, h_x5_edgeCount⟩)
  · refine Sf.bind (sX0_totalOf hn h_x5_edgeA h_x5_edgeB h_x5_edgeLine h_x5_steps h_x5_nodes h_x5_stepCount h_x5_open h_x5_openCount h_x5_edgeCount h_x2_lineCount h_x2_goodsCount h_x2_workCount h_x2_years h_x2_lines h_x2_goods h_x2_works h_x2_change h_x2_coin h_x3_lineCount h_x3_goodsCount h_x3_workCount h_x3_years h_x3_lines h_x3_goods h_x3_works h_x3_change h_x3_coin) ?_
    rintro ⟨v3, ⟨g5, g6, g7, g8, g9, g10, g11, g12⟩, ⟨g14, g15, g16, g17, g18, g19, g20, g21, g22, g23⟩, ⟨g25, g26, g27, g28, g29⟩⟩ hr4
    obtain ⟨h_g5, h_g6, h_g8, h_g11, h_g14, h_g15, h_g16, h_g17, h_g18, h_g19, h_g20, h_g21, h_g22, h_g25, h_g26, h_g27⟩ : (AI 0 35 g5) ∧ (AI 0 35 g6) ∧ (AI 0 19 g8) ∧ (0 ≤ g11 ∧ g11 ≤ 60) ∧ (0 ≤ g14 ∧ g14 ≤ 20) ∧ (0 ≤ g15 ∧ g15 ≤ 8) ∧ (0 ≤ g16 ∧ g16 ≤ 7) ∧ (1 ≤ g17 ∧ g17 ≤ 30) ∧ (LnOk g18) ∧ (GdOk g19) ∧ (WkOk g20) ∧ (AI 0 99 g21) ∧ (AI 0 9 g22) ∧ (0 ≤ g25 ∧ g25 ≤ 20) ∧ (LnOk g26) ∧ (AI 0 99 g27) := hr4
    dsimp only [u10, u4, u5, u8]
    exact Sf.ok (show (0 ≤ g14 ∧ g14 ≤ 20) ∧ (0 ≤ g15 ∧ g15 ≤ 8) ∧ (0 ≤ g16 ∧ g16 ≤ 7) ∧ (1 ≤ g17 ∧ g17 ≤ 30) ∧ (LnOk g18) ∧ (GdOk g19) ∧ (WkOk g20) ∧ (AI 0 99 g21) ∧ (AI 0 9 g22) ∧ (0 ≤ g25 ∧ g25 ≤ 20) ∧ (LnOk g26) ∧ (AI 0 99 g27) ∧ (AI 0 35 g5) ∧ (AI 0 35 g6) ∧ (AI 0 19 g8) ∧ (0 ≤ g11 ∧ g11 ≤ 60) from ⟨h_g14, h_g15, h_g16, h_g17, h_g18, h_g19, h_g20, h_g21, h_g22, h_g25, h_g26, h_g27, h_g5, h_g6, h_g8, h_g11⟩)
set_option maxHeartbeats 1000000 in
theorem sX6_best {n : Nat} {x0_refused : (Nat → Int32)} {x0_isKept x0_gone x0_spent : Int32} {x1_gained : (Nat → Int32)} {x2_lineCount x2_goodsCount x2_workCount x2_years : Int32} {x2_lines x2_goods x2_works x2_change x2_coin x2_knownFree : (Nat → Int32)} {x2_isKnown x3_lineCount x3_goodsCount x3_workCount x3_years : Int32} {x3_lines x3_goods x3_works x3_change x3_coin x3_knownFree : (Nat → Int32)} {x3_isKnown : Int32} {x4_left x4_earned : (Nat → Int32)} {x4_turnCost x4_turnWayless : Int32} {x5_edgeA x5_edgeB x5_edgeCost x5_edgeLine x5_change x5_away x5_steps x5_nodes : (Nat → Int32)} {x5_stepCount : Int32} {x5_open : (Nat → Int32)} {x5_openCount : Int32} {x5_seen : Int64} {x5_edgeCount x5_aim : Int32} (hn : 1000000000000 ≤ n) (h_x2_lineCount : (0 ≤ x2_lineCount ∧ x2_lineCount ≤ 20)) (h_x2_goodsCount : (0 ≤ x2_goodsCount ∧ x2_goodsCount ≤ 8)) (h_x2_workCount : (0 ≤ x2_workCount ∧ x2_workCount ≤ 7)) (h_x2_years : (1 ≤ x2_years ∧ x2_years ≤ 30)) (h_x2_lines : (LnOk x2_lines)) (h_x2_goods : (GdOk x2_goods)) (h_x2_works : (WkOk x2_works)) (h_x2_change : (AI 0 99 x2_change)) (h_x2_coin : (AI 0 9 x2_coin)) (h_x3_lineCount : (0 ≤ x3_lineCount ∧ x3_lineCount ≤ 20)) (h_x3_goodsCount : (0 ≤ x3_goodsCount ∧ x3_goodsCount ≤ 8)) (h_x3_workCount : (0 ≤ x3_workCount ∧ x3_workCount ≤ 7)) (h_x3_years : (1 ≤ x3_years ∧ x3_years ≤ 30)) (h_x3_lines : (LnOk x3_lines)) (h_x3_goods : (GdOk x3_goods)) (h_x3_works : (WkOk x3_works)) (h_x3_change : (AI 0 99 x3_change)) (h_x3_coin : (AI 0 9 x3_coin)) (h_x5_edgeA : (AI 0 35 x5_edgeA)) (h_x5_edgeB : (AI 0 35 x5_edgeB)) (h_x5_edgeLine : (AI 0 19 x5_edgeLine)) (h_x5_steps : (AI 0 22 x5_steps)) (h_x5_nodes : (AI 0 35 x5_nodes)) (h_x5_stepCount : (0 ≤ x5_stepCount ∧ x5_stepCount ≤ 36)) (h_x5_open : (AI 0 35 x5_open)) (h_x5_openCount : (0 ≤ x5_openCount ∧ x5_openCount ≤ 36)) (h_x5_edgeCount : (0 ≤ x5_edgeCount ∧ x5_edgeCount ≤ 60)) : Sf (fX6_best n (x0_refused, x0_isKept, x0_gone, x0_spent) x1_gained (x2_lineCount, x2_goodsCount, x2_workCount, x2_years, x2_lines, x2_goods, x2_works, x2_change, x2_coin, x2_knownFree, x2_isKnown) (x3_lineCount, x3_goodsCount, x3_workCount, x3_years, x3_lines, x3_goods, x3_works, x3_change, x3_coin, x3_knownFree, x3_isKnown) (x4_left, x4_earned, x4_turnCost, x4_turnWayless) (x5_edgeA, x5_edgeB, x5_edgeCost, x5_edgeLine, x5_change, x5_away, x5_steps, x5_nodes, x5_stepCount, x5_open, x5_openCount, x5_seen, x5_edgeCount, x5_aim)) (fun r => (0 ≤ r.2.1.1 ∧ r.2.1.1 ≤ 20) ∧ (0 ≤ r.2.1.2.1 ∧ r.2.1.2.1 ≤ 8) ∧ (0 ≤ r.2.1.2.2.1 ∧ r.2.1.2.2.1 ≤ 7) ∧ (1 ≤ r.2.1.2.2.2.1 ∧ r.2.1.2.2.2.1 ≤ 30) ∧ (LnOk r.2.1.2.2.2.2.1) ∧ (GdOk r.2.1.2.2.2.2.2.1) ∧ (WkOk r.2.1.2.2.2.2.2.2.1) ∧ (AI 0 99 r.2.1.2.2.2.2.2.2.2.1) ∧ (AI 0 9 r.2.1.2.2.2.2.2.2.2.2.1) ∧ (0 ≤ r.2.2.1.1 ∧ r.2.2.1.1 ≤ 20) ∧ (LnOk r.2.2.1.2.1) ∧ (AI 0 99 r.2.2.1.2.2.1) ∧ (AI 0 35 r.2.2.2.1) ∧ (AI 0 35 r.2.2.2.2.1) ∧ (AI 0 19 r.2.2.2.2.2.2.1) ∧ (0 ≤ r.2.2.2.2.2.2.2.2.2.1 ∧ r.2.2.2.2.2.2.2.2.2.1 ≤ 60)) := by
  unfold fX6_best
  dsimp only [u11, u14, u4]
  refine Sf.bind (sX0_bestOf hn h_x5_edgeA h_x5_edgeB h_x5_edgeLine h_x5_steps h_x5_nodes h_x5_stepCount h_x5_open h_x5_openCount h_x5_edgeCount h_x2_lineCount h_x2_goodsCount h_x2_workCount h_x2_years h_x2_lines h_x2_goods h_x2_works h_x2_change h_x2_coin h_x3_lineCount h_x3_goodsCount h_x3_workCount h_x3_years h_x3_lines h_x3_goods h_x3_works h_x3_change h_x3_coin) ?_
  rintro ⟨v1, ⟨g3, g4, g5, g6, g7, g8, g9, g10⟩, ⟨g12, g13, g14, g15, g16, g17, g18, g19, g20, g21⟩, ⟨g23, g24, g25, g26, g27⟩⟩ hr1
  obtain ⟨h_g3, h_g4, h_g6, h_g9, h_g12, h_g13, h_g14, h_g15, h_g16, h_g17, h_g18, h_g19, h_g20, h_g23, h_g24, h_g25⟩ : (AI 0 35 g3) ∧ (AI 0 35 g4) ∧ (AI 0 19 g6) ∧ (0 ≤ g9 ∧ g9 ≤ 60) ∧ (0 ≤ g12 ∧ g12 ≤ 20) ∧ (0 ≤ g13 ∧ g13 ≤ 8) ∧ (0 ≤ g14 ∧ g14 ≤ 7) ∧ (1 ≤ g15 ∧ g15 ≤ 30) ∧ (LnOk g16) ∧ (GdOk g17) ∧ (WkOk g18) ∧ (AI 0 99 g19) ∧ (AI 0 9 g20) ∧ (0 ≤ g23 ∧ g23 ≤ 20) ∧ (LnOk g24) ∧ (AI 0 99 g25) := hr1
  dsimp only [u10, u4, u5, u8]
  exact Sf.ok (show (0 ≤ g12 ∧ g12 ≤ 20) ∧ (0 ≤ g13 ∧ g13 ≤ 8) ∧ (0 ≤ g14 ∧ g14 ≤ 7) ∧ (1 ≤ g15 ∧ g15 ≤ 30) ∧ (LnOk g16) ∧ (GdOk g17) ∧ (WkOk g18) ∧ (AI 0 99 g19) ∧ (AI 0 9 g20) ∧ (0 ≤ g23 ∧ g23 ≤ 20) ∧ (LnOk g24) ∧ (AI 0 99 g25) ∧ (AI 0 35 g3) ∧ (AI 0 35 g4) ∧ (AI 0 19 g6) ∧ (0 ≤ g9 ∧ g9 ≤ 60) from ⟨h_g12, h_g13, h_g14, h_g15, h_g16, h_g17, h_g18, h_g19, h_g20, h_g23, h_g24, h_g25, h_g3, h_g4, h_g6, h_g9⟩)
set_option maxHeartbeats 1000000 in
theorem sX6_noChoice {x0_refused : (Nat → Int32)} {x0_isKept x0_gone x0_spent x1_lineCount x1_goodsCount x1_workCount x1_years : Int32} {x1_lines x1_goods x1_works x1_change x1_coin x1_knownFree : (Nat → Int32)} {x1_isKnown p1 : Int32}  (h_x1_lineCount : (0 ≤ x1_lineCount ∧ x1_lineCount ≤ 20)) (h_x1_goodsCount : (0 ≤ x1_goodsCount ∧ x1_goodsCount ≤ 8)) (h_x1_workCount : (0 ≤ x1_workCount ∧ x1_workCount ≤ 7)) (h_x1_years : (1 ≤ x1_years ∧ x1_years ≤ 30)) (h_x1_lines : (LnOk x1_lines)) (h_x1_goods : (GdOk x1_goods)) (h_x1_works : (WkOk x1_works)) (h_x1_change : (AI 0 99 x1_change)) (h_x1_coin : (AI 0 9 x1_coin)) : Sf (fX6_noChoice (x0_refused, x0_isKept, x0_gone, x0_spent) (x1_lineCount, x1_goodsCount, x1_workCount, x1_years, x1_lines, x1_goods, x1_works, x1_change, x1_coin, x1_knownFree, x1_isKnown) p1) (fun r => (r ≠ 0 ∨ (0 ≤ p1 ∧ p1 < x1_workCount))) := by
  unfold fX6_noChoice
  dsimp only [u11, u4]
  refine Sf.bind (sX1_hasWork h_x1_lineCount h_x1_goodsCount h_x1_workCount h_x1_years h_x1_lines h_x1_goods h_x1_works h_x1_change h_x1_coin) ?_
  intro v1 hr1
  have hx_v1 : ((v1 = 1 ∧ 0 ≤ p1 ∧ p1 < x1_workCount) ∨ (v1 = 0 ∧ ¬ (0 ≤ p1 ∧ p1 < x1_workCount))) := hr1
  refine Sf.ite (fun hc2 => ?_) (fun hc2 => ?_)
  · exact Sf.ok (show ((-2) ≠ 0 ∨ (0 ≤ p1 ∧ p1 < x1_workCount)) from (by grind))
  · refine Sf.bind (sX1_isDone h_x1_lineCount h_x1_goodsCount h_x1_workCount h_x1_years h_x1_lines h_x1_goods h_x1_works h_x1_change h_x1_coin (by grind)) ?_
    intro v3 hr3
    refine Sf.ite (fun hc4 => ?_) (fun hc4 => ?_)
    · exact Sf.ok (show (0 ≠ 0 ∨ (0 ≤ p1 ∧ p1 < x1_workCount)) from (by grind))
    · exact Sf.ok (show ((-5) ≠ 0 ∨ (0 ≤ p1 ∧ p1 < x1_workCount)) from (by grind))
set_option maxHeartbeats 1000000 in
theorem sX6_worth {n : Nat} {x0_refused : (Nat → Int32)} {x0_isKept x0_gone x0_spent : Int32} {x1_gained : (Nat → Int32)} {x2_lineCount x2_goodsCount x2_workCount x2_years : Int32} {x2_lines x2_goods x2_works x2_change x2_coin x2_knownFree : (Nat → Int32)} {x2_isKnown x3_lineCount x3_goodsCount x3_workCount x3_years : Int32} {x3_lines x3_goods x3_works x3_change x3_coin x3_knownFree : (Nat → Int32)} {x3_isKnown : Int32} {x4_left x4_earned : (Nat → Int32)} {x4_turnCost x4_turnWayless : Int32} {x5_edgeA x5_edgeB x5_edgeCost x5_edgeLine x5_change x5_away x5_steps x5_nodes : (Nat → Int32)} {x5_stepCount : Int32} {x5_open : (Nat → Int32)} {x5_openCount : Int32} {x5_seen : Int64} {x5_edgeCount x5_aim p1 : Int32} (hn : 1000000000000 ≤ n) (h_x2_lineCount : (0 ≤ x2_lineCount ∧ x2_lineCount ≤ 20)) (h_x2_goodsCount : (0 ≤ x2_goodsCount ∧ x2_goodsCount ≤ 8)) (h_x2_workCount : (0 ≤ x2_workCount ∧ x2_workCount ≤ 7)) (h_x2_years : (1 ≤ x2_years ∧ x2_years ≤ 30)) (h_x2_lines : (LnOk x2_lines)) (h_x2_goods : (GdOk x2_goods)) (h_x2_works : (WkOk x2_works)) (h_x2_change : (AI 0 99 x2_change)) (h_x2_coin : (AI 0 9 x2_coin)) (h_x3_lineCount : (0 ≤ x3_lineCount ∧ x3_lineCount ≤ 20)) (h_x3_goodsCount : (0 ≤ x3_goodsCount ∧ x3_goodsCount ≤ 8)) (h_x3_workCount : (0 ≤ x3_workCount ∧ x3_workCount ≤ 7)) (h_x3_years : (1 ≤ x3_years ∧ x3_years ≤ 30)) (h_x3_lines : (LnOk x3_lines)) (h_x3_goods : (GdOk x3_goods)) (h_x3_works : (WkOk x3_works)) (h_x3_change : (AI 0 99 x3_change)) (h_x3_coin : (AI 0 9 x3_coin)) (h_x5_edgeA : (AI 0 35 x5_edgeA)) (h_x5_edgeB : (AI 0 35 x5_edgeB)) (h_x5_edgeLine : (AI 0 19 x5_edgeLine)) (h_x5_steps : (AI 0 22 x5_steps)) (h_x5_nodes : (AI 0 35 x5_nodes)) (h_x5_stepCount : (0 ≤ x5_stepCount ∧ x5_stepCount ≤ 36)) (h_x5_open : (AI 0 35 x5_open)) (h_x5_openCount : (0 ≤ x5_openCount ∧ x5_openCount ≤ 36)) (h_x5_edgeCount : (0 ≤ x5_edgeCount ∧ x5_edgeCount ≤ 60)) : Sf (fX6_worth n (x0_refused, x0_isKept, x0_gone, x0_spent) x1_gained (x2_lineCount, x2_goodsCount, x2_workCount, x2_years, x2_lines, x2_goods, x2_works, x2_change, x2_coin, x2_knownFree, x2_isKnown) (x3_lineCount, x3_goodsCount, x3_workCount, x3_years, x3_lines, x3_goods, x3_works, x3_change, x3_coin, x3_knownFree, x3_isKnown) (x4_left, x4_earned, x4_turnCost, x4_turnWayless) (x5_edgeA, x5_edgeB, x5_edgeCost, x5_edgeLine, x5_change, x5_away, x5_steps, x5_nodes, x5_stepCount, x5_open, x5_openCount, x5_seen, x5_edgeCount, x5_aim) p1) (fun r => (0 ≤ r.2.2.1.1 ∧ r.2.2.1.1 ≤ 20) ∧ (0 ≤ r.2.2.1.2.1 ∧ r.2.2.1.2.1 ≤ 8) ∧ (0 ≤ r.2.2.1.2.2.1 ∧ r.2.2.1.2.2.1 ≤ 7) ∧ (1 ≤ r.2.2.1.2.2.2.1 ∧ r.2.2.1.2.2.2.1 ≤ 30) ∧ (LnOk r.2.2.1.2.2.2.2.1) ∧ (GdOk r.2.2.1.2.2.2.2.2.1) ∧ (WkOk r.2.2.1.2.2.2.2.2.2.1) ∧ (AI 0 99 r.2.2.1.2.2.2.2.2.2.2.1) ∧ (AI 0 9 r.2.2.1.2.2.2.2.2.2.2.2.1) ∧ (0 ≤ r.2.2.2.1.1 ∧ r.2.2.2.1.1 ≤ 20) ∧ (LnOk r.2.2.2.1.2.1) ∧ (AI 0 99 r.2.2.2.1.2.2.1) ∧ (AI 0 35 r.2.2.2.2.1) ∧ (AI 0 35 r.2.2.2.2.2.1) ∧ (AI 0 19 r.2.2.2.2.2.2.2.1) ∧ (0 ≤ r.2.2.2.2.2.2.2.2.2.2.1 ∧ r.2.2.2.2.2.2.2.2.2.2.1 ≤ 60)) := by
  unfold fX6_worth
  dsimp only [u11, u14, u4]
  refine Sf.bind (sX6_noChoice h_x3_lineCount h_x3_goodsCount h_x3_workCount h_x3_years h_x3_lines h_x3_goods h_x3_works h_x3_change h_x3_coin) ?_
  intro v1 hr1
  have hx_v1 : (v1 ≠ 0 ∨ (0 ≤ p1 ∧ p1 < x3_workCount)) := hr1
  refine Sf.ite (fun hc2 => ?_) (fun hc2 => ?_)
  · refine Sf.bind (sX0_worthIn hn h_x5_edgeA h_x5_edgeB h_x5_edgeLine h_x5_steps h_x5_nodes h_x5_stepCount h_x5_open h_x5_openCount h_x5_edgeCount h_x2_lineCount h_x2_goodsCount h_x2_workCount h_x2_years h_x2_lines h_x2_goods h_x2_works h_x2_change h_x2_coin h_x3_lineCount h_x3_goodsCount h_x3_workCount h_x3_years h_x3_lines h_x3_goods h_x3_works h_x3_change h_x3_coin (by grind)) ?_
    rintro ⟨v3, ⟨g5, g6, g7, g8, g9, g10, g11, g12⟩, ⟨g14, g15, g16, g17, g18, g19, g20, g21, g22, g23⟩, ⟨g25, g26, g27, g28, g29⟩⟩ hr3
    obtain ⟨h_g5, h_g6, h_g8, h_g11, h_g14, h_g15, h_g16, h_g17, h_g18, h_g19, h_g20, h_g21, h_g22, h_g25, h_g26, h_g27⟩ : (AI 0 35 g5) ∧ (AI 0 35 g6) ∧ (AI 0 19 g8) ∧ (0 ≤ g11 ∧ g11 ≤ 60) ∧ (0 ≤ g14 ∧ g14 ≤ 20) ∧ (0 ≤ g15 ∧ g15 ≤ 8) ∧ (0 ≤ g16 ∧ g16 ≤ 7) ∧ (1 ≤ g17 ∧ g17 ≤ 30) ∧ (LnOk g18) ∧ (GdOk g19) ∧ (WkOk g20) ∧ (AI 0 99 g21) ∧ (AI 0 9 g22) ∧ (0 ≤ g25 ∧ g25 ≤ 20) ∧ (LnOk g26) ∧ (AI 0 99 g27) := hr3
    dsimp only [u10, u4, u5, u8]
    exact Sf.ok (show (0 ≤ g14 ∧ g14 ≤ 20) ∧ (0 ≤ g15 ∧ g15 ≤ 8) ∧ (0 ≤ g16 ∧ g16 ≤ 7) ∧ (1 ≤ g17 ∧ g17 ≤ 30) ∧ (LnOk g18) ∧ (GdOk g19) ∧ (WkOk g20) ∧ (AI 0 99 g21) ∧ (AI 0 9 g22) ∧ (0 ≤ g25 ∧ g25 ≤ 20) ∧ (LnOk g26) ∧ (AI 0 99 g27) ∧ (AI 0 35 g5) ∧ (AI 0 35 g6) ∧ (AI 0 19 g8) ∧ (0 ≤ g11 ∧ g11 ≤ 60) from ⟨h_g14, h_g15, h_g16, h_g17, h_g18, h_g19, h_g20, h_g21, h_g22, h_g25, h_g26, h_g27, h_g5, h_g6, h_g8, h_g11⟩)
  · refine Sf.bind (sX6_refuse ) ?_
    rintro ⟨v31, g32⟩ hr4
    dsimp only [u2]
    exact Sf.ok (show (0 ≤ x2_lineCount ∧ x2_lineCount ≤ 20) ∧ (0 ≤ x2_goodsCount ∧ x2_goodsCount ≤ 8) ∧ (0 ≤ x2_workCount ∧ x2_workCount ≤ 7) ∧ (1 ≤ x2_years ∧ x2_years ≤ 30) ∧ (LnOk x2_lines) ∧ (GdOk x2_goods) ∧ (WkOk x2_works) ∧ (AI 0 99 x2_change) ∧ (AI 0 9 x2_coin) ∧ (0 ≤ x3_lineCount ∧ x3_lineCount ≤ 20) ∧ (LnOk x3_lines) ∧ (AI 0 99 x3_change) ∧ (AI 0 35 x5_edgeA) ∧ (AI 0 35 x5_edgeB) ∧ (AI 0 19 x5_edgeLine) ∧ (0 ≤ x5_edgeCount ∧ x5_edgeCount ≤ 60) from ⟨h_x2_lineCount, h_x2_goodsCount, h_x2_workCount, h_x2_years, h_x2_lines, h_x2_goods, h_x2_works, h_x2_change, h_x2_coin, h_x3_lineCount, h_x3_lines, h_x3_change, h_x5_edgeA, h_x5_edgeB, h_x5_edgeLine, h_x5_edgeCount⟩)
set_option maxHeartbeats 1000000 in
theorem sX6_first {n : Nat} {x0_refused : (Nat → Int32)} {x0_isKept x0_gone x0_spent : Int32} {x1_gained : (Nat → Int32)} {x2_lineCount x2_goodsCount x2_workCount x2_years : Int32} {x2_lines x2_goods x2_works x2_change x2_coin x2_knownFree : (Nat → Int32)} {x2_isKnown x3_lineCount x3_goodsCount x3_workCount x3_years : Int32} {x3_lines x3_goods x3_works x3_change x3_coin x3_knownFree : (Nat → Int32)} {x3_isKnown : Int32} {x4_left x4_earned : (Nat → Int32)} {x4_turnCost x4_turnWayless : Int32} {x5_edgeA x5_edgeB x5_edgeCost x5_edgeLine x5_change x5_away x5_steps x5_nodes : (Nat → Int32)} {x5_stepCount : Int32} {x5_open : (Nat → Int32)} {x5_openCount : Int32} {x5_seen : Int64} {x5_edgeCount x5_aim : Int32} (hn : 1000000000000 ≤ n) (h_x2_lineCount : (0 ≤ x2_lineCount ∧ x2_lineCount ≤ 20)) (h_x2_goodsCount : (0 ≤ x2_goodsCount ∧ x2_goodsCount ≤ 8)) (h_x2_workCount : (0 ≤ x2_workCount ∧ x2_workCount ≤ 7)) (h_x2_years : (1 ≤ x2_years ∧ x2_years ≤ 30)) (h_x2_lines : (LnOk x2_lines)) (h_x2_goods : (GdOk x2_goods)) (h_x2_works : (WkOk x2_works)) (h_x2_change : (AI 0 99 x2_change)) (h_x2_coin : (AI 0 9 x2_coin)) (h_x3_lineCount : (0 ≤ x3_lineCount ∧ x3_lineCount ≤ 20)) (h_x3_goodsCount : (0 ≤ x3_goodsCount ∧ x3_goodsCount ≤ 8)) (h_x3_workCount : (0 ≤ x3_workCount ∧ x3_workCount ≤ 7)) (h_x3_years : (1 ≤ x3_years ∧ x3_years ≤ 30)) (h_x3_lines : (LnOk x3_lines)) (h_x3_goods : (GdOk x3_goods)) (h_x3_works : (WkOk x3_works)) (h_x3_change : (AI 0 99 x3_change)) (h_x3_coin : (AI 0 9 x3_coin)) (h_x5_edgeA : (AI 0 35 x5_edgeA)) (h_x5_edgeB : (AI 0 35 x5_edgeB)) (h_x5_edgeLine : (AI 0 19 x5_edgeLine)) (h_x5_steps : (AI 0 22 x5_steps)) (h_x5_nodes : (AI 0 35 x5_nodes)) (h_x5_stepCount : (0 ≤ x5_stepCount ∧ x5_stepCount ≤ 36)) (h_x5_open : (AI 0 35 x5_open)) (h_x5_openCount : (0 ≤ x5_openCount ∧ x5_openCount ≤ 36)) (h_x5_edgeCount : (0 ≤ x5_edgeCount ∧ x5_edgeCount ≤ 60)) : Sf (fX6_first n (x0_refused, x0_isKept, x0_gone, x0_spent) x1_gained (x2_lineCount, x2_goodsCount, x2_workCount, x2_years, x2_lines, x2_goods, x2_works, x2_change, x2_coin, x2_knownFree, x2_isKnown) (x3_lineCount, x3_goodsCount, x3_workCount, x3_years, x3_lines, x3_goods, x3_works, x3_change, x3_coin, x3_knownFree, x3_isKnown) (x4_left, x4_earned, x4_turnCost, x4_turnWayless) (x5_edgeA, x5_edgeB, x5_edgeCost, x5_edgeLine, x5_change, x5_away, x5_steps, x5_nodes, x5_stepCount, x5_open, x5_openCount, x5_seen, x5_edgeCount, x5_aim)) (fun r => (0 ≤ r.2.1.1 ∧ r.2.1.1 ≤ 20) ∧ (0 ≤ r.2.1.2.1 ∧ r.2.1.2.1 ≤ 8) ∧ (0 ≤ r.2.1.2.2.1 ∧ r.2.1.2.2.1 ≤ 7) ∧ (1 ≤ r.2.1.2.2.2.1 ∧ r.2.1.2.2.2.1 ≤ 30) ∧ (LnOk r.2.1.2.2.2.2.1) ∧ (GdOk r.2.1.2.2.2.2.2.1) ∧ (WkOk r.2.1.2.2.2.2.2.2.1) ∧ (AI 0 99 r.2.1.2.2.2.2.2.2.2.1) ∧ (AI 0 9 r.2.1.2.2.2.2.2.2.2.2.1) ∧ (0 ≤ r.2.2.1.1 ∧ r.2.2.1.1 ≤ 20) ∧ (LnOk r.2.2.1.2.1) ∧ (AI 0 99 r.2.2.1.2.2.1) ∧ (AI 0 35 r.2.2.2.1) ∧ (AI 0 35 r.2.2.2.2.1) ∧ (AI 0 19 r.2.2.2.2.2.2.1) ∧ (0 ≤ r.2.2.2.2.2.2.2.2.2.1 ∧ r.2.2.2.2.2.2.2.2.2.1 ≤ 60)) := by
  unfold fX6_first
  dsimp only [u11, u14, u4]
  refine Sf.bind (sX0_firstOf hn h_x5_edgeA h_x5_edgeB h_x5_edgeLine h_x5_steps h_x5_nodes h_x5_stepCount h_x5_open h_x5_openCount h_x5_edgeCount h_x2_lineCount h_x2_goodsCount h_x2_workCount h_x2_years h_x2_lines h_x2_goods h_x2_works h_x2_change h_x2_coin h_x3_lineCount h_x3_goodsCount h_x3_workCount h_x3_years h_x3_lines h_x3_goods h_x3_works h_x3_change h_x3_coin) ?_
  rintro ⟨v1, ⟨g3, g4, g5, g6, g7, g8, g9, g10⟩, ⟨g12, g13, g14, g15, g16, g17, g18, g19, g20, g21⟩, ⟨g23, g24, g25, g26, g27⟩⟩ hr1
  obtain ⟨h_v1, h_g3, h_g4, h_g6, h_g9, h_g12, h_g13, h_g14, h_g15, h_g16, h_g17, h_g18, h_g19, h_g20, h_g23, h_g24, h_g25⟩ : ((-1) ≤ v1 ∧ v1 ≤ 6) ∧ (AI 0 35 g3) ∧ (AI 0 35 g4) ∧ (AI 0 19 g6) ∧ (0 ≤ g9 ∧ g9 ≤ 60) ∧ (0 ≤ g12 ∧ g12 ≤ 20) ∧ (0 ≤ g13 ∧ g13 ≤ 8) ∧ (0 ≤ g14 ∧ g14 ≤ 7) ∧ (1 ≤ g15 ∧ g15 ≤ 30) ∧ (LnOk g16) ∧ (GdOk g17) ∧ (WkOk g18) ∧ (AI 0 99 g19) ∧ (AI 0 9 g20) ∧ (0 ≤ g23 ∧ g23 ≤ 20) ∧ (LnOk g24) ∧ (AI 0 99 g25) := hr1
  dsimp only [u10, u4, u5, u8]
  exact Sf.ok (show (0 ≤ g12 ∧ g12 ≤ 20) ∧ (0 ≤ g13 ∧ g13 ≤ 8) ∧ (0 ≤ g14 ∧ g14 ≤ 7) ∧ (1 ≤ g15 ∧ g15 ≤ 30) ∧ (LnOk g16) ∧ (GdOk g17) ∧ (WkOk g18) ∧ (AI 0 99 g19) ∧ (AI 0 9 g20) ∧ (0 ≤ g23 ∧ g23 ≤ 20) ∧ (LnOk g24) ∧ (AI 0 99 g25) ∧ (AI 0 35 g3) ∧ (AI 0 35 g4) ∧ (AI 0 19 g6) ∧ (0 ≤ g9 ∧ g9 ≤ 60) from ⟨h_g12, h_g13, h_g14, h_g15, h_g16, h_g17, h_g18, h_g19, h_g20, h_g23, h_g24, h_g25, h_g3, h_g4, h_g6, h_g9⟩)
set_option maxHeartbeats 1000000 in
theorem sX6_greedy {n : Nat} {x0_refused : (Nat → Int32)} {x0_isKept x0_gone x0_spent : Int32} {x1_gained : (Nat → Int32)} {x2_lineCount x2_goodsCount x2_workCount x2_years : Int32} {x2_lines x2_goods x2_works x2_change x2_coin x2_knownFree : (Nat → Int32)} {x2_isKnown x3_lineCount x3_goodsCount x3_workCount x3_years : Int32} {x3_lines x3_goods x3_works x3_change x3_coin x3_knownFree : (Nat → Int32)} {x3_isKnown x4_lineCount x4_goodsCount x4_workCount x4_years : Int32} {x4_lines x4_goods x4_works x4_change x4_coin x4_knownFree : (Nat → Int32)} {x4_isKnown : Int32} {x5_left x5_earned : (Nat → Int32)} {x5_turnCost x5_turnWayless : Int32} {x6_edgeA x6_edgeB x6_edgeCost x6_edgeLine x6_change x6_away x6_steps x6_nodes : (Nat → Int32)} {x6_stepCount : Int32} {x6_open : (Nat → Int32)} {x6_openCount : Int32} {x6_seen : Int64} {x6_edgeCount x6_aim : Int32} (hn : 1000000000000 ≤ n) (h_x2_lineCount : (0 ≤ x2_lineCount ∧ x2_lineCount ≤ 20)) (h_x2_goodsCount : (0 ≤ x2_goodsCount ∧ x2_goodsCount ≤ 8)) (h_x2_workCount : (0 ≤ x2_workCount ∧ x2_workCount ≤ 7)) (h_x2_years : (1 ≤ x2_years ∧ x2_years ≤ 30)) (h_x2_lines : (LnOk x2_lines)) (h_x2_goods : (GdOk x2_goods)) (h_x2_works : (WkOk x2_works)) (h_x2_change : (AI 0 99 x2_change)) (h_x2_coin : (AI 0 9 x2_coin)) (h_x3_lineCount : (0 ≤ x3_lineCount ∧ x3_lineCount ≤ 20)) (h_x3_goodsCount : (0 ≤ x3_goodsCount ∧ x3_goodsCount ≤ 8)) (h_x3_workCount : (0 ≤ x3_workCount ∧ x3_workCount ≤ 7)) (h_x3_years : (1 ≤ x3_years ∧ x3_years ≤ 30)) (h_x3_lines : (LnOk x3_lines)) (h_x3_goods : (GdOk x3_goods)) (h_x3_works : (WkOk x3_works)) (h_x3_change : (AI 0 99 x3_change)) (h_x3_coin : (AI 0 9 x3_coin)) (h_x4_lineCount : (0 ≤ x4_lineCount ∧ x4_lineCount ≤ 20)) (h_x4_goodsCount : (0 ≤ x4_goodsCount ∧ x4_goodsCount ≤ 8)) (h_x4_workCount : (0 ≤ x4_workCount ∧ x4_workCount ≤ 7)) (h_x4_years : (1 ≤ x4_years ∧ x4_years ≤ 30)) (h_x4_lines : (LnOk x4_lines)) (h_x4_goods : (GdOk x4_goods)) (h_x4_works : (WkOk x4_works)) (h_x4_change : (AI 0 99 x4_change)) (h_x4_coin : (AI 0 9 x4_coin)) (h_x6_edgeA : (AI 0 35 x6_edgeA)) (h_x6_edgeB : (AI 0 35 x6_edgeB)) (h_x6_edgeLine : (AI 0 19 x6_edgeLine)) (h_x6_steps : (AI 0 22 x6_steps)) (h_x6_nodes : (AI 0 35 x6_nodes)) (h_x6_stepCount : (0 ≤ x6_stepCount ∧ x6_stepCount ≤ 36)) (h_x6_open : (AI 0 35 x6_open)) (h_x6_openCount : (0 ≤ x6_openCount ∧ x6_openCount ≤ 36)) (h_x6_edgeCount : (0 ≤ x6_edgeCount ∧ x6_edgeCount ≤ 60)) : Sf (fX6_greedy n (x0_refused, x0_isKept, x0_gone, x0_spent) x1_gained (x2_lineCount, x2_goodsCount, x2_workCount, x2_years, x2_lines, x2_goods, x2_works, x2_change, x2_coin, x2_knownFree, x2_isKnown) (x3_lineCount, x3_goodsCount, x3_workCount, x3_years, x3_lines, x3_goods, x3_works, x3_change, x3_coin, x3_knownFree, x3_isKnown) (x4_lineCount, x4_goodsCount, x4_workCount, x4_years, x4_lines, x4_goods, x4_works, x4_change, x4_coin, x4_knownFree, x4_isKnown) (x5_left, x5_earned, x5_turnCost, x5_turnWayless) (x6_edgeA, x6_edgeB, x6_edgeCost, x6_edgeLine, x6_change, x6_away, x6_steps, x6_nodes, x6_stepCount, x6_open, x6_openCount, x6_seen, x6_edgeCount, x6_aim)) (fun r => (0 ≤ r.2.1.1 ∧ r.2.1.1 ≤ 20) ∧ (0 ≤ r.2.1.2.1 ∧ r.2.1.2.1 ≤ 8) ∧ (0 ≤ r.2.1.2.2.1 ∧ r.2.1.2.2.1 ≤ 7) ∧ (1 ≤ r.2.1.2.2.2.1 ∧ r.2.1.2.2.2.1 ≤ 30) ∧ (LnOk r.2.1.2.2.2.2.1) ∧ (GdOk r.2.1.2.2.2.2.2.1) ∧ (WkOk r.2.1.2.2.2.2.2.2.1) ∧ (AI 0 99 r.2.1.2.2.2.2.2.2.2.1) ∧ (AI 0 9 r.2.1.2.2.2.2.2.2.2.2.1) ∧ (0 ≤ r.2.2.1.1 ∧ r.2.2.1.1 ≤ 20) ∧ (0 ≤ r.2.2.1.2.1 ∧ r.2.2.1.2.1 ≤ 8) ∧ (0 ≤ r.2.2.1.2.2.1 ∧ r.2.2.1.2.2.1 ≤ 7) ∧ (1 ≤ r.2.2.1.2.2.2.1 ∧ r.2.2.1.2.2.2.1 ≤ 30) ∧ (LnOk r.2.2.1.2.2.2.2.1) ∧ (GdOk r.2.2.1.2.2.2.2.2.1) ∧ (WkOk r.2.2.1.2.2.2.2.2.2.1) ∧ (AI 0 99 r.2.2.1.2.2.2.2.2.2.2.1) ∧ (AI 0 9 r.2.2.1.2.2.2.2.2.2.2.2.1) ∧ (AI 0 35 r.2.2.2.1) ∧ (AI 0 35 r.2.2.2.2.1) ∧ (AI 0 19 r.2.2.2.2.2.2.1) ∧ (0 ≤ r.2.2.2.2.2.2.2.2.2.1 ∧ r.2.2.2.2.2.2.2.2.2.1 ≤ 60)) := by
  unfold fX6_greedy
  dsimp only [u11, u14, u4]
  refine Sf.bind (sX0_greedyOf hn h_x2_lineCount h_x2_goodsCount h_x2_workCount h_x2_years h_x2_lines h_x2_goods h_x2_works h_x2_change h_x2_coin h_x6_edgeA h_x6_edgeB h_x6_edgeLine h_x6_steps h_x6_nodes h_x6_stepCount h_x6_open h_x6_openCount h_x6_edgeCount h_x3_lineCount h_x3_goodsCount h_x3_workCount h_x3_years h_x3_lines h_x3_goods h_x3_works h_x3_change h_x3_coin h_x4_lineCount h_x4_goodsCount h_x4_workCount h_x4_years h_x4_lines h_x4_goods h_x4_works h_x4_change h_x4_coin) ?_
  rintro ⟨v1, ⟨g3, g4, g5, g6, g7, g8, g9, g10, g11, g12, g13⟩, ⟨g15, g16, g17, g18, g19, g20, g21, g22⟩, ⟨g24, g25, g26, g27, g28, g29, g30, g31, g32, g33⟩⟩ hr1
  obtain ⟨h_g3, h_g4, h_g5, h_g6, h_g7, h_g8, h_g9, h_g10, h_g11, h_g15, h_g16, h_g18, h_g21, h_g24, h_g25, h_g26, h_g27, h_g28, h_g29, h_g30, h_g31, h_g32⟩ : (0 ≤ g3 ∧ g3 ≤ 20) ∧ (0 ≤ g4 ∧ g4 ≤ 8) ∧ (0 ≤ g5 ∧ g5 ≤ 7) ∧ (1 ≤ g6 ∧ g6 ≤ 30) ∧ (LnOk g7) ∧ (GdOk g8) ∧ (WkOk g9) ∧ (AI 0 99 g10) ∧ (AI 0 9 g11) ∧ (AI 0 35 g15) ∧ (AI 0 35 g16) ∧ (AI 0 19 g18) ∧ (0 ≤ g21 ∧ g21 ≤ 60) ∧ (0 ≤ g24 ∧ g24 ≤ 20) ∧ (0 ≤ g25 ∧ g25 ≤ 8) ∧ (0 ≤ g26 ∧ g26 ≤ 7) ∧ (1 ≤ g27 ∧ g27 ≤ 30) ∧ (LnOk g28) ∧ (GdOk g29) ∧ (WkOk g30) ∧ (AI 0 99 g31) ∧ (AI 0 9 g32) := hr1
  dsimp only [u10, u11, u4, u8]
  exact Sf.ok (show (0 ≤ g3 ∧ g3 ≤ 20) ∧ (0 ≤ g4 ∧ g4 ≤ 8) ∧ (0 ≤ g5 ∧ g5 ≤ 7) ∧ (1 ≤ g6 ∧ g6 ≤ 30) ∧ (LnOk g7) ∧ (GdOk g8) ∧ (WkOk g9) ∧ (AI 0 99 g10) ∧ (AI 0 9 g11) ∧ (0 ≤ g24 ∧ g24 ≤ 20) ∧ (0 ≤ g25 ∧ g25 ≤ 8) ∧ (0 ≤ g26 ∧ g26 ≤ 7) ∧ (1 ≤ g27 ∧ g27 ≤ 30) ∧ (LnOk g28) ∧ (GdOk g29) ∧ (WkOk g30) ∧ (AI 0 99 g31) ∧ (AI 0 9 g32) ∧ (AI 0 35 g15) ∧ (AI 0 35 g16) ∧ (AI 0 19 g18) ∧ (0 ≤ g21 ∧ g21 ≤ 60) from ⟨h_g3, h_g4, h_g5, h_g6, h_g7, h_g8, h_g9, h_g10, h_g11, h_g24, h_g25, h_g26, h_g27, h_g28, h_g29, h_g30, h_g31, h_g32, h_g15, h_g16, h_g18, h_g21⟩)
set_option maxHeartbeats 1000000 in
theorem sX6_gap {n : Nat} {x0_refused : (Nat → Int32)} {x0_isKept x0_gone x0_spent : Int32} {x1_gained : (Nat → Int32)} {x2_lineCount x2_goodsCount x2_workCount x2_years : Int32} {x2_lines x2_goods x2_works x2_change x2_coin x2_knownFree : (Nat → Int32)} {x2_isKnown x3_lineCount x3_goodsCount x3_workCount x3_years : Int32} {x3_lines x3_goods x3_works x3_change x3_coin x3_knownFree : (Nat → Int32)} {x3_isKnown x4_lineCount x4_goodsCount x4_workCount x4_years : Int32} {x4_lines x4_goods x4_works x4_change x4_coin x4_knownFree : (Nat → Int32)} {x4_isKnown : Int32} {x5_left x5_earned : (Nat → Int32)} {x5_turnCost x5_turnWayless : Int32} {x6_edgeA x6_edgeB x6_edgeCost x6_edgeLine x6_change x6_away x6_steps x6_nodes : (Nat → Int32)} {x6_stepCount : Int32} {x6_open : (Nat → Int32)} {x6_openCount : Int32} {x6_seen : Int64} {x6_edgeCount x6_aim : Int32} (hn : 1000000000000 ≤ n) (h_x2_lineCount : (0 ≤ x2_lineCount ∧ x2_lineCount ≤ 20)) (h_x2_goodsCount : (0 ≤ x2_goodsCount ∧ x2_goodsCount ≤ 8)) (h_x2_workCount : (0 ≤ x2_workCount ∧ x2_workCount ≤ 7)) (h_x2_years : (1 ≤ x2_years ∧ x2_years ≤ 30)) (h_x2_lines : (LnOk x2_lines)) (h_x2_goods : (GdOk x2_goods)) (h_x2_works : (WkOk x2_works)) (h_x2_change : (AI 0 99 x2_change)) (h_x2_coin : (AI 0 9 x2_coin)) (h_x3_lineCount : (0 ≤ x3_lineCount ∧ x3_lineCount ≤ 20)) (h_x3_goodsCount : (0 ≤ x3_goodsCount ∧ x3_goodsCount ≤ 8)) (h_x3_workCount : (0 ≤ x3_workCount ∧ x3_workCount ≤ 7)) (h_x3_years : (1 ≤ x3_years ∧ x3_years ≤ 30)) (h_x3_lines : (LnOk x3_lines)) (h_x3_goods : (GdOk x3_goods)) (h_x3_works : (WkOk x3_works)) (h_x3_change : (AI 0 99 x3_change)) (h_x3_coin : (AI 0 9 x3_coin)) (h_x4_lineCount : (0 ≤ x4_lineCount ∧ x4_lineCount ≤ 20)) (h_x4_goodsCount : (0 ≤ x4_goodsCount ∧ x4_goodsCount ≤ 8)) (h_x4_workCount : (0 ≤ x4_workCount ∧ x4_workCount ≤ 7)) (h_x4_years : (1 ≤ x4_years ∧ x4_years ≤ 30)) (h_x4_lines : (LnOk x4_lines)) (h_x4_goods : (GdOk x4_goods)) (h_x4_works : (WkOk x4_works)) (h_x4_change : (AI 0 99 x4_change)) (h_x4_coin : (AI 0 9 x4_coin)) (h_x6_edgeA : (AI 0 35 x6_edgeA)) (h_x6_edgeB : (AI 0 35 x6_edgeB)) (h_x6_edgeLine : (AI 0 19 x6_edgeLine)) (h_x6_steps : (AI 0 22 x6_steps)) (h_x6_nodes : (AI 0 35 x6_nodes)) (h_x6_stepCount : (0 ≤ x6_stepCount ∧ x6_stepCount ≤ 36)) (h_x6_open : (AI 0 35 x6_open)) (h_x6_openCount : (0 ≤ x6_openCount ∧ x6_openCount ≤ 36)) (h_x6_edgeCount : (0 ≤ x6_edgeCount ∧ x6_edgeCount ≤ 60)) : Sf (fX6_gap n (x0_refused, x0_isKept, x0_gone, x0_spent) x1_gained (x2_lineCount, x2_goodsCount, x2_workCount, x2_years, x2_lines, x2_goods, x2_works, x2_change, x2_coin, x2_knownFree, x2_isKnown) (x3_lineCount, x3_goodsCount, x3_workCount, x3_years, x3_lines, x3_goods, x3_works, x3_change, x3_coin, x3_knownFree, x3_isKnown) (x4_lineCount, x4_goodsCount, x4_workCount, x4_years, x4_lines, x4_goods, x4_works, x4_change, x4_coin, x4_knownFree, x4_isKnown) (x5_left, x5_earned, x5_turnCost, x5_turnWayless) (x6_edgeA, x6_edgeB, x6_edgeCost, x6_edgeLine, x6_change, x6_away, x6_steps, x6_nodes, x6_stepCount, x6_open, x6_openCount, x6_seen, x6_edgeCount, x6_aim)) (fun r => (0 ≤ r.2.1.1 ∧ r.2.1.1 ≤ 20) ∧ (0 ≤ r.2.1.2.1 ∧ r.2.1.2.1 ≤ 8) ∧ (0 ≤ r.2.1.2.2.1 ∧ r.2.1.2.2.1 ≤ 7) ∧ (1 ≤ r.2.1.2.2.2.1 ∧ r.2.1.2.2.2.1 ≤ 30) ∧ (LnOk r.2.1.2.2.2.2.1) ∧ (GdOk r.2.1.2.2.2.2.2.1) ∧ (WkOk r.2.1.2.2.2.2.2.2.1) ∧ (AI 0 99 r.2.1.2.2.2.2.2.2.2.1) ∧ (AI 0 9 r.2.1.2.2.2.2.2.2.2.2.1) ∧ (0 ≤ r.2.2.1.1 ∧ r.2.2.1.1 ≤ 20) ∧ (0 ≤ r.2.2.1.2.1 ∧ r.2.2.1.2.1 ≤ 8) ∧ (0 ≤ r.2.2.1.2.2.1 ∧ r.2.2.1.2.2.1 ≤ 7) ∧ (1 ≤ r.2.2.1.2.2.2.1 ∧ r.2.2.1.2.2.2.1 ≤ 30) ∧ (LnOk r.2.2.1.2.2.2.2.1) ∧ (GdOk r.2.2.1.2.2.2.2.2.1) ∧ (WkOk r.2.2.1.2.2.2.2.2.2.1) ∧ (AI 0 99 r.2.2.1.2.2.2.2.2.2.2.1) ∧ (AI 0 9 r.2.2.1.2.2.2.2.2.2.2.2.1) ∧ (0 ≤ r.2.2.2.1.1 ∧ r.2.2.2.1.1 ≤ 20) ∧ (LnOk r.2.2.2.1.2.1) ∧ (AI 0 99 r.2.2.2.1.2.2.1) ∧ (AI 0 35 r.2.2.2.2.1) ∧ (AI 0 35 r.2.2.2.2.2.1) ∧ (AI 0 19 r.2.2.2.2.2.2.2.1) ∧ (0 ≤ r.2.2.2.2.2.2.2.2.2.2.1 ∧ r.2.2.2.2.2.2.2.2.2.2.1 ≤ 60)) := by
  unfold fX6_gap
  dsimp only [u11, u14, u4]
  refine Sf.bind (sX0_greedyOf hn h_x2_lineCount h_x2_goodsCount h_x2_workCount h_x2_years h_x2_lines h_x2_goods h_x2_works h_x2_change h_x2_coin h_x6_edgeA h_x6_edgeB h_x6_edgeLine h_x6_steps h_x6_nodes h_x6_stepCount h_x6_open h_x6_openCount h_x6_edgeCount h_x3_lineCount h_x3_goodsCount h_x3_workCount h_x3_years h_x3_lines h_x3_goods h_x3_works h_x3_change h_x3_coin h_x4_lineCount h_x4_goodsCount h_x4_workCount h_x4_years h_x4_lines h_x4_goods h_x4_works h_x4_change h_x4_coin) ?_
  rintro ⟨v1, ⟨g3, g4, g5, g6, g7, g8, g9, g10, g11, g12, g13⟩, ⟨g15, g16, g17, g18, g19, g20, g21, g22⟩, ⟨g24, g25, g26, g27, g28, g29, g30, g31, g32, g33⟩⟩ hr1
  obtain ⟨h_g3, h_g4, h_g5, h_g6, h_g7, h_g8, h_g9, h_g10, h_g11, h_g15, h_g16, h_g18, h_g21, h_g24, h_g25, h_g26, h_g27, h_g28, h_g29, h_g30, h_g31, h_g32⟩ : (0 ≤ g3 ∧ g3 ≤ 20) ∧ (0 ≤ g4 ∧ g4 ≤ 8) ∧ (0 ≤ g5 ∧ g5 ≤ 7) ∧ (1 ≤ g6 ∧ g6 ≤ 30) ∧ (LnOk g7) ∧ (GdOk g8) ∧ (WkOk g9) ∧ (AI 0 99 g10) ∧ (AI 0 9 g11) ∧ (AI 0 35 g15) ∧ (AI 0 35 g16) ∧ (AI 0 19 g18) ∧ (0 ≤ g21 ∧ g21 ≤ 60) ∧ (0 ≤ g24 ∧ g24 ≤ 20) ∧ (0 ≤ g25 ∧ g25 ≤ 8) ∧ (0 ≤ g26 ∧ g26 ≤ 7) ∧ (1 ≤ g27 ∧ g27 ≤ 30) ∧ (LnOk g28) ∧ (GdOk g29) ∧ (WkOk g30) ∧ (AI 0 99 g31) ∧ (AI 0 9 g32) := hr1
  dsimp only [u10, u11, u4, u8]
  refine Sf.bind (sX0_totalOf hn h_g15 h_g16 h_g18 h_x6_steps h_x6_nodes h_x6_stepCount h_x6_open h_x6_openCount h_g21 h_g24 h_g25 h_g26 h_g27 h_g28 h_g29 h_g30 h_g31 h_g32 h_x4_lineCount h_x4_goodsCount h_x4_workCount h_x4_years h_x4_lines h_x4_goods h_x4_works h_x4_change h_x4_coin) ?_
  rintro ⟨v35, ⟨g37, g38, g39, g40, g41, g42, g43, g44⟩, ⟨g46, g47, g48, g49, g50, g51, g52, g53, g54, g55⟩, ⟨g57, g58, g59, g60, g61⟩⟩ hr2
  obtain ⟨h_g37, h_g38, h_g40, h_g43, h_g46, h_g47, h_g48, h_g49, h_g50, h_g51, h_g52, h_g53, h_g54, h_g57, h_g58, h_g59⟩ : (AI 0 35 g37) ∧ (AI 0 35 g38) ∧ (AI 0 19 g40) ∧ (0 ≤ g43 ∧ g43 ≤ 60) ∧ (0 ≤ g46 ∧ g46 ≤ 20) ∧ (0 ≤ g47 ∧ g47 ≤ 8) ∧ (0 ≤ g48 ∧ g48 ≤ 7) ∧ (1 ≤ g49 ∧ g49 ≤ 30) ∧ (LnOk g50) ∧ (GdOk g51) ∧ (WkOk g52) ∧ (AI 0 99 g53) ∧ (AI 0 9 g54) ∧ (0 ≤ g57 ∧ g57 ≤ 20) ∧ (LnOk g58) ∧ (AI 0 99 g59) := hr2
  dsimp only [u10, u4, u5, u8]
  refine Sf.bind (sX0_bestOf hn h_g37 h_g38 h_g40 h_x6_steps h_x6_nodes h_x6_stepCount h_x6_open h_x6_openCount h_g43 h_g46 h_g47 h_g48 h_g49 h_g50 h_g51 h_g52 h_g53 h_g54 h_g57 h_x4_goodsCount h_x4_workCount h_x4_years h_g58 h_x4_goods h_x4_works h_g59 h_x4_coin) ?_
  rintro ⟨v63, ⟨g65, g66, g67, g68, g69, g70, g71, g72⟩, ⟨g74, g75, g76, g77, g78, g79, g80, g81, g82, g83⟩, ⟨g85, g86, g87, g88, g89⟩⟩ hr3
  obtain ⟨h_g65, h_g66, h_g68, h_g71, h_g74, h_g75, h_g76, h_g77, h_g78, h_g79, h_g80, h_g81, h_g82, h_g85, h_g86, h_g87⟩ : (AI 0 35 g65) ∧ (AI 0 35 g66) ∧ (AI 0 19 g68) ∧ (0 ≤ g71 ∧ g71 ≤ 60) ∧ (0 ≤ g74 ∧ g74 ≤ 20) ∧ (0 ≤ g75 ∧ g75 ≤ 8) ∧ (0 ≤ g76 ∧ g76 ≤ 7) ∧ (1 ≤ g77 ∧ g77 ≤ 30) ∧ (LnOk g78) ∧ (GdOk g79) ∧ (WkOk g80) ∧ (AI 0 99 g81) ∧ (AI 0 9 g82) ∧ (0 ≤ g85 ∧ g85 ≤ 20) ∧ (LnOk g86) ∧ (AI 0 99 g87) := hr3
  dsimp only [u10, u4, u5, u8]
  refine Sf.bind (sX0_totalOf hn h_g65 h_g66 h_g68 h_x6_steps h_x6_nodes h_x6_stepCount h_x6_open h_x6_openCount h_g71 h_g74 h_g75 h_g76 h_g77 h_g78 h_g79 h_g80 h_g81 h_g82 h_g85 h_x4_goodsCount h_x4_workCount h_x4_years h_g86 h_x4_goods h_x4_works h_g87 h_x4_coin) ?_
  rintro ⟨v91, ⟨g93, g94, g95, g96, g97, g98, g99, g100⟩, ⟨g102, g103, g104, g105, g106, g107, g108, g109, g110, g111⟩, ⟨g113, g114, g115, g116, g117⟩⟩ hr4
  obtain ⟨h_g93, h_g94, h_g96, h_g99, h_g102, h_g103, h_g104, h_g105, h_g106, h_g107, h_g108, h_g109, h_g110, h_g113, h_g114, h_g115⟩ : (AI 0 35 g93) ∧ (AI 0 35 g94) ∧ (AI 0 19 g96) ∧ (0 ≤ g99 ∧ g99 ≤ 60) ∧ (0 ≤ g102 ∧ g102 ≤ 20) ∧ (0 ≤ g103 ∧ g103 ≤ 8) ∧ (0 ≤ g104 ∧ g104 ≤ 7) ∧ (1 ≤ g105 ∧ g105 ≤ 30) ∧ (LnOk g106) ∧ (GdOk g107) ∧ (WkOk g108) ∧ (AI 0 99 g109) ∧ (AI 0 9 g110) ∧ (0 ≤ g113 ∧ g113 ≤ 20) ∧ (LnOk g114) ∧ (AI 0 99 g115) := hr4
  dsimp only [u10, u4, u5, u8]
  exact Sf.ok (show (0 ≤ g3 ∧ g3 ≤ 20) ∧ (0 ≤ g4 ∧ g4 ≤ 8) ∧ (0 ≤ g5 ∧ g5 ≤ 7) ∧ (1 ≤ g6 ∧ g6 ≤ 30) ∧ (LnOk g7) ∧ (GdOk g8) ∧ (WkOk g9) ∧ (AI 0 99 g10) ∧ (AI 0 9 g11) ∧ (0 ≤ g102 ∧ g102 ≤ 20) ∧ (0 ≤ g103 ∧ g103 ≤ 8) ∧ (0 ≤ g104 ∧ g104 ≤ 7) ∧ (1 ≤ g105 ∧ g105 ≤ 30) ∧ (LnOk g106) ∧ (GdOk g107) ∧ (WkOk g108) ∧ (AI 0 99 g109) ∧ (AI 0 9 g110) ∧ (0 ≤ g113 ∧ g113 ≤ 20) ∧ (LnOk g114) ∧ (AI 0 99 g115) ∧ (AI 0 35 g93) ∧ (AI 0 35 g94) ∧ (AI 0 19 g96) ∧ (0 ≤ g99 ∧ g99 ≤ 60) from ⟨h_g3, h_g4, h_g5, h_g6, h_g7, h_g8, h_g9, h_g10, h_g11, h_g102, h_g103, h_g104, h_g105, h_g106, h_g107, h_g108, h_g109, h_g110, h_g113, h_g114, h_g115, h_g93, h_g94, h_g96, h_g99⟩)
theorem TX6_edge_s18 {n : Nat} {p1 : Int32} {x1_gained x2_knownFree : (Nat → Int32)} {x3_goodsCount x3_workCount x3_years : Int32} {x3_goods x3_works x3_coin x4_left x4_earned : (Nat → Int32)} {x4_turnCost x4_turnWayless : Int32} {x5_steps x5_nodes : (Nat → Int32)} {x5_stepCount : Int32} {x5_open : (Nat → Int32)} {x5_openCount : Int32} {x5_seen : Int64} {z4 z5 z6 z7 z8 : Int32} {z9 z10 z11 z12 z13 : (Nat → Int32)} {z14 z15 : Int32} {z16 z17 z18 : (Nat → Int32)} {z19 : Int32} {z20 z21 z22 z23 z24 z25 : (Nat → Int32)} {z26 z27 : Int32} (hn : 1000000000000 ≤ n) (h_p1 : (0 ≤ p1 ∧ p1 ≤ 6)) (h_x3_goodsCount : (0 ≤ x3_goodsCount ∧ x3_goodsCount ≤ 8)) (h_x3_workCount : (0 ≤ x3_workCount ∧ x3_workCount ≤ 7)) (h_x3_years : (1 ≤ x3_years ∧ x3_years ≤ 30)) (h_x3_goods : (GdOk x3_goods)) (h_x3_works : (WkOk x3_works)) (h_x3_coin : (AI 0 9 x3_coin)) (h_x5_steps : (AI 0 22 x5_steps)) (h_x5_nodes : (AI 0 35 x5_nodes)) (h_x5_stepCount : (0 ≤ x5_stepCount ∧ x5_stepCount ≤ 36)) (h_x5_open : (AI 0 35 x5_open)) (h_x5_openCount : (0 ≤ x5_openCount ∧ x5_openCount ≤ 36)) (h_z4 : (0 ≤ z4)) (h_z5 : (0 ≤ z5 ∧ z5 ≤ 20)) (h_z6 : (0 ≤ z6 ∧ z6 ≤ 8)) (h_z7 : (0 ≤ z7 ∧ z7 ≤ 7)) (h_z8 : (1 ≤ z8 ∧ z8 ≤ 30)) (h_z9 : (LnOk z9)) (h_z10 : (GdOk z10)) (h_z11 : (WkOk z11)) (h_z12 : (AI 0 99 z12)) (h_z13 : (AI 0 9 z13)) (h_z15 : (0 ≤ z15 ∧ z15 ≤ 20)) (h_z16 : (LnOk z16)) (h_z17 : (AI 0 99 z17)) (h_z20 : (AI 0 35 z20)) (h_z21 : (AI 0 35 z21)) (h_z23 : (AI 0 19 z23)) (h_z26 : (0 ≤ z26 ∧ z26 ≤ 60)) : Sf (fX6_edge_s18 n p1 x1_gained x2_knownFree x3_goodsCount x3_workCount x3_years x3_goods x3_works x3_coin x4_left x4_earned x4_turnCost x4_turnWayless x5_steps x5_nodes x5_stepCount x5_open x5_openCount x5_seen z4 z5 z6 z7 z8 z9 z10 z11 z12 z13 z14 z15 z16 z17 z18 z19 z20 z21 z22 z23 z24 z25 z26 z27) (LQ (u24 (fun z4 z5 z6 z7 z8 z9 z10 z11 z12 z13 z14 z15 z16 z17 z18 z19 z20 z21 z22 z23 z24 z25 z26 z27 => (0 ≤ z4) ∧ (0 ≤ z5 ∧ z5 ≤ 20) ∧ (0 ≤ z6 ∧ z6 ≤ 8) ∧ (0 ≤ z7 ∧ z7 ≤ 7) ∧ (1 ≤ z8 ∧ z8 ≤ 30) ∧ (LnOk z9) ∧ (GdOk z10) ∧ (WkOk z11) ∧ (AI 0 99 z12) ∧ (AI 0 9 z13) ∧ (0 ≤ z15 ∧ z15 ≤ 20) ∧ (LnOk z16) ∧ (AI 0 99 z17) ∧ (AI 0 35 z20) ∧ (AI 0 35 z21) ∧ (AI 0 19 z23) ∧ (0 ≤ z26 ∧ z26 ≤ 60))) (u24 (fun z4 z5 z6 z7 z8 z9 z10 z11 z12 z13 z14 z15 z16 z17 z18 z19 z20 z21 z22 z23 z24 z25 z26 z27 => muUp z4)) (muUp z4) ((Sum.elim (fun a => (0 ≤ a.1) ∧ (0 ≤ a.2.1 ∧ a.2.1 ≤ 20) ∧ (0 ≤ a.2.2.1 ∧ a.2.2.1 ≤ 8) ∧ (0 ≤ a.2.2.2.1 ∧ a.2.2.2.1 ≤ 7) ∧ (1 ≤ a.2.2.2.2.1 ∧ a.2.2.2.2.1 ≤ 30) ∧ (LnOk a.2.2.2.2.2.1) ∧ (GdOk a.2.2.2.2.2.2.1) ∧ (WkOk a.2.2.2.2.2.2.2.1) ∧ (AI 0 99 a.2.2.2.2.2.2.2.2.1) ∧ (AI 0 9 a.2.2.2.2.2.2.2.2.2.1) ∧ (0 ≤ a.2.2.2.2.2.2.2.2.2.2.2.1 ∧ a.2.2.2.2.2.2.2.2.2.2.2.1 ≤ 20) ∧ (LnOk a.2.2.2.2.2.2.2.2.2.2.2.2.1) ∧ (AI 0 99 a.2.2.2.2.2.2.2.2.2.2.2.2.2.1) ∧ (AI 0 35 a.2.2.2.2.2.2.2.2.2.2.2.2.2.2.2.2.1) ∧ (AI 0 35 a.2.2.2.2.2.2.2.2.2.2.2.2.2.2.2.2.2.1) ∧ (AI 0 19 a.2.2.2.2.2.2.2.2.2.2.2.2.2.2.2.2.2.2.2.1) ∧ (0 ≤ a.2.2.2.2.2.2.2.2.2.2.2.2.2.2.2.2.2.2.2.2.2.2.1 ∧ a.2.2.2.2.2.2.2.2.2.2.2.2.2.2.2.2.2.2.2.2.2.2.1 ≤ 60)) (fun a => (0 ≤ a.1 ∧ a.1 ≤ 20) ∧ (0 ≤ a.2.1 ∧ a.2.1 ≤ 8) ∧ (0 ≤ a.2.2.1 ∧ a.2.2.1 ≤ 7) ∧ (1 ≤ a.2.2.2.1 ∧ a.2.2.2.1 ≤ 30) ∧ (LnOk a.2.2.2.2.1) ∧ (GdOk a.2.2.2.2.2.1) ∧ (WkOk a.2.2.2.2.2.2.1) ∧ (AI 0 99 a.2.2.2.2.2.2.2.1) ∧ (AI 0 9 a.2.2.2.2.2.2.2.2.1) ∧ (0 ≤ a.2.2.2.2.2.2.2.2.2.2.1 ∧ a.2.2.2.2.2.2.2.2.2.2.1 ≤ 20) ∧ (LnOk a.2.2.2.2.2.2.2.2.2.2.2.1) ∧ (AI 0 99 a.2.2.2.2.2.2.2.2.2.2.2.2.1) ∧ (AI 0 35 a.2.2.2.2.2.2.2.2.2.2.2.2.2.2.2.1) ∧ (AI 0 35 a.2.2.2.2.2.2.2.2.2.2.2.2.2.2.2.2.1) ∧ (AI 0 19 a.2.2.2.2.2.2.2.2.2.2.2.2.2.2.2.2.2.2.1) ∧ (0 ≤ a.2.2.2.2.2.2.2.2.2.2.2.2.2.2.2.2.2.2.2.2.2.1 ∧ a.2.2.2.2.2.2.2.2.2.2.2.2.2.2.2.2.2.2.2.2.2.1 ≤ 60))))) := by
  unfold fX6_edge_s18
  refine Sf.ite (fun hc1 => ?_) (fun hc1 => ?_)
  · exact Sf.inr (show (0 ≤ z5 ∧ z5 ≤ 20) ∧ (0 ≤ z6 ∧ z6 ≤ 8) ∧ (0 ≤ z7 ∧ z7 ≤ 7) ∧ (1 ≤ z8 ∧ z8 ≤ 30) ∧ (LnOk z9) ∧ (GdOk z10) ∧ (WkOk z11) ∧ (AI 0 99 z12) ∧ (AI 0 9 z13) ∧ (0 ≤ z15 ∧ z15 ≤ 20) ∧ (LnOk z16) ∧ (AI 0 99 z17) ∧ (AI 0 35 z20) ∧ (AI 0 35 z21) ∧ (AI 0 19 z23) ∧ (0 ≤ z26 ∧ z26 ≤ 60) from ⟨h_z5, h_z6, h_z7, h_z8, h_z9, h_z10, h_z11, h_z12, h_z13, h_z15, h_z16, h_z17, h_z20, h_z21, h_z23, h_z26⟩)
  · refine Sf.bind (sX0_worthIn hn h_z20 h_z21 h_z23 h_x5_steps h_x5_nodes h_x5_stepCount h_x5_open h_x5_openCount h_z26 h_z5 h_z6 h_z7 h_z8 h_z9 h_z10 h_z11 h_z12 h_z13 h_z15 h_x3_goodsCount h_x3_workCount h_x3_years h_z16 h_x3_goods h_x3_works h_z17 h_x3_coin h_p1) ?_
    rintro ⟨v76, ⟨g78, g79, g80, g81, g82, g83, g84, g85⟩, ⟨g87, g88, g89, g90, g91, g92, g93, g94, g95, g96⟩, ⟨g98, g99, g100, g101, g102⟩⟩ hr2
    obtain ⟨h_g78, h_g79, h_g81, h_g84, h_g87, h_g88, h_g89, h_g90, h_g91, h_g92, h_g93, h_g94, h_g95, h_g98, h_g99, h_g100⟩ : (AI 0 35 g78) ∧ (AI 0 35 g79) ∧ (AI 0 19 g81) ∧ (0 ≤ g84 ∧ g84 ≤ 60) ∧ (0 ≤ g87 ∧ g87 ≤ 20) ∧ (0 ≤ g88 ∧ g88 ≤ 8) ∧ (0 ≤ g89 ∧ g89 ≤ 7) ∧ (1 ≤ g90 ∧ g90 ≤ 30) ∧ (LnOk g91) ∧ (GdOk g92) ∧ (WkOk g93) ∧ (AI 0 99 g94) ∧ (AI 0 9 g95) ∧ (0 ≤ g98 ∧ g98 ≤ 20) ∧ (LnOk g99) ∧ (AI 0 99 g100) := hr2
    dsimp only [u10, u4, u5, u8]
    refine Sf.ite (fun hc3 => ?_) (fun hc3 => ?_)
    · exact Sf.inl (show (0 ≤ (z4 + 1)) ∧ (0 ≤ g87 ∧ g87 ≤ 20) ∧ (0 ≤ g88 ∧ g88 ≤ 8) ∧ (0 ≤ g89 ∧ g89 ≤ 7) ∧ (1 ≤ g90 ∧ g90 ≤ 30) ∧ (LnOk g91) ∧ (GdOk g92) ∧ (WkOk g93) ∧ (AI 0 99 g94) ∧ (AI 0 9 g95) ∧ (0 ≤ g98 ∧ g98 ≤ 20) ∧ (LnOk g99) ∧ (AI 0 99 g100) ∧ (AI 0 35 g78) ∧ (AI 0 35 g79) ∧ (AI 0 19 g81) ∧ (0 ≤ g84 ∧ g84 ≤ 60) from ⟨(by grind), h_g87, h_g88, h_g89, h_g90, h_g91, h_g92, h_g93, h_g94, h_g95, h_g98, h_g99, h_g100, h_g78, h_g79, h_g81, h_g84⟩) (muUp_lt' (B := 2147483647) (by grind))
    · exact Sf.inr (show (0 ≤ z4) ∧ (0 ≤ g87 ∧ g87 ≤ 20) ∧ (0 ≤ g88 ∧ g88 ≤ 8) ∧ (0 ≤ g89 ∧ g89 ≤ 7) ∧ (1 ≤ g90 ∧ g90 ≤ 30) ∧ (LnOk g91) ∧ (GdOk g92) ∧ (WkOk g93) ∧ (AI 0 99 g94) ∧ (AI 0 9 g95) ∧ (0 ≤ g98 ∧ g98 ≤ 20) ∧ (LnOk g99) ∧ (AI 0 99 g100) ∧ (AI 0 35 g78) ∧ (AI 0 35 g79) ∧ (AI 0 19 g81) ∧ (0 ≤ g84 ∧ g84 ≤ 60) from ⟨h_z4, h_g87, h_g88, h_g89, h_g90, h_g91, h_g92, h_g93, h_g94, h_g95, h_g98, h_g99, h_g100, h_g78, h_g79, h_g81, h_g84⟩)
theorem LX6_edge_s18 {n : Nat} {p1 : Int32} {x1_gained x2_knownFree : (Nat → Int32)} {x3_goodsCount x3_workCount x3_years : Int32} {x3_goods x3_works x3_coin x4_left x4_earned : (Nat → Int32)} {x4_turnCost x4_turnWayless : Int32} {x5_steps x5_nodes : (Nat → Int32)} {x5_stepCount : Int32} {x5_open : (Nat → Int32)} {x5_openCount : Int32} {x5_seen : Int64} {z4 z5 z6 z7 z8 : Int32} {z9 z10 z11 z12 z13 : (Nat → Int32)} {z14 z15 : Int32} {z16 z17 z18 : (Nat → Int32)} {z19 : Int32} {z20 z21 z22 z23 z24 z25 : (Nat → Int32)} {z26 z27 : Int32} (hn : 1000000000000 ≤ n) (h_p1 : (0 ≤ p1 ∧ p1 ≤ 6)) (h_x3_goodsCount : (0 ≤ x3_goodsCount ∧ x3_goodsCount ≤ 8)) (h_x3_workCount : (0 ≤ x3_workCount ∧ x3_workCount ≤ 7)) (h_x3_years : (1 ≤ x3_years ∧ x3_years ≤ 30)) (h_x3_goods : (GdOk x3_goods)) (h_x3_works : (WkOk x3_works)) (h_x3_coin : (AI 0 9 x3_coin)) (h_x5_steps : (AI 0 22 x5_steps)) (h_x5_nodes : (AI 0 35 x5_nodes)) (h_x5_stepCount : (0 ≤ x5_stepCount ∧ x5_stepCount ≤ 36)) (h_x5_open : (AI 0 35 x5_open)) (h_x5_openCount : (0 ≤ x5_openCount ∧ x5_openCount ≤ 36)) (h_z4 : (0 ≤ z4)) (h_z5 : (0 ≤ z5 ∧ z5 ≤ 20)) (h_z6 : (0 ≤ z6 ∧ z6 ≤ 8)) (h_z7 : (0 ≤ z7 ∧ z7 ≤ 7)) (h_z8 : (1 ≤ z8 ∧ z8 ≤ 30)) (h_z9 : (LnOk z9)) (h_z10 : (GdOk z10)) (h_z11 : (WkOk z11)) (h_z12 : (AI 0 99 z12)) (h_z13 : (AI 0 9 z13)) (h_z15 : (0 ≤ z15 ∧ z15 ≤ 20)) (h_z16 : (LnOk z16)) (h_z17 : (AI 0 99 z17)) (h_z20 : (AI 0 35 z20)) (h_z21 : (AI 0 35 z21)) (h_z23 : (AI 0 19 z23)) (h_z26 : (0 ≤ z26 ∧ z26 ≤ 60)) : Sf (lp (u24 (fX6_edge_s18 n p1 x1_gained x2_knownFree x3_goodsCount x3_workCount x3_years x3_goods x3_works x3_coin x4_left x4_earned x4_turnCost x4_turnWayless x5_steps x5_nodes x5_stepCount x5_open x5_openCount x5_seen)) n (z4, z5, z6, z7, z8, z9, z10, z11, z12, z13, z14, z15, z16, z17, z18, z19, z20, z21, z22, z23, z24, z25, z26, z27)) ((Sum.elim (fun a => (0 ≤ a.1) ∧ (0 ≤ a.2.1 ∧ a.2.1 ≤ 20) ∧ (0 ≤ a.2.2.1 ∧ a.2.2.1 ≤ 8) ∧ (0 ≤ a.2.2.2.1 ∧ a.2.2.2.1 ≤ 7) ∧ (1 ≤ a.2.2.2.2.1 ∧ a.2.2.2.2.1 ≤ 30) ∧ (LnOk a.2.2.2.2.2.1) ∧ (GdOk a.2.2.2.2.2.2.1) ∧ (WkOk a.2.2.2.2.2.2.2.1) ∧ (AI 0 99 a.2.2.2.2.2.2.2.2.1) ∧ (AI 0 9 a.2.2.2.2.2.2.2.2.2.1) ∧ (0 ≤ a.2.2.2.2.2.2.2.2.2.2.2.1 ∧ a.2.2.2.2.2.2.2.2.2.2.2.1 ≤ 20) ∧ (LnOk a.2.2.2.2.2.2.2.2.2.2.2.2.1) ∧ (AI 0 99 a.2.2.2.2.2.2.2.2.2.2.2.2.2.1) ∧ (AI 0 35 a.2.2.2.2.2.2.2.2.2.2.2.2.2.2.2.2.1) ∧ (AI 0 35 a.2.2.2.2.2.2.2.2.2.2.2.2.2.2.2.2.2.1) ∧ (AI 0 19 a.2.2.2.2.2.2.2.2.2.2.2.2.2.2.2.2.2.2.2.1) ∧ (0 ≤ a.2.2.2.2.2.2.2.2.2.2.2.2.2.2.2.2.2.2.2.2.2.2.1 ∧ a.2.2.2.2.2.2.2.2.2.2.2.2.2.2.2.2.2.2.2.2.2.2.1 ≤ 60)) (fun a => (0 ≤ a.1 ∧ a.1 ≤ 20) ∧ (0 ≤ a.2.1 ∧ a.2.1 ≤ 8) ∧ (0 ≤ a.2.2.1 ∧ a.2.2.1 ≤ 7) ∧ (1 ≤ a.2.2.2.1 ∧ a.2.2.2.1 ≤ 30) ∧ (LnOk a.2.2.2.2.1) ∧ (GdOk a.2.2.2.2.2.1) ∧ (WkOk a.2.2.2.2.2.2.1) ∧ (AI 0 99 a.2.2.2.2.2.2.2.1) ∧ (AI 0 9 a.2.2.2.2.2.2.2.2.1) ∧ (0 ≤ a.2.2.2.2.2.2.2.2.2.2.1 ∧ a.2.2.2.2.2.2.2.2.2.2.1 ≤ 20) ∧ (LnOk a.2.2.2.2.2.2.2.2.2.2.2.1) ∧ (AI 0 99 a.2.2.2.2.2.2.2.2.2.2.2.2.1) ∧ (AI 0 35 a.2.2.2.2.2.2.2.2.2.2.2.2.2.2.2.1) ∧ (AI 0 35 a.2.2.2.2.2.2.2.2.2.2.2.2.2.2.2.2.1) ∧ (AI 0 19 a.2.2.2.2.2.2.2.2.2.2.2.2.2.2.2.2.2.2.1) ∧ (0 ≤ a.2.2.2.2.2.2.2.2.2.2.2.2.2.2.2.2.2.2.2.2.2.1 ∧ a.2.2.2.2.2.2.2.2.2.2.2.2.2.2.2.2.2.2.2.2.2.1 ≤ 60)))) :=
  Sf.loop24 (fun z4 z5 z6 z7 z8 z9 z10 z11 z12 z13 z14 z15 z16 z17 z18 z19 z20 z21 z22 z23 z24 z25 z26 z27 => (0 ≤ z4) ∧ (0 ≤ z5 ∧ z5 ≤ 20) ∧ (0 ≤ z6 ∧ z6 ≤ 8) ∧ (0 ≤ z7 ∧ z7 ≤ 7) ∧ (1 ≤ z8 ∧ z8 ≤ 30) ∧ (LnOk z9) ∧ (GdOk z10) ∧ (WkOk z11) ∧ (AI 0 99 z12) ∧ (AI 0 9 z13) ∧ (0 ≤ z15 ∧ z15 ≤ 20) ∧ (LnOk z16) ∧ (AI 0 99 z17) ∧ (AI 0 35 z20) ∧ (AI 0 35 z21) ∧ (AI 0 19 z23) ∧ (0 ≤ z26 ∧ z26 ≤ 60)) (fun z4 z5 z6 z7 z8 z9 z10 z11 z12 z13 z14 z15 z16 z17 z18 z19 z20 z21 z22 z23 z24 z25 z26 z27 => muUp z4) (fun z4 z5 z6 z7 z8 z9 z10 z11 z12 z13 z14 z15 z16 z17 z18 z19 z20 z21 z22 z23 z24 z25 z26 z27 h => TX6_edge_s18 hn h_p1 h_x3_goodsCount h_x3_workCount h_x3_years h_x3_goods h_x3_works h_x3_coin h_x5_steps h_x5_nodes h_x5_stepCount h_x5_open h_x5_openCount h.1 h.2.1 h.2.2.1 h.2.2.2.1 h.2.2.2.2.1 h.2.2.2.2.2.1 h.2.2.2.2.2.2.1 h.2.2.2.2.2.2.2.1 h.2.2.2.2.2.2.2.2.1 h.2.2.2.2.2.2.2.2.2.1 h.2.2.2.2.2.2.2.2.2.2.1 h.2.2.2.2.2.2.2.2.2.2.2.1 h.2.2.2.2.2.2.2.2.2.2.2.2.1 h.2.2.2.2.2.2.2.2.2.2.2.2.2.1 h.2.2.2.2.2.2.2.2.2.2.2.2.2.2.1 h.2.2.2.2.2.2.2.2.2.2.2.2.2.2.2.1 h.2.2.2.2.2.2.2.2.2.2.2.2.2.2.2.2) (show (0 ≤ z4) ∧ (0 ≤ z5 ∧ z5 ≤ 20) ∧ (0 ≤ z6 ∧ z6 ≤ 8) ∧ (0 ≤ z7 ∧ z7 ≤ 7) ∧ (1 ≤ z8 ∧ z8 ≤ 30) ∧ (LnOk z9) ∧ (GdOk z10) ∧ (WkOk z11) ∧ (AI 0 99 z12) ∧ (AI 0 9 z13) ∧ (0 ≤ z15 ∧ z15 ≤ 20) ∧ (LnOk z16) ∧ (AI 0 99 z17) ∧ (AI 0 35 z20) ∧ (AI 0 35 z21) ∧ (AI 0 19 z23) ∧ (0 ≤ z26 ∧ z26 ≤ 60) from ⟨h_z4, h_z5, h_z6, h_z7, h_z8, h_z9, h_z10, h_z11, h_z12, h_z13, h_z15, h_z16, h_z17, h_z20, h_z21, h_z23, h_z26⟩) (muUp_n hn)
set_option maxHeartbeats 1000000 in
theorem sX6_edge {n : Nat} {x0_refused : (Nat → Int32)} {x0_isKept x0_gone x0_spent : Int32} {x1_gained : (Nat → Int32)} {x2_lineCount x2_goodsCount x2_workCount x2_years : Int32} {x2_lines x2_goods x2_works x2_change x2_coin x2_knownFree : (Nat → Int32)} {x2_isKnown x3_lineCount x3_goodsCount x3_workCount x3_years : Int32} {x3_lines x3_goods x3_works x3_change x3_coin x3_knownFree : (Nat → Int32)} {x3_isKnown : Int32} {x4_left x4_earned : (Nat → Int32)} {x4_turnCost x4_turnWayless : Int32} {x5_edgeA x5_edgeB x5_edgeCost x5_edgeLine x5_change x5_away x5_steps x5_nodes : (Nat → Int32)} {x5_stepCount : Int32} {x5_open : (Nat → Int32)} {x5_openCount : Int32} {x5_seen : Int64} {x5_edgeCount x5_aim p1 : Int32} (hn : 1000000000000 ≤ n) (h_x2_lineCount : (0 ≤ x2_lineCount ∧ x2_lineCount ≤ 20)) (h_x2_goodsCount : (0 ≤ x2_goodsCount ∧ x2_goodsCount ≤ 8)) (h_x2_workCount : (0 ≤ x2_workCount ∧ x2_workCount ≤ 7)) (h_x2_years : (1 ≤ x2_years ∧ x2_years ≤ 30)) (h_x2_lines : (LnOk x2_lines)) (h_x2_goods : (GdOk x2_goods)) (h_x2_works : (WkOk x2_works)) (h_x2_change : (AI 0 99 x2_change)) (h_x2_coin : (AI 0 9 x2_coin)) (h_x3_lineCount : (0 ≤ x3_lineCount ∧ x3_lineCount ≤ 20)) (h_x3_goodsCount : (0 ≤ x3_goodsCount ∧ x3_goodsCount ≤ 8)) (h_x3_workCount : (0 ≤ x3_workCount ∧ x3_workCount ≤ 7)) (h_x3_years : (1 ≤ x3_years ∧ x3_years ≤ 30)) (h_x3_lines : (LnOk x3_lines)) (h_x3_goods : (GdOk x3_goods)) (h_x3_works : (WkOk x3_works)) (h_x3_change : (AI 0 99 x3_change)) (h_x3_coin : (AI 0 9 x3_coin)) (h_x5_edgeA : (AI 0 35 x5_edgeA)) (h_x5_edgeB : (AI 0 35 x5_edgeB)) (h_x5_edgeLine : (AI 0 19 x5_edgeLine)) (h_x5_steps : (AI 0 22 x5_steps)) (h_x5_nodes : (AI 0 35 x5_nodes)) (h_x5_stepCount : (0 ≤ x5_stepCount ∧ x5_stepCount ≤ 36)) (h_x5_open : (AI 0 35 x5_open)) (h_x5_openCount : (0 ≤ x5_openCount ∧ x5_openCount ≤ 36)) (h_x5_edgeCount : (0 ≤ x5_edgeCount ∧ x5_edgeCount ≤ 60)) : Sf (fX6_edge n (x0_refused, x0_isKept, x0_gone, x0_spent) x1_gained (x2_lineCount, x2_goodsCount, x2_workCount, x2_years, x2_lines, x2_goods, x2_works, x2_change, x2_coin, x2_knownFree, x2_isKnown) (x3_lineCount, x3_goodsCount, x3_workCount, x3_years, x3_lines, x3_goods, x3_works, x3_change, x3_coin, x3_knownFree, x3_isKnown) (x4_left, x4_earned, x4_turnCost, x4_turnWayless) (x5_edgeA, x5_edgeB, x5_edgeCost, x5_edgeLine, x5_change, x5_away, x5_steps, x5_nodes, x5_stepCount, x5_open, x5_openCount, x5_seen, x5_edgeCount, x5_aim) p1) (fun r => (0 ≤ r.2.2.1.1 ∧ r.2.2.1.1 ≤ 20) ∧ (0 ≤ r.2.2.1.2.1 ∧ r.2.2.1.2.1 ≤ 8) ∧ (0 ≤ r.2.2.1.2.2.1 ∧ r.2.2.1.2.2.1 ≤ 7) ∧ (1 ≤ r.2.2.1.2.2.2.1 ∧ r.2.2.1.2.2.2.1 ≤ 30) ∧ (LnOk r.2.2.1.2.2.2.2.1) ∧ (GdOk r.2.2.1.2.2.2.2.2.1) ∧ (WkOk r.2.2.1.2.2.2.2.2.2.1) ∧ (AI 0 99 r.2.2.1.2.2.2.2.2.2.2.1) ∧ (AI 0 9 r.2.2.1.2.2.2.2.2.2.2.2.1) ∧ (0 ≤ r.2.2.2.1.1 ∧ r.2.2.2.1.1 ≤ 20) ∧ (LnOk r.2.2.2.1.2.1) ∧ (AI 0 99 r.2.2.2.1.2.2.1) ∧ (AI 0 35 r.2.2.2.2.1) ∧ (AI 0 35 r.2.2.2.2.2.1) ∧ (AI 0 19 r.2.2.2.2.2.2.2.1) ∧ (0 ≤ r.2.2.2.2.2.2.2.2.2.2.1 ∧ r.2.2.2.2.2.2.2.2.2.2.1 ≤ 60)) := by
  unfold fX6_edge
  dsimp only [u11, u14, u4]
  refine Sf.bind (sX6_noChoice h_x3_lineCount h_x3_goodsCount h_x3_workCount h_x3_years h_x3_lines h_x3_goods h_x3_works h_x3_change h_x3_coin) ?_
  intro v1 hr1
  have hx_v1 : (v1 ≠ 0 ∨ (0 ≤ p1 ∧ p1 < x3_workCount)) := hr1
  refine Sf.ite (fun hc2 => ?_) (fun hc2 => ?_)
  · refine Sf.bindS (LX6_edge_s18 hn (by grind) h_x3_goodsCount h_x3_workCount h_x3_years h_x3_goods h_x3_works h_x3_coin h_x5_steps h_x5_nodes h_x5_stepCount h_x5_open h_x5_openCount (by decide) h_x2_lineCount h_x2_goodsCount h_x2_workCount h_x2_years h_x2_lines h_x2_goods h_x2_works h_x2_change h_x2_coin h_x3_lineCount h_x3_lines h_x3_change h_x5_edgeA h_x5_edgeB h_x5_edgeLine h_x5_edgeCount) ?_ ?_
    · rintro ⟨w29, w30, w31, w32, w33, w34, w35, w36, w37, w38, w39, w40, w41, w42, w43, w44, w45, w46, w47, w48, w49, w50, w51, w52⟩ hr3
      obtain ⟨h_w29, h_w30, h_w31, h_w32, h_w33, h_w34, h_w35, h_w36, h_w37, h_w38, h_w40, h_w41, h_w42, h_w45, h_w46, h_w48, h_w51⟩ : (0 ≤ w29) ∧ (0 ≤ w30 ∧ w30 ≤ 20) ∧ (0 ≤ w31 ∧ w31 ≤ 8) ∧ (0 ≤ w32 ∧ w32 ≤ 7) ∧ (1 ≤ w33 ∧ w33 ≤ 30) ∧ (LnOk w34) ∧ (GdOk w35) ∧ (WkOk w36) ∧ (AI 0 99 w37) ∧ (AI 0 9 w38) ∧ (0 ≤ w40 ∧ w40 ≤ 20) ∧ (LnOk w41) ∧ (AI 0 99 w42) ∧ (AI 0 35 w45) ∧ (AI 0 35 w46) ∧ (AI 0 19 w48) ∧ (0 ≤ w51 ∧ w51 ≤ 60) := hr3
      dsimp only [u24]
      exact Sf.ok (show (0 ≤ w30 ∧ w30 ≤ 20) ∧ (0 ≤ w31 ∧ w31 ≤ 8) ∧ (0 ≤ w32 ∧ w32 ≤ 7) ∧ (1 ≤ w33 ∧ w33 ≤ 30) ∧ (LnOk w34) ∧ (GdOk w35) ∧ (WkOk w36) ∧ (AI 0 99 w37) ∧ (AI 0 9 w38) ∧ (0 ≤ w40 ∧ w40 ≤ 20) ∧ (LnOk w41) ∧ (AI 0 99 w42) ∧ (AI 0 35 w45) ∧ (AI 0 35 w46) ∧ (AI 0 19 w48) ∧ (0 ≤ w51 ∧ w51 ≤ 60) from ⟨h_w30, h_w31, h_w32, h_w33, h_w34, h_w35, h_w36, h_w37, h_w38, h_w40, h_w41, h_w42, h_w45, h_w46, h_w48, h_w51⟩)
    · rintro ⟨w53, w54, w55, w56, w57, w58, w59, w60, w61, w62, w63, w64, w65, w66, w67, w68, w69, w70, w71, w72, w73, w74, w75⟩ hr4
      obtain ⟨h_w53, h_w54, h_w55, h_w56, h_w57, h_w58, h_w59, h_w60, h_w61, h_w63, h_w64, h_w65, h_w68, h_w69, h_w71, h_w74⟩ : (0 ≤ w53 ∧ w53 ≤ 20) ∧ (0 ≤ w54 ∧ w54 ≤ 8) ∧ (0 ≤ w55 ∧ w55 ≤ 7) ∧ (1 ≤ w56 ∧ w56 ≤ 30) ∧ (LnOk w57) ∧ (GdOk w58) ∧ (WkOk w59) ∧ (AI 0 99 w60) ∧ (AI 0 9 w61) ∧ (0 ≤ w63 ∧ w63 ≤ 20) ∧ (LnOk w64) ∧ (AI 0 99 w65) ∧ (AI 0 35 w68) ∧ (AI 0 35 w69) ∧ (AI 0 19 w71) ∧ (0 ≤ w74 ∧ w74 ≤ 60) := hr4
      dsimp only [u23]
      exact Sf.ok (show (0 ≤ w53 ∧ w53 ≤ 20) ∧ (0 ≤ w54 ∧ w54 ≤ 8) ∧ (0 ≤ w55 ∧ w55 ≤ 7) ∧ (1 ≤ w56 ∧ w56 ≤ 30) ∧ (LnOk w57) ∧ (GdOk w58) ∧ (WkOk w59) ∧ (AI 0 99 w60) ∧ (AI 0 9 w61) ∧ (0 ≤ w63 ∧ w63 ≤ 20) ∧ (LnOk w64) ∧ (AI 0 99 w65) ∧ (AI 0 35 w68) ∧ (AI 0 35 w69) ∧ (AI 0 19 w71) ∧ (0 ≤ w74 ∧ w74 ≤ 60) from ⟨h_w53, h_w54, h_w55, h_w56, h_w57, h_w58, h_w59, h_w60, h_w61, h_w63, h_w64, h_w65, h_w68, h_w69, h_w71, h_w74⟩)
  · refine Sf.bind (sX6_refuse ) ?_
    rintro ⟨v104, g105⟩ hr5
    dsimp only [u2]
    exact Sf.ok (show (0 ≤ x2_lineCount ∧ x2_lineCount ≤ 20) ∧ (0 ≤ x2_goodsCount ∧ x2_goodsCount ≤ 8) ∧ (0 ≤ x2_workCount ∧ x2_workCount ≤ 7) ∧ (1 ≤ x2_years ∧ x2_years ≤ 30) ∧ (LnOk x2_lines) ∧ (GdOk x2_goods) ∧ (WkOk x2_works) ∧ (AI 0 99 x2_change) ∧ (AI 0 9 x2_coin) ∧ (0 ≤ x3_lineCount ∧ x3_lineCount ≤ 20) ∧ (LnOk x3_lines) ∧ (AI 0 99 x3_change) ∧ (AI 0 35 x5_edgeA) ∧ (AI 0 35 x5_edgeB) ∧ (AI 0 19 x5_edgeLine) ∧ (0 ≤ x5_edgeCount ∧ x5_edgeCount ≤ 60) from ⟨h_x2_lineCount, h_x2_goodsCount, h_x2_workCount, h_x2_years, h_x2_lines, h_x2_goods, h_x2_works, h_x2_change, h_x2_coin, h_x3_lineCount, h_x3_lines, h_x3_change, h_x5_edgeA, h_x5_edgeB, h_x5_edgeLine, h_x5_edgeCount⟩)
set_option maxHeartbeats 1000000 in
theorem sX6_never {n : Nat} {x0_refused : (Nat → Int32)} {x0_isKept x0_gone x0_spent : Int32} {x1_gained : (Nat → Int32)} {x2_lineCount x2_goodsCount x2_workCount x2_years : Int32} {x2_lines x2_goods x2_works x2_change x2_coin x2_knownFree : (Nat → Int32)} {x2_isKnown x3_lineCount x3_goodsCount x3_workCount x3_years : Int32} {x3_lines x3_goods x3_works x3_change x3_coin x3_knownFree : (Nat → Int32)} {x3_isKnown : Int32} {x4_left x4_earned : (Nat → Int32)} {x4_turnCost x4_turnWayless : Int32} {x5_edgeA x5_edgeB x5_edgeCost x5_edgeLine x5_change x5_away x5_steps x5_nodes : (Nat → Int32)} {x5_stepCount : Int32} {x5_open : (Nat → Int32)} {x5_openCount : Int32} {x5_seen : Int64} {x5_edgeCount x5_aim : Int32} (hn : 1000000000000 ≤ n) (h_x2_lineCount : (0 ≤ x2_lineCount ∧ x2_lineCount ≤ 20)) (h_x2_goodsCount : (0 ≤ x2_goodsCount ∧ x2_goodsCount ≤ 8)) (h_x2_workCount : (0 ≤ x2_workCount ∧ x2_workCount ≤ 7)) (h_x2_years : (1 ≤ x2_years ∧ x2_years ≤ 30)) (h_x2_lines : (LnOk x2_lines)) (h_x2_goods : (GdOk x2_goods)) (h_x2_works : (WkOk x2_works)) (h_x2_change : (AI 0 99 x2_change)) (h_x2_coin : (AI 0 9 x2_coin)) (h_x3_lineCount : (0 ≤ x3_lineCount ∧ x3_lineCount ≤ 20)) (h_x3_goodsCount : (0 ≤ x3_goodsCount ∧ x3_goodsCount ≤ 8)) (h_x3_workCount : (0 ≤ x3_workCount ∧ x3_workCount ≤ 7)) (h_x3_years : (1 ≤ x3_years ∧ x3_years ≤ 30)) (h_x3_lines : (LnOk x3_lines)) (h_x3_goods : (GdOk x3_goods)) (h_x3_works : (WkOk x3_works)) (h_x3_change : (AI 0 99 x3_change)) (h_x3_coin : (AI 0 9 x3_coin)) (h_x5_edgeA : (AI 0 35 x5_edgeA)) (h_x5_edgeB : (AI 0 35 x5_edgeB)) (h_x5_edgeLine : (AI 0 19 x5_edgeLine)) (h_x5_steps : (AI 0 22 x5_steps)) (h_x5_nodes : (AI 0 35 x5_nodes)) (h_x5_stepCount : (0 ≤ x5_stepCount ∧ x5_stepCount ≤ 36)) (h_x5_open : (AI 0 35 x5_open)) (h_x5_openCount : (0 ≤ x5_openCount ∧ x5_openCount ≤ 36)) (h_x5_edgeCount : (0 ≤ x5_edgeCount ∧ x5_edgeCount ≤ 60)) : Sf (fX6_never n (x0_refused, x0_isKept, x0_gone, x0_spent) x1_gained (x2_lineCount, x2_goodsCount, x2_workCount, x2_years, x2_lines, x2_goods, x2_works, x2_change, x2_coin, x2_knownFree, x2_isKnown) (x3_lineCount, x3_goodsCount, x3_workCount, x3_years, x3_lines, x3_goods, x3_works, x3_change, x3_coin, x3_knownFree, x3_isKnown) (x4_left, x4_earned, x4_turnCost, x4_turnWayless) (x5_edgeA, x5_edgeB, x5_edgeCost, x5_edgeLine, x5_change, x5_away, x5_steps, x5_nodes, x5_stepCount, x5_open, x5_openCount, x5_seen, x5_edgeCount, x5_aim)) (fun r => (0 ≤ r.2.1.1 ∧ r.2.1.1 ≤ 20) ∧ (0 ≤ r.2.1.2.1 ∧ r.2.1.2.1 ≤ 8) ∧ (0 ≤ r.2.1.2.2.1 ∧ r.2.1.2.2.1 ≤ 7) ∧ (1 ≤ r.2.1.2.2.2.1 ∧ r.2.1.2.2.2.1 ≤ 30) ∧ (LnOk r.2.1.2.2.2.2.1) ∧ (GdOk r.2.1.2.2.2.2.2.1) ∧ (WkOk r.2.1.2.2.2.2.2.2.1) ∧ (AI 0 99 r.2.1.2.2.2.2.2.2.2.1) ∧ (AI 0 9 r.2.1.2.2.2.2.2.2.2.2.1) ∧ (0 ≤ r.2.2.1.1 ∧ r.2.2.1.1 ≤ 20) ∧ (LnOk r.2.2.1.2.1) ∧ (AI 0 99 r.2.2.1.2.2.1) ∧ (AI 0 35 r.2.2.2.1) ∧ (AI 0 35 r.2.2.2.2.1) ∧ (AI 0 19 r.2.2.2.2.2.2.1) ∧ (0 ≤ r.2.2.2.2.2.2.2.2.2.1 ∧ r.2.2.2.2.2.2.2.2.2.1 ≤ 60)) := by
  unfold fX6_never
  dsimp only [u11, u14, u4]
  refine Sf.bind (sX0_neverOf hn h_x5_edgeA h_x5_edgeB h_x5_edgeLine h_x5_steps h_x5_nodes h_x5_stepCount h_x5_open h_x5_openCount h_x5_edgeCount h_x2_lineCount h_x2_goodsCount h_x2_workCount h_x2_years h_x2_lines h_x2_goods h_x2_works h_x2_change h_x2_coin h_x3_lineCount h_x3_goodsCount h_x3_workCount h_x3_years h_x3_lines h_x3_goods h_x3_works h_x3_change h_x3_coin) ?_
  rintro ⟨v1, ⟨g3, g4, g5, g6, g7, g8, g9, g10⟩, ⟨g12, g13, g14, g15, g16, g17, g18, g19, g20, g21⟩, ⟨g23, g24, g25, g26, g27⟩⟩ hr1
  obtain ⟨h_g3, h_g4, h_g6, h_g9, h_g12, h_g13, h_g14, h_g15, h_g16, h_g17, h_g18, h_g19, h_g20, h_g23, h_g24, h_g25⟩ : (AI 0 35 g3) ∧ (AI 0 35 g4) ∧ (AI 0 19 g6) ∧ (0 ≤ g9 ∧ g9 ≤ 60) ∧ (0 ≤ g12 ∧ g12 ≤ 20) ∧ (0 ≤ g13 ∧ g13 ≤ 8) ∧ (0 ≤ g14 ∧ g14 ≤ 7) ∧ (1 ≤ g15 ∧ g15 ≤ 30) ∧ (LnOk g16) ∧ (GdOk g17) ∧ (WkOk g18) ∧ (AI 0 99 g19) ∧ (AI 0 9 g20) ∧ (0 ≤ g23 ∧ g23 ≤ 20) ∧ (LnOk g24) ∧ (AI 0 99 g25) := hr1
  dsimp only [u10, u4, u5, u8]
  exact Sf.ok (show (0 ≤ g12 ∧ g12 ≤ 20) ∧ (0 ≤ g13 ∧ g13 ≤ 8) ∧ (0 ≤ g14 ∧ g14 ≤ 7) ∧ (1 ≤ g15 ∧ g15 ≤ 30) ∧ (LnOk g16) ∧ (GdOk g17) ∧ (WkOk g18) ∧ (AI 0 99 g19) ∧ (AI 0 9 g20) ∧ (0 ≤ g23 ∧ g23 ≤ 20) ∧ (LnOk g24) ∧ (AI 0 99 g25) ∧ (AI 0 35 g3) ∧ (AI 0 35 g4) ∧ (AI 0 19 g6) ∧ (0 ≤ g9 ∧ g9 ≤ 60) from ⟨h_g12, h_g13, h_g14, h_g15, h_g16, h_g17, h_g18, h_g19, h_g20, h_g23, h_g24, h_g25, h_g3, h_g4, h_g6, h_g9⟩)
set_option maxHeartbeats 1000000 in
theorem sX6_one {n : Nat} {x0_refused : (Nat → Int32)} {x0_isKept x0_gone x0_spent : Int32} {x1_gained : (Nat → Int32)} {x2_lineCount x2_goodsCount x2_workCount x2_years : Int32} {x2_lines x2_goods x2_works x2_change x2_coin x2_knownFree : (Nat → Int32)} {x2_isKnown x3_lineCount x3_goodsCount x3_workCount x3_years : Int32} {x3_lines x3_goods x3_works x3_change x3_coin x3_knownFree : (Nat → Int32)} {x3_isKnown : Int32} {x4_left x4_earned : (Nat → Int32)} {x4_turnCost x4_turnWayless : Int32} {x5_edgeA x5_edgeB x5_edgeCost x5_edgeLine x5_change x5_away x5_steps x5_nodes : (Nat → Int32)} {x5_stepCount : Int32} {x5_open : (Nat → Int32)} {x5_openCount : Int32} {x5_seen : Int64} {x5_edgeCount x5_aim p1 p2 : Int32} (hn : 1000000000000 ≤ n) (h_x2_lineCount : (0 ≤ x2_lineCount ∧ x2_lineCount ≤ 20)) (h_x2_goodsCount : (0 ≤ x2_goodsCount ∧ x2_goodsCount ≤ 8)) (h_x2_workCount : (0 ≤ x2_workCount ∧ x2_workCount ≤ 7)) (h_x2_years : (1 ≤ x2_years ∧ x2_years ≤ 30)) (h_x2_lines : (LnOk x2_lines)) (h_x2_goods : (GdOk x2_goods)) (h_x2_works : (WkOk x2_works)) (h_x2_change : (AI 0 99 x2_change)) (h_x2_coin : (AI 0 9 x2_coin)) (h_x3_lineCount : (0 ≤ x3_lineCount ∧ x3_lineCount ≤ 20)) (h_x3_goodsCount : (0 ≤ x3_goodsCount ∧ x3_goodsCount ≤ 8)) (h_x3_workCount : (0 ≤ x3_workCount ∧ x3_workCount ≤ 7)) (h_x3_years : (1 ≤ x3_years ∧ x3_years ≤ 30)) (h_x3_lines : (LnOk x3_lines)) (h_x3_goods : (GdOk x3_goods)) (h_x3_works : (WkOk x3_works)) (h_x3_change : (AI 0 99 x3_change)) (h_x3_coin : (AI 0 9 x3_coin)) (h_x5_edgeA : (AI 0 35 x5_edgeA)) (h_x5_edgeB : (AI 0 35 x5_edgeB)) (h_x5_edgeLine : (AI 0 19 x5_edgeLine)) (h_x5_steps : (AI 0 22 x5_steps)) (h_x5_nodes : (AI 0 35 x5_nodes)) (h_x5_stepCount : (0 ≤ x5_stepCount ∧ x5_stepCount ≤ 36)) (h_x5_open : (AI 0 35 x5_open)) (h_x5_openCount : (0 ≤ x5_openCount ∧ x5_openCount ≤ 36)) (h_x5_edgeCount : (0 ≤ x5_edgeCount ∧ x5_edgeCount ≤ 60)) : Sf (fX6_one n (x0_refused, x0_isKept, x0_gone, x0_spent) x1_gained (x2_lineCount, x2_goodsCount, x2_workCount, x2_years, x2_lines, x2_goods, x2_works, x2_change, x2_coin, x2_knownFree, x2_isKnown) (x3_lineCount, x3_goodsCount, x3_workCount, x3_years, x3_lines, x3_goods, x3_works, x3_change, x3_coin, x3_knownFree, x3_isKnown) (x4_left, x4_earned, x4_turnCost, x4_turnWayless) (x5_edgeA, x5_edgeB, x5_edgeCost, x5_edgeLine, x5_change, x5_away, x5_steps, x5_nodes, x5_stepCount, x5_open, x5_openCount, x5_seen, x5_edgeCount, x5_aim) p1 p2) (fun r => (0 ≤ r.2.2.1.1 ∧ r.2.2.1.1 ≤ 20) ∧ (0 ≤ r.2.2.1.2.1 ∧ r.2.2.1.2.1 ≤ 8) ∧ (0 ≤ r.2.2.1.2.2.1 ∧ r.2.2.1.2.2.1 ≤ 7) ∧ (1 ≤ r.2.2.1.2.2.2.1 ∧ r.2.2.1.2.2.2.1 ≤ 30) ∧ (LnOk r.2.2.1.2.2.2.2.1) ∧ (GdOk r.2.2.1.2.2.2.2.2.1) ∧ (WkOk r.2.2.1.2.2.2.2.2.2.1) ∧ (AI 0 99 r.2.2.1.2.2.2.2.2.2.2.1) ∧ (AI 0 9 r.2.2.1.2.2.2.2.2.2.2.2.1) ∧ (AI 0 35 r.2.2.2.1) ∧ (AI 0 35 r.2.2.2.2.1) ∧ (AI 0 19 r.2.2.2.2.2.2.1) ∧ (0 ≤ r.2.2.2.2.2.2.2.2.2.1 ∧ r.2.2.2.2.2.2.2.2.2.1 ≤ 60)) := by
  unfold fX6_one
  dsimp only [u11, u14, u4]
  refine Sf.bind (sX6_within ) ?_
  intro v1 hr1
  have hx_v1 : ((v1 = 1 ∧ 0 ≤ p1 ∧ p1 ≤ 2) ∨ (v1 = 0 ∧ (p1 < 0 ∨ 2 < p1))) := hr1
  refine Sf.ite (fun hc2 => ?_) (fun hc2 => ?_)
  · refine Sf.bind (sX6_refuse ) ?_
    rintro ⟨v3, g4⟩ hr3
    dsimp only [u2]
    exact Sf.ok (show (0 ≤ x2_lineCount ∧ x2_lineCount ≤ 20) ∧ (0 ≤ x2_goodsCount ∧ x2_goodsCount ≤ 8) ∧ (0 ≤ x2_workCount ∧ x2_workCount ≤ 7) ∧ (1 ≤ x2_years ∧ x2_years ≤ 30) ∧ (LnOk x2_lines) ∧ (GdOk x2_goods) ∧ (WkOk x2_works) ∧ (AI 0 99 x2_change) ∧ (AI 0 9 x2_coin) ∧ (AI 0 35 x5_edgeA) ∧ (AI 0 35 x5_edgeB) ∧ (AI 0 19 x5_edgeLine) ∧ (0 ≤ x5_edgeCount ∧ x5_edgeCount ≤ 60) from ⟨h_x2_lineCount, h_x2_goodsCount, h_x2_workCount, h_x2_years, h_x2_lines, h_x2_goods, h_x2_works, h_x2_change, h_x2_coin, h_x5_edgeA, h_x5_edgeB, h_x5_edgeLine, h_x5_edgeCount⟩)
  · refine Sf.bind (sX6_within ) ?_
    intro v6 hr4
    have hx_v6 : ((v6 = 1 ∧ 0 ≤ p2 ∧ p2 ≤ 99) ∨ (v6 = 0 ∧ (p2 < 0 ∨ 99 < p2))) := hr4
    refine Sf.ite (fun hc5 => ?_) (fun hc5 => ?_)
    · refine Sf.bind (sX6_refuse ) ?_
      rintro ⟨v30, g31⟩ hr6
      dsimp only [u2]
      exact Sf.ok (show (0 ≤ x2_lineCount ∧ x2_lineCount ≤ 20) ∧ (0 ≤ x2_goodsCount ∧ x2_goodsCount ≤ 8) ∧ (0 ≤ x2_workCount ∧ x2_workCount ≤ 7) ∧ (1 ≤ x2_years ∧ x2_years ≤ 30) ∧ (LnOk x2_lines) ∧ (GdOk x2_goods) ∧ (WkOk x2_works) ∧ (AI 0 99 x2_change) ∧ (AI 0 9 x2_coin) ∧ (AI 0 35 x5_edgeA) ∧ (AI 0 35 x5_edgeB) ∧ (AI 0 19 x5_edgeLine) ∧ (0 ≤ x5_edgeCount ∧ x5_edgeCount ≤ 60) from ⟨h_x2_lineCount, h_x2_goodsCount, h_x2_workCount, h_x2_years, h_x2_lines, h_x2_goods, h_x2_works, h_x2_change, h_x2_coin, h_x5_edgeA, h_x5_edgeB, h_x5_edgeLine, h_x5_edgeCount⟩)
    · refine Sf.bind (sX0_costOfWidth hn h_x5_edgeA h_x5_edgeB h_x5_edgeLine h_x5_steps h_x5_nodes h_x5_stepCount h_x5_open h_x5_openCount h_x5_edgeCount h_x2_lineCount h_x2_goodsCount h_x2_workCount h_x2_years h_x2_lines h_x2_goods h_x2_works h_x2_change h_x2_coin h_x3_lineCount h_x3_goodsCount h_x3_workCount h_x3_years h_x3_lines h_x3_goods h_x3_works h_x3_change h_x3_coin (by grind)) ?_
      rintro ⟨v8, ⟨g10, g11, g12, g13, g14, g15, g16, g17⟩, ⟨g19, g20, g21, g22, g23, g24, g25, g26, g27, g28⟩⟩ hr7
      obtain ⟨h_g10, h_g11, h_g13, h_g16, h_g19, h_g20, h_g21, h_g22, h_g23, h_g24, h_g25, h_g26, h_g27⟩ : (AI 0 35 g10) ∧ (AI 0 35 g11) ∧ (AI 0 19 g13) ∧ (0 ≤ g16 ∧ g16 ≤ 60) ∧ (0 ≤ g19 ∧ g19 ≤ 20) ∧ (0 ≤ g20 ∧ g20 ≤ 8) ∧ (0 ≤ g21 ∧ g21 ≤ 7) ∧ (1 ≤ g22 ∧ g22 ≤ 30) ∧ (LnOk g23) ∧ (GdOk g24) ∧ (WkOk g25) ∧ (AI 0 99 g26) ∧ (AI 0 9 g27) := hr7
      dsimp only [u10, u3, u8]
      exact Sf.ok (show (0 ≤ g19 ∧ g19 ≤ 20) ∧ (0 ≤ g20 ∧ g20 ≤ 8) ∧ (0 ≤ g21 ∧ g21 ≤ 7) ∧ (1 ≤ g22 ∧ g22 ≤ 30) ∧ (LnOk g23) ∧ (GdOk g24) ∧ (WkOk g25) ∧ (AI 0 99 g26) ∧ (AI 0 9 g27) ∧ (AI 0 35 g10) ∧ (AI 0 35 g11) ∧ (AI 0 19 g13) ∧ (0 ≤ g16 ∧ g16 ≤ 60) from ⟨h_g19, h_g20, h_g21, h_g22, h_g23, h_g24, h_g25, h_g26, h_g27, h_g10, h_g11, h_g13, h_g16⟩)
theorem TX6_which_s36 {n : Nat} {p1 : Int32} {x1_gained x2_knownFree : (Nat → Int32)} {x3_lineCount x3_goodsCount x3_workCount x3_years : Int32} {x3_lines x3_goods x3_works x3_change x3_coin x3_knownFree : (Nat → Int32)} {x3_isKnown : Int32} {x4_left x4_earned : (Nat → Int32)} {x4_turnCost x4_turnWayless : Int32} {x5_steps x5_nodes : (Nat → Int32)} {x5_stepCount : Int32} {x5_open : (Nat → Int32)} {x5_openCount : Int32} {x5_seen : Int64} {z26 z27 z28 z29 z30 z31 z32 : Int32} {z33 z34 z35 z36 z37 : (Nat → Int32)} {z38 : Int32} {z39 z40 z41 z42 z43 z44 : (Nat → Int32)} {z45 z46 : Int32} (hn : 1000000000000 ≤ n) (h_x3_lineCount : (0 ≤ x3_lineCount ∧ x3_lineCount ≤ 20)) (h_x3_goodsCount : (0 ≤ x3_goodsCount ∧ x3_goodsCount ≤ 8)) (h_x3_workCount : (0 ≤ x3_workCount ∧ x3_workCount ≤ 7)) (h_x3_years : (1 ≤ x3_years ∧ x3_years ≤ 30)) (h_x3_lines : (LnOk x3_lines)) (h_x3_goods : (GdOk x3_goods)) (h_x3_works : (WkOk x3_works)) (h_x3_change : (AI 0 99 x3_change)) (h_x3_coin : (AI 0 9 x3_coin)) (h_x5_steps : (AI 0 22 x5_steps)) (h_x5_nodes : (AI 0 35 x5_nodes)) (h_x5_stepCount : (0 ≤ x5_stepCount ∧ x5_stepCount ≤ 36)) (h_x5_open : (AI 0 35 x5_open)) (h_x5_openCount : (0 ≤ x5_openCount ∧ x5_openCount ≤ 36)) (h_z28 : (0 ≤ z28)) (h_z29 : (0 ≤ z29 ∧ z29 ≤ 20)) (h_z30 : (0 ≤ z30 ∧ z30 ≤ 8)) (h_z31 : (0 ≤ z31 ∧ z31 ≤ 7)) (h_z32 : (1 ≤ z32 ∧ z32 ≤ 30)) (h_z33 : (LnOk z33)) (h_z34 : (GdOk z34)) (h_z35 : (WkOk z35)) (h_z36 : (AI 0 99 z36)) (h_z37 : (AI 0 9 z37)) (h_z39 : (AI 0 35 z39)) (h_z40 : (AI 0 35 z40)) (h_z42 : (AI 0 19 z42)) (h_z45 : (0 ≤ z45 ∧ z45 ≤ 60)) : Sf (fX6_which_s36 n p1 x1_gained x2_knownFree x3_lineCount x3_goodsCount x3_workCount x3_years x3_lines x3_goods x3_works x3_change x3_coin x3_knownFree x3_isKnown x4_left x4_earned x4_turnCost x4_turnWayless x5_steps x5_nodes x5_stepCount x5_open x5_openCount x5_seen z26 z27 z28 z29 z30 z31 z32 z33 z34 z35 z36 z37 z38 z39 z40 z41 z42 z43 z44 z45 z46) (LQ (u21 (fun z26 z27 z28 z29 z30 z31 z32 z33 z34 z35 z36 z37 z38 z39 z40 z41 z42 z43 z44 z45 z46 => (0 ≤ z28) ∧ (0 ≤ z29 ∧ z29 ≤ 20) ∧ (0 ≤ z30 ∧ z30 ≤ 8) ∧ (0 ≤ z31 ∧ z31 ≤ 7) ∧ (1 ≤ z32 ∧ z32 ≤ 30) ∧ (LnOk z33) ∧ (GdOk z34) ∧ (WkOk z35) ∧ (AI 0 99 z36) ∧ (AI 0 9 z37) ∧ (AI 0 35 z39) ∧ (AI 0 35 z40) ∧ (AI 0 19 z42) ∧ (0 ≤ z45 ∧ z45 ≤ 60))) (u21 (fun z26 z27 z28 z29 z30 z31 z32 z33 z34 z35 z36 z37 z38 z39 z40 z41 z42 z43 z44 z45 z46 => muUp z28)) (muUp z28) (fun e => (0 ≤ e.2.1 ∧ e.2.1 ≤ 20) ∧ (0 ≤ e.2.2.1 ∧ e.2.2.1 ≤ 8) ∧ (0 ≤ e.2.2.2.1 ∧ e.2.2.2.1 ≤ 7) ∧ (1 ≤ e.2.2.2.2.1 ∧ e.2.2.2.2.1 ≤ 30) ∧ (LnOk e.2.2.2.2.2.1) ∧ (GdOk e.2.2.2.2.2.2.1) ∧ (WkOk e.2.2.2.2.2.2.2.1) ∧ (AI 0 99 e.2.2.2.2.2.2.2.2.1) ∧ (AI 0 9 e.2.2.2.2.2.2.2.2.2.1) ∧ (AI 0 35 e.2.2.2.2.2.2.2.2.2.2.2.1) ∧ (AI 0 35 e.2.2.2.2.2.2.2.2.2.2.2.2.1) ∧ (AI 0 19 e.2.2.2.2.2.2.2.2.2.2.2.2.2.2.1) ∧ (0 ≤ e.2.2.2.2.2.2.2.2.2.2.2.2.2.2.2.2.2.1 ∧ e.2.2.2.2.2.2.2.2.2.2.2.2.2.2.2.2.2.1 ≤ 60))) := by
  unfold fX6_which_s36
  refine Sf.ite (fun hc1 => ?_) (fun hc1 => ?_)
  · exact Sf.inr (show (0 ≤ z29 ∧ z29 ≤ 20) ∧ (0 ≤ z30 ∧ z30 ≤ 8) ∧ (0 ≤ z31 ∧ z31 ≤ 7) ∧ (1 ≤ z32 ∧ z32 ≤ 30) ∧ (LnOk z33) ∧ (GdOk z34) ∧ (WkOk z35) ∧ (AI 0 99 z36) ∧ (AI 0 9 z37) ∧ (AI 0 35 z39) ∧ (AI 0 35 z40) ∧ (AI 0 19 z42) ∧ (0 ≤ z45 ∧ z45 ≤ 60) from ⟨h_z29, h_z30, h_z31, h_z32, h_z33, h_z34, h_z35, h_z36, h_z37, h_z39, h_z40, h_z42, h_z45⟩)
  · refine Sf.bind (sX0_costOfWidth hn h_z39 h_z40 h_z42 h_x5_steps h_x5_nodes h_x5_stepCount h_x5_open h_x5_openCount h_z45 h_z29 h_z30 h_z31 h_z32 h_z33 h_z34 h_z35 h_z36 h_z37 h_x3_lineCount h_x3_goodsCount h_x3_workCount h_x3_years h_x3_lines h_x3_goods h_x3_works h_x3_change h_x3_coin (by grind)) ?_
    rintro ⟨v67, ⟨g69, g70, g71, g72, g73, g74, g75, g76⟩, ⟨g78, g79, g80, g81, g82, g83, g84, g85, g86, g87⟩⟩ hr2
    obtain ⟨h_g69, h_g70, h_g72, h_g75, h_g78, h_g79, h_g80, h_g81, h_g82, h_g83, h_g84, h_g85, h_g86⟩ : (AI 0 35 g69) ∧ (AI 0 35 g70) ∧ (AI 0 19 g72) ∧ (0 ≤ g75 ∧ g75 ≤ 60) ∧ (0 ≤ g78 ∧ g78 ≤ 20) ∧ (0 ≤ g79 ∧ g79 ≤ 8) ∧ (0 ≤ g80 ∧ g80 ≤ 7) ∧ (1 ≤ g81 ∧ g81 ≤ 30) ∧ (LnOk g82) ∧ (GdOk g83) ∧ (WkOk g84) ∧ (AI 0 99 g85) ∧ (AI 0 9 g86) := hr2
    dsimp only [u10, u3, u8]
    refine Sf.ite (fun hc3 => ?_) (fun hc3 => ?_)
    · exact Sf.inl (show (0 ≤ (z28 + 1)) ∧ (0 ≤ g78 ∧ g78 ≤ 20) ∧ (0 ≤ g79 ∧ g79 ≤ 8) ∧ (0 ≤ g80 ∧ g80 ≤ 7) ∧ (1 ≤ g81 ∧ g81 ≤ 30) ∧ (LnOk g82) ∧ (GdOk g83) ∧ (WkOk g84) ∧ (AI 0 99 g85) ∧ (AI 0 9 g86) ∧ (AI 0 35 g69) ∧ (AI 0 35 g70) ∧ (AI 0 19 g72) ∧ (0 ≤ g75 ∧ g75 ≤ 60) from ⟨(by grind), h_g78, h_g79, h_g80, h_g81, h_g82, h_g83, h_g84, h_g85, h_g86, h_g69, h_g70, h_g72, h_g75⟩) (muUp_lt hc1)
    · exact Sf.inl (show (0 ≤ (z28 + 1)) ∧ (0 ≤ g78 ∧ g78 ≤ 20) ∧ (0 ≤ g79 ∧ g79 ≤ 8) ∧ (0 ≤ g80 ∧ g80 ≤ 7) ∧ (1 ≤ g81 ∧ g81 ≤ 30) ∧ (LnOk g82) ∧ (GdOk g83) ∧ (WkOk g84) ∧ (AI 0 99 g85) ∧ (AI 0 9 g86) ∧ (AI 0 35 g69) ∧ (AI 0 35 g70) ∧ (AI 0 19 g72) ∧ (0 ≤ g75 ∧ g75 ≤ 60) from ⟨(by grind), h_g78, h_g79, h_g80, h_g81, h_g82, h_g83, h_g84, h_g85, h_g86, h_g69, h_g70, h_g72, h_g75⟩) (muUp_lt hc1)
theorem LX6_which_s36 {n : Nat} {p1 : Int32} {x1_gained x2_knownFree : (Nat → Int32)} {x3_lineCount x3_goodsCount x3_workCount x3_years : Int32} {x3_lines x3_goods x3_works x3_change x3_coin x3_knownFree : (Nat → Int32)} {x3_isKnown : Int32} {x4_left x4_earned : (Nat → Int32)} {x4_turnCost x4_turnWayless : Int32} {x5_steps x5_nodes : (Nat → Int32)} {x5_stepCount : Int32} {x5_open : (Nat → Int32)} {x5_openCount : Int32} {x5_seen : Int64} {z26 z27 z28 z29 z30 z31 z32 : Int32} {z33 z34 z35 z36 z37 : (Nat → Int32)} {z38 : Int32} {z39 z40 z41 z42 z43 z44 : (Nat → Int32)} {z45 z46 : Int32} (hn : 1000000000000 ≤ n) (h_x3_lineCount : (0 ≤ x3_lineCount ∧ x3_lineCount ≤ 20)) (h_x3_goodsCount : (0 ≤ x3_goodsCount ∧ x3_goodsCount ≤ 8)) (h_x3_workCount : (0 ≤ x3_workCount ∧ x3_workCount ≤ 7)) (h_x3_years : (1 ≤ x3_years ∧ x3_years ≤ 30)) (h_x3_lines : (LnOk x3_lines)) (h_x3_goods : (GdOk x3_goods)) (h_x3_works : (WkOk x3_works)) (h_x3_change : (AI 0 99 x3_change)) (h_x3_coin : (AI 0 9 x3_coin)) (h_x5_steps : (AI 0 22 x5_steps)) (h_x5_nodes : (AI 0 35 x5_nodes)) (h_x5_stepCount : (0 ≤ x5_stepCount ∧ x5_stepCount ≤ 36)) (h_x5_open : (AI 0 35 x5_open)) (h_x5_openCount : (0 ≤ x5_openCount ∧ x5_openCount ≤ 36)) (h_z28 : (0 ≤ z28)) (h_z29 : (0 ≤ z29 ∧ z29 ≤ 20)) (h_z30 : (0 ≤ z30 ∧ z30 ≤ 8)) (h_z31 : (0 ≤ z31 ∧ z31 ≤ 7)) (h_z32 : (1 ≤ z32 ∧ z32 ≤ 30)) (h_z33 : (LnOk z33)) (h_z34 : (GdOk z34)) (h_z35 : (WkOk z35)) (h_z36 : (AI 0 99 z36)) (h_z37 : (AI 0 9 z37)) (h_z39 : (AI 0 35 z39)) (h_z40 : (AI 0 35 z40)) (h_z42 : (AI 0 19 z42)) (h_z45 : (0 ≤ z45 ∧ z45 ≤ 60)) : Sf (lp (u21 (fX6_which_s36 n p1 x1_gained x2_knownFree x3_lineCount x3_goodsCount x3_workCount x3_years x3_lines x3_goods x3_works x3_change x3_coin x3_knownFree x3_isKnown x4_left x4_earned x4_turnCost x4_turnWayless x5_steps x5_nodes x5_stepCount x5_open x5_openCount x5_seen)) n (z26, z27, z28, z29, z30, z31, z32, z33, z34, z35, z36, z37, z38, z39, z40, z41, z42, z43, z44, z45, z46)) (fun e => (0 ≤ e.2.1 ∧ e.2.1 ≤ 20) ∧ (0 ≤ e.2.2.1 ∧ e.2.2.1 ≤ 8) ∧ (0 ≤ e.2.2.2.1 ∧ e.2.2.2.1 ≤ 7) ∧ (1 ≤ e.2.2.2.2.1 ∧ e.2.2.2.2.1 ≤ 30) ∧ (LnOk e.2.2.2.2.2.1) ∧ (GdOk e.2.2.2.2.2.2.1) ∧ (WkOk e.2.2.2.2.2.2.2.1) ∧ (AI 0 99 e.2.2.2.2.2.2.2.2.1) ∧ (AI 0 9 e.2.2.2.2.2.2.2.2.2.1) ∧ (AI 0 35 e.2.2.2.2.2.2.2.2.2.2.2.1) ∧ (AI 0 35 e.2.2.2.2.2.2.2.2.2.2.2.2.1) ∧ (AI 0 19 e.2.2.2.2.2.2.2.2.2.2.2.2.2.2.1) ∧ (0 ≤ e.2.2.2.2.2.2.2.2.2.2.2.2.2.2.2.2.2.1 ∧ e.2.2.2.2.2.2.2.2.2.2.2.2.2.2.2.2.2.1 ≤ 60)) :=
  Sf.loop21 (fun z26 z27 z28 z29 z30 z31 z32 z33 z34 z35 z36 z37 z38 z39 z40 z41 z42 z43 z44 z45 z46 => (0 ≤ z28) ∧ (0 ≤ z29 ∧ z29 ≤ 20) ∧ (0 ≤ z30 ∧ z30 ≤ 8) ∧ (0 ≤ z31 ∧ z31 ≤ 7) ∧ (1 ≤ z32 ∧ z32 ≤ 30) ∧ (LnOk z33) ∧ (GdOk z34) ∧ (WkOk z35) ∧ (AI 0 99 z36) ∧ (AI 0 9 z37) ∧ (AI 0 35 z39) ∧ (AI 0 35 z40) ∧ (AI 0 19 z42) ∧ (0 ≤ z45 ∧ z45 ≤ 60)) (fun z26 z27 z28 z29 z30 z31 z32 z33 z34 z35 z36 z37 z38 z39 z40 z41 z42 z43 z44 z45 z46 => muUp z28) (fun z26 z27 z28 z29 z30 z31 z32 z33 z34 z35 z36 z37 z38 z39 z40 z41 z42 z43 z44 z45 z46 h => TX6_which_s36 hn h_x3_lineCount h_x3_goodsCount h_x3_workCount h_x3_years h_x3_lines h_x3_goods h_x3_works h_x3_change h_x3_coin h_x5_steps h_x5_nodes h_x5_stepCount h_x5_open h_x5_openCount h.1 h.2.1 h.2.2.1 h.2.2.2.1 h.2.2.2.2.1 h.2.2.2.2.2.1 h.2.2.2.2.2.2.1 h.2.2.2.2.2.2.2.1 h.2.2.2.2.2.2.2.2.1 h.2.2.2.2.2.2.2.2.2.1 h.2.2.2.2.2.2.2.2.2.2.1 h.2.2.2.2.2.2.2.2.2.2.2.1 h.2.2.2.2.2.2.2.2.2.2.2.2.1 h.2.2.2.2.2.2.2.2.2.2.2.2.2) (show (0 ≤ z28) ∧ (0 ≤ z29 ∧ z29 ≤ 20) ∧ (0 ≤ z30 ∧ z30 ≤ 8) ∧ (0 ≤ z31 ∧ z31 ≤ 7) ∧ (1 ≤ z32 ∧ z32 ≤ 30) ∧ (LnOk z33) ∧ (GdOk z34) ∧ (WkOk z35) ∧ (AI 0 99 z36) ∧ (AI 0 9 z37) ∧ (AI 0 35 z39) ∧ (AI 0 35 z40) ∧ (AI 0 19 z42) ∧ (0 ≤ z45 ∧ z45 ≤ 60) from ⟨h_z28, h_z29, h_z30, h_z31, h_z32, h_z33, h_z34, h_z35, h_z36, h_z37, h_z39, h_z40, h_z42, h_z45⟩) (muUp_n hn)
set_option maxHeartbeats 1000000 in
theorem sX6_which {n : Nat} {x0_refused : (Nat → Int32)} {x0_isKept x0_gone x0_spent : Int32} {x1_gained : (Nat → Int32)} {x2_lineCount x2_goodsCount x2_workCount x2_years : Int32} {x2_lines x2_goods x2_works x2_change x2_coin x2_knownFree : (Nat → Int32)} {x2_isKnown x3_lineCount x3_goodsCount x3_workCount x3_years : Int32} {x3_lines x3_goods x3_works x3_change x3_coin x3_knownFree : (Nat → Int32)} {x3_isKnown : Int32} {x4_left x4_earned : (Nat → Int32)} {x4_turnCost x4_turnWayless : Int32} {x5_edgeA x5_edgeB x5_edgeCost x5_edgeLine x5_change x5_away x5_steps x5_nodes : (Nat → Int32)} {x5_stepCount : Int32} {x5_open : (Nat → Int32)} {x5_openCount : Int32} {x5_seen : Int64} {x5_edgeCount x5_aim p1 : Int32} (hn : 1000000000000 ≤ n) (h_x2_lineCount : (0 ≤ x2_lineCount ∧ x2_lineCount ≤ 20)) (h_x2_goodsCount : (0 ≤ x2_goodsCount ∧ x2_goodsCount ≤ 8)) (h_x2_workCount : (0 ≤ x2_workCount ∧ x2_workCount ≤ 7)) (h_x2_years : (1 ≤ x2_years ∧ x2_years ≤ 30)) (h_x2_lines : (LnOk x2_lines)) (h_x2_goods : (GdOk x2_goods)) (h_x2_works : (WkOk x2_works)) (h_x2_change : (AI 0 99 x2_change)) (h_x2_coin : (AI 0 9 x2_coin)) (h_x3_lineCount : (0 ≤ x3_lineCount ∧ x3_lineCount ≤ 20)) (h_x3_goodsCount : (0 ≤ x3_goodsCount ∧ x3_goodsCount ≤ 8)) (h_x3_workCount : (0 ≤ x3_workCount ∧ x3_workCount ≤ 7)) (h_x3_years : (1 ≤ x3_years ∧ x3_years ≤ 30)) (h_x3_lines : (LnOk x3_lines)) (h_x3_goods : (GdOk x3_goods)) (h_x3_works : (WkOk x3_works)) (h_x3_change : (AI 0 99 x3_change)) (h_x3_coin : (AI 0 9 x3_coin)) (h_x5_edgeA : (AI 0 35 x5_edgeA)) (h_x5_edgeB : (AI 0 35 x5_edgeB)) (h_x5_edgeLine : (AI 0 19 x5_edgeLine)) (h_x5_steps : (AI 0 22 x5_steps)) (h_x5_nodes : (AI 0 35 x5_nodes)) (h_x5_stepCount : (0 ≤ x5_stepCount ∧ x5_stepCount ≤ 36)) (h_x5_open : (AI 0 35 x5_open)) (h_x5_openCount : (0 ≤ x5_openCount ∧ x5_openCount ≤ 36)) (h_x5_edgeCount : (0 ≤ x5_edgeCount ∧ x5_edgeCount ≤ 60)) : Sf (fX6_which n (x0_refused, x0_isKept, x0_gone, x0_spent) x1_gained (x2_lineCount, x2_goodsCount, x2_workCount, x2_years, x2_lines, x2_goods, x2_works, x2_change, x2_coin, x2_knownFree, x2_isKnown) (x3_lineCount, x3_goodsCount, x3_workCount, x3_years, x3_lines, x3_goods, x3_works, x3_change, x3_coin, x3_knownFree, x3_isKnown) (x4_left, x4_earned, x4_turnCost, x4_turnWayless) (x5_edgeA, x5_edgeB, x5_edgeCost, x5_edgeLine, x5_change, x5_away, x5_steps, x5_nodes, x5_stepCount, x5_open, x5_openCount, x5_seen, x5_edgeCount, x5_aim) p1) (fun r => (0 ≤ r.2.2.1.1 ∧ r.2.2.1.1 ≤ 20) ∧ (0 ≤ r.2.2.1.2.1 ∧ r.2.2.1.2.1 ≤ 8) ∧ (0 ≤ r.2.2.1.2.2.1 ∧ r.2.2.1.2.2.1 ≤ 7) ∧ (1 ≤ r.2.2.1.2.2.2.1 ∧ r.2.2.1.2.2.2.1 ≤ 30) ∧ (LnOk r.2.2.1.2.2.2.2.1) ∧ (GdOk r.2.2.1.2.2.2.2.2.1) ∧ (WkOk r.2.2.1.2.2.2.2.2.2.1) ∧ (AI 0 99 r.2.2.1.2.2.2.2.2.2.2.1) ∧ (AI 0 9 r.2.2.1.2.2.2.2.2.2.2.2.1) ∧ (AI 0 35 r.2.2.2.1) ∧ (AI 0 35 r.2.2.2.2.1) ∧ (AI 0 19 r.2.2.2.2.2.2.1) ∧ (0 ≤ r.2.2.2.2.2.2.2.2.2.1 ∧ r.2.2.2.2.2.2.2.2.2.1 ≤ 60)) := by
  unfold fX6_which
  dsimp only [u11, u14, u4]
  refine Sf.bind (sX6_within ) ?_
  intro v1 hr1
  have hx_v1 : ((v1 = 1 ∧ 0 ≤ p1 ∧ p1 ≤ 99) ∨ (v1 = 0 ∧ (p1 < 0 ∨ 99 < p1))) := hr1
  refine Sf.ite (fun hc2 => ?_) (fun hc2 => ?_)
  · refine Sf.bind (sX6_refuse ) ?_
    rintro ⟨v89, g90⟩ hr3
    dsimp only [u2]
    exact Sf.ok (show (0 ≤ x2_lineCount ∧ x2_lineCount ≤ 20) ∧ (0 ≤ x2_goodsCount ∧ x2_goodsCount ≤ 8) ∧ (0 ≤ x2_workCount ∧ x2_workCount ≤ 7) ∧ (1 ≤ x2_years ∧ x2_years ≤ 30) ∧ (LnOk x2_lines) ∧ (GdOk x2_goods) ∧ (WkOk x2_works) ∧ (AI 0 99 x2_change) ∧ (AI 0 9 x2_coin) ∧ (AI 0 35 x5_edgeA) ∧ (AI 0 35 x5_edgeB) ∧ (AI 0 19 x5_edgeLine) ∧ (0 ≤ x5_edgeCount ∧ x5_edgeCount ≤ 60) from ⟨h_x2_lineCount, h_x2_goodsCount, h_x2_workCount, h_x2_years, h_x2_lines, h_x2_goods, h_x2_works, h_x2_change, h_x2_coin, h_x5_edgeA, h_x5_edgeB, h_x5_edgeLine, h_x5_edgeCount⟩)
  · refine Sf.bind (sX0_costOfWidth hn h_x5_edgeA h_x5_edgeB h_x5_edgeLine h_x5_steps h_x5_nodes h_x5_stepCount h_x5_open h_x5_openCount h_x5_edgeCount h_x2_lineCount h_x2_goodsCount h_x2_workCount h_x2_years h_x2_lines h_x2_goods h_x2_works h_x2_change h_x2_coin h_x3_lineCount h_x3_goodsCount h_x3_workCount h_x3_years h_x3_lines h_x3_goods h_x3_works h_x3_change h_x3_coin (by decide)) ?_
    rintro ⟨v3, ⟨g5, g6, g7, g8, g9, g10, g11, g12⟩, ⟨g14, g15, g16, g17, g18, g19, g20, g21, g22, g23⟩⟩ hr4
    obtain ⟨h_g5, h_g6, h_g8, h_g11, h_g14, h_g15, h_g16, h_g17, h_g18, h_g19, h_g20, h_g21, h_g22⟩ : (AI 0 35 g5) ∧ (AI 0 35 g6) ∧ (AI 0 19 g8) ∧ (0 ≤ g11 ∧ g11 ≤ 60) ∧ (0 ≤ g14 ∧ g14 ≤ 20) ∧ (0 ≤ g15 ∧ g15 ≤ 8) ∧ (0 ≤ g16 ∧ g16 ≤ 7) ∧ (1 ≤ g17 ∧ g17 ≤ 30) ∧ (LnOk g18) ∧ (GdOk g19) ∧ (WkOk g20) ∧ (AI 0 99 g21) ∧ (AI 0 9 g22) := hr4
    dsimp only [u10, u3, u8]
    refine Sf.bind (LX6_which_s36 hn h_x3_lineCount h_x3_goodsCount h_x3_workCount h_x3_years h_x3_lines h_x3_goods h_x3_works h_x3_change h_x3_coin h_x5_steps h_x5_nodes h_x5_stepCount h_x5_open h_x5_openCount (by decide) h_g14 h_g15 h_g16 h_g17 h_g18 h_g19 h_g20 h_g21 h_g22 h_g5 h_g6 h_g8 h_g11) ?_
    rintro ⟨w48, w49, w50, w51, w52, w53, w54, w55, w56, w57, w58, w59, w60, w61, w62, w63, w64, w65, w66⟩ hr5
    obtain ⟨h_w49, h_w50, h_w51, h_w52, h_w53, h_w54, h_w55, h_w56, h_w57, h_w59, h_w60, h_w62, h_w65⟩ : (0 ≤ w49 ∧ w49 ≤ 20) ∧ (0 ≤ w50 ∧ w50 ≤ 8) ∧ (0 ≤ w51 ∧ w51 ≤ 7) ∧ (1 ≤ w52 ∧ w52 ≤ 30) ∧ (LnOk w53) ∧ (GdOk w54) ∧ (WkOk w55) ∧ (AI 0 99 w56) ∧ (AI 0 9 w57) ∧ (AI 0 35 w59) ∧ (AI 0 35 w60) ∧ (AI 0 19 w62) ∧ (0 ≤ w65 ∧ w65 ≤ 60) := hr5
    dsimp only [u19]
    exact Sf.ok (show (0 ≤ w49 ∧ w49 ≤ 20) ∧ (0 ≤ w50 ∧ w50 ≤ 8) ∧ (0 ≤ w51 ∧ w51 ≤ 7) ∧ (1 ≤ w52 ∧ w52 ≤ 30) ∧ (LnOk w53) ∧ (GdOk w54) ∧ (WkOk w55) ∧ (AI 0 99 w56) ∧ (AI 0 9 w57) ∧ (AI 0 35 w59) ∧ (AI 0 35 w60) ∧ (AI 0 19 w62) ∧ (0 ≤ w65 ∧ w65 ≤ 60) from ⟨h_w49, h_w50, h_w51, h_w52, h_w53, h_w54, h_w55, h_w56, h_w57, h_w59, h_w60, h_w62, h_w65⟩)
set_option maxHeartbeats 1000000 in
theorem sX6_earns {n : Nat} {x0_refused : (Nat → Int32)} {x0_isKept x0_gone x0_spent x1_lineCount x1_goodsCount x1_workCount x1_years : Int32} {x1_lines x1_goods x1_works x1_change x1_coin x1_knownFree : (Nat → Int32)} {x1_isKnown : Int32} {x2_left x2_earned : (Nat → Int32)} {x2_turnCost x2_turnWayless : Int32} {x3_edgeA x3_edgeB x3_edgeCost x3_edgeLine x3_change x3_away x3_steps x3_nodes : (Nat → Int32)} {x3_stepCount : Int32} {x3_open : (Nat → Int32)} {x3_openCount : Int32} {x3_seen : Int64} {x3_edgeCount x3_aim p1 : Int32} (hn : 1000000000000 ≤ n) (h_x1_lineCount : (0 ≤ x1_lineCount ∧ x1_lineCount ≤ 20)) (h_x1_goodsCount : (0 ≤ x1_goodsCount ∧ x1_goodsCount ≤ 8)) (h_x1_workCount : (0 ≤ x1_workCount ∧ x1_workCount ≤ 7)) (h_x1_years : (1 ≤ x1_years ∧ x1_years ≤ 30)) (h_x1_lines : (LnOk x1_lines)) (h_x1_goods : (GdOk x1_goods)) (h_x1_works : (WkOk x1_works)) (h_x1_change : (AI 0 99 x1_change)) (h_x1_coin : (AI 0 9 x1_coin)) (h_x3_edgeA : (AI 0 35 x3_edgeA)) (h_x3_edgeB : (AI 0 35 x3_edgeB)) (h_x3_edgeLine : (AI 0 19 x3_edgeLine)) (h_x3_steps : (AI 0 22 x3_steps)) (h_x3_nodes : (AI 0 35 x3_nodes)) (h_x3_stepCount : (0 ≤ x3_stepCount ∧ x3_stepCount ≤ 36)) (h_x3_open : (AI 0 35 x3_open)) (h_x3_openCount : (0 ≤ x3_openCount ∧ x3_openCount ≤ 36)) (h_x3_edgeCount : (0 ≤ x3_edgeCount ∧ x3_edgeCount ≤ 60)) : Sf (fX6_earns n (x0_refused, x0_isKept, x0_gone, x0_spent) (x1_lineCount, x1_goodsCount, x1_workCount, x1_years, x1_lines, x1_goods, x1_works, x1_change, x1_coin, x1_knownFree, x1_isKnown) (x2_left, x2_earned, x2_turnCost, x2_turnWayless) (x3_edgeA, x3_edgeB, x3_edgeCost, x3_edgeLine, x3_change, x3_away, x3_steps, x3_nodes, x3_stepCount, x3_open, x3_openCount, x3_seen, x3_edgeCount, x3_aim) p1) (fun r => (AI 0 35 r.2.2.2.1) ∧ (AI 0 35 r.2.2.2.2.1) ∧ (AI 0 19 r.2.2.2.2.2.2.1) ∧ (AI 0 22 r.2.2.2.2.2.2.2.2.2.1) ∧ (AI 0 35 r.2.2.2.2.2.2.2.2.2.2.1) ∧ (0 ≤ r.2.2.2.2.2.2.2.2.2.2.2.1 ∧ r.2.2.2.2.2.2.2.2.2.2.2.1 ≤ 36) ∧ (AI 0 35 r.2.2.2.2.2.2.2.2.2.2.2.2.1) ∧ (0 ≤ r.2.2.2.2.2.2.2.2.2.2.2.2.2.1 ∧ r.2.2.2.2.2.2.2.2.2.2.2.2.2.1 ≤ 36) ∧ (0 ≤ r.2.2.2.2.2.2.2.2.2.2.2.2.2.2.2.1 ∧ r.2.2.2.2.2.2.2.2.2.2.2.2.2.2.2.1 ≤ 60)) := by
  unfold fX6_earns
  dsimp only [u11, u14, u4]
  refine Sf.bind (sX6_within ) ?_
  intro v1 hr1
  have hx_v1 : ((v1 = 1 ∧ 0 ≤ p1 ∧ p1 ≤ 5) ∨ (v1 = 0 ∧ (p1 < 0 ∨ 5 < p1))) := hr1
  refine Sf.ite (fun hc2 => ?_) (fun hc2 => ?_)
  · refine Sf.bind (sX6_refuse ) ?_
    rintro ⟨v21, g22⟩ hr3
    dsimp only [u2]
    exact Sf.ok (show (AI 0 35 x3_edgeA) ∧ (AI 0 35 x3_edgeB) ∧ (AI 0 19 x3_edgeLine) ∧ (AI 0 22 x3_steps) ∧ (AI 0 35 x3_nodes) ∧ (0 ≤ x3_stepCount ∧ x3_stepCount ≤ 36) ∧ (AI 0 35 x3_open) ∧ (0 ≤ x3_openCount ∧ x3_openCount ≤ 36) ∧ (0 ≤ x3_edgeCount ∧ x3_edgeCount ≤ 60) from ⟨h_x3_edgeA, h_x3_edgeB, h_x3_edgeLine, h_x3_steps, h_x3_nodes, h_x3_stepCount, h_x3_open, h_x3_openCount, h_x3_edgeCount⟩)
  · refine Sf.bind (sX4_earnB hn h_x3_edgeA h_x3_edgeB h_x3_edgeLine h_x3_steps h_x3_nodes h_x3_stepCount h_x3_open h_x3_openCount h_x3_edgeCount h_x1_lineCount h_x1_goodsCount h_x1_workCount h_x1_years h_x1_lines h_x1_goods h_x1_works h_x1_change h_x1_coin) ?_
    rintro ⟨g3, ⟨g5, g6, g7, g8, g9, g10, g11, g12, g13, g14, g15, g16, g17, g18⟩⟩ hr4
    obtain ⟨h_g5, h_g6, h_g8, h_g11, h_g12, h_g13, h_g14, h_g15, h_g17⟩ : (AI 0 35 g5) ∧ (AI 0 35 g6) ∧ (AI 0 19 g8) ∧ (AI 0 22 g11) ∧ (AI 0 35 g12) ∧ (0 ≤ g13 ∧ g13 ≤ 36) ∧ (AI 0 35 g14) ∧ (0 ≤ g15 ∧ g15 ≤ 36) ∧ (0 ≤ g17 ∧ g17 ≤ 60) := hr4
    dsimp only [u14, u2]
    refine Sf.rdb 6 rfl (by grind) (fun v20 e_v20 => ?_)
    clear e_v20
    exact Sf.ok (show (AI 0 35 g5) ∧ (AI 0 35 g6) ∧ (AI 0 19 g8) ∧ (AI 0 22 g11) ∧ (AI 0 35 g12) ∧ (0 ≤ g13 ∧ g13 ≤ 36) ∧ (AI 0 35 g14) ∧ (0 ≤ g15 ∧ g15 ≤ 36) ∧ (0 ≤ g17 ∧ g17 ≤ 60) from ⟨h_g5, h_g6, h_g8, h_g11, h_g12, h_g13, h_g14, h_g15, h_g17⟩)
set_option maxHeartbeats 1000000 in
theorem sX6_gains {n : Nat} {x0_refused : (Nat → Int32)} {x0_isKept x0_gone x0_spent : Int32} {x1_gained : (Nat → Int32)} {x2_lineCount x2_goodsCount x2_workCount x2_years : Int32} {x2_lines x2_goods x2_works x2_change x2_coin x2_knownFree : (Nat → Int32)} {x2_isKnown x3_lineCount x3_goodsCount x3_workCount x3_years : Int32} {x3_lines x3_goods x3_works x3_change x3_coin x3_knownFree : (Nat → Int32)} {x3_isKnown : Int32} {x4_left x4_earned : (Nat → Int32)} {x4_turnCost x4_turnWayless : Int32} {x5_edgeA x5_edgeB x5_edgeCost x5_edgeLine x5_change x5_away x5_steps x5_nodes : (Nat → Int32)} {x5_stepCount : Int32} {x5_open : (Nat → Int32)} {x5_openCount : Int32} {x5_seen : Int64} {x5_edgeCount x5_aim p1 p2 : Int32} (hn : 1000000000000 ≤ n) (h_x2_lineCount : (0 ≤ x2_lineCount ∧ x2_lineCount ≤ 20)) (h_x2_goodsCount : (0 ≤ x2_goodsCount ∧ x2_goodsCount ≤ 8)) (h_x2_workCount : (0 ≤ x2_workCount ∧ x2_workCount ≤ 7)) (h_x2_years : (1 ≤ x2_years ∧ x2_years ≤ 30)) (h_x2_lines : (LnOk x2_lines)) (h_x2_goods : (GdOk x2_goods)) (h_x2_works : (WkOk x2_works)) (h_x2_change : (AI 0 99 x2_change)) (h_x2_coin : (AI 0 9 x2_coin)) (h_x3_lineCount : (0 ≤ x3_lineCount ∧ x3_lineCount ≤ 20)) (h_x3_goodsCount : (0 ≤ x3_goodsCount ∧ x3_goodsCount ≤ 8)) (h_x3_workCount : (0 ≤ x3_workCount ∧ x3_workCount ≤ 7)) (h_x3_years : (1 ≤ x3_years ∧ x3_years ≤ 30)) (h_x3_lines : (LnOk x3_lines)) (h_x3_goods : (GdOk x3_goods)) (h_x3_works : (WkOk x3_works)) (h_x3_change : (AI 0 99 x3_change)) (h_x3_coin : (AI 0 9 x3_coin)) (h_x5_edgeA : (AI 0 35 x5_edgeA)) (h_x5_edgeB : (AI 0 35 x5_edgeB)) (h_x5_edgeLine : (AI 0 19 x5_edgeLine)) (h_x5_steps : (AI 0 22 x5_steps)) (h_x5_nodes : (AI 0 35 x5_nodes)) (h_x5_stepCount : (0 ≤ x5_stepCount ∧ x5_stepCount ≤ 36)) (h_x5_open : (AI 0 35 x5_open)) (h_x5_openCount : (0 ≤ x5_openCount ∧ x5_openCount ≤ 36)) (h_x5_edgeCount : (0 ≤ x5_edgeCount ∧ x5_edgeCount ≤ 60)) : Sf (fX6_gains n (x0_refused, x0_isKept, x0_gone, x0_spent) x1_gained (x2_lineCount, x2_goodsCount, x2_workCount, x2_years, x2_lines, x2_goods, x2_works, x2_change, x2_coin, x2_knownFree, x2_isKnown) (x3_lineCount, x3_goodsCount, x3_workCount, x3_years, x3_lines, x3_goods, x3_works, x3_change, x3_coin, x3_knownFree, x3_isKnown) (x4_left, x4_earned, x4_turnCost, x4_turnWayless) (x5_edgeA, x5_edgeB, x5_edgeCost, x5_edgeLine, x5_change, x5_away, x5_steps, x5_nodes, x5_stepCount, x5_open, x5_openCount, x5_seen, x5_edgeCount, x5_aim) p1 p2) (fun r => (0 ≤ r.2.2.2.1.1 ∧ r.2.2.2.1.1 ≤ 20) ∧ (0 ≤ r.2.2.2.1.2.1 ∧ r.2.2.2.1.2.1 ≤ 8) ∧ (0 ≤ r.2.2.2.1.2.2.1 ∧ r.2.2.2.1.2.2.1 ≤ 7) ∧ (1 ≤ r.2.2.2.1.2.2.2.1 ∧ r.2.2.2.1.2.2.2.1 ≤ 30) ∧ (LnOk r.2.2.2.1.2.2.2.2.1) ∧ (GdOk r.2.2.2.1.2.2.2.2.2.1) ∧ (WkOk r.2.2.2.1.2.2.2.2.2.2.1) ∧ (AI 0 99 r.2.2.2.1.2.2.2.2.2.2.2.1) ∧ (AI 0 9 r.2.2.2.1.2.2.2.2.2.2.2.2.1) ∧ (AI 0 35 r.2.2.2.2.2.1) ∧ (AI 0 35 r.2.2.2.2.2.2.1) ∧ (AI 0 19 r.2.2.2.2.2.2.2.2.1) ∧ (AI 0 22 r.2.2.2.2.2.2.2.2.2.2.2.1) ∧ (AI 0 35 r.2.2.2.2.2.2.2.2.2.2.2.2.1) ∧ (0 ≤ r.2.2.2.2.2.2.2.2.2.2.2.2.2.1 ∧ r.2.2.2.2.2.2.2.2.2.2.2.2.2.1 ≤ 36) ∧ (AI 0 35 r.2.2.2.2.2.2.2.2.2.2.2.2.2.2.1) ∧ (0 ≤ r.2.2.2.2.2.2.2.2.2.2.2.2.2.2.2.1 ∧ r.2.2.2.2.2.2.2.2.2.2.2.2.2.2.2.1 ≤ 36) ∧ (0 ≤ r.2.2.2.2.2.2.2.2.2.2.2.2.2.2.2.2.2.1 ∧ r.2.2.2.2.2.2.2.2.2.2.2.2.2.2.2.2.2.1 ≤ 60)) := by
  unfold fX6_gains
  dsimp only [u11, u14, u4]
  refine Sf.bind (sX6_within ) ?_
  intro v1 hr1
  have hx_v1 : ((v1 = 1 ∧ 0 ≤ p1 ∧ p1 ≤ 5) ∨ (v1 = 0 ∧ (p1 < 0 ∨ 5 < p1))) := hr1
  refine Sf.ite (fun hc2 => ?_) (fun hc2 => ?_)
  · unfold fX6_gains_j19
    refine Sf.ite (fun hc3 => absurd hc3 (by decide)) (fun hc3 => ?_)
    refine Sf.bind (sX6_refuse ) ?_
    rintro ⟨v34, g35⟩ hr4
    dsimp only [u2]
    exact Sf.ok (show (0 ≤ x2_lineCount ∧ x2_lineCount ≤ 20) ∧ (0 ≤ x2_goodsCount ∧ x2_goodsCount ≤ 8) ∧ (0 ≤ x2_workCount ∧ x2_workCount ≤ 7) ∧ (1 ≤ x2_years ∧ x2_years ≤ 30) ∧ (LnOk x2_lines) ∧ (GdOk x2_goods) ∧ (WkOk x2_works) ∧ (AI 0 99 x2_change) ∧ (AI 0 9 x2_coin) ∧ (AI 0 35 x5_edgeA) ∧ (AI 0 35 x5_edgeB) ∧ (AI 0 19 x5_edgeLine) ∧ (AI 0 22 x5_steps) ∧ (AI 0 35 x5_nodes) ∧ (0 ≤ x5_stepCount ∧ x5_stepCount ≤ 36) ∧ (AI 0 35 x5_open) ∧ (0 ≤ x5_openCount ∧ x5_openCount ≤ 36) ∧ (0 ≤ x5_edgeCount ∧ x5_edgeCount ≤ 60) from ⟨h_x2_lineCount, h_x2_goodsCount, h_x2_workCount, h_x2_years, h_x2_lines, h_x2_goods, h_x2_works, h_x2_change, h_x2_coin, h_x5_edgeA, h_x5_edgeB, h_x5_edgeLine, h_x5_steps, h_x5_nodes, h_x5_stepCount, h_x5_open, h_x5_openCount, h_x5_edgeCount⟩)
  · refine Sf.bind (sX6_noChoice h_x3_lineCount h_x3_goodsCount h_x3_workCount h_x3_years h_x3_lines h_x3_goods h_x3_works h_x3_change h_x3_coin) ?_
    intro v37 hr5
    have hx_v37 : (v37 ≠ 0 ∨ (0 ≤ p2 ∧ p2 < x3_workCount)) := hr5
    unfold fX6_gains_j19
    refine Sf.ite (fun hc6 => ?_) (fun hc6 => ?_)
    · refine Sf.bind (sX0_gainBy hn h_x5_edgeA h_x5_edgeB h_x5_edgeLine h_x5_steps h_x5_nodes h_x5_stepCount h_x5_open h_x5_openCount h_x5_edgeCount h_x2_lineCount h_x2_goodsCount h_x2_workCount h_x2_years h_x2_lines h_x2_goods h_x2_works h_x2_change h_x2_coin h_x3_lineCount h_x3_goodsCount h_x3_workCount h_x3_years h_x3_lines h_x3_goods h_x3_works h_x3_change h_x3_coin) ?_
      rintro ⟨g4, g5, ⟨g7, g8, g9, g10, g11, g12, g13, g14, g15, g16, g17, g18, g19, g20⟩, ⟨g22, g23, g24, g25, g26, g27, g28, g29, g30, g31⟩⟩ hr7
      obtain ⟨h_g7, h_g8, h_g10, h_g13, h_g14, h_g15, h_g16, h_g17, h_g19, h_g22, h_g23, h_g24, h_g25, h_g26, h_g27, h_g28, h_g29, h_g30⟩ : (AI 0 35 g7) ∧ (AI 0 35 g8) ∧ (AI 0 19 g10) ∧ (AI 0 22 g13) ∧ (AI 0 35 g14) ∧ (0 ≤ g15 ∧ g15 ≤ 36) ∧ (AI 0 35 g16) ∧ (0 ≤ g17 ∧ g17 ≤ 36) ∧ (0 ≤ g19 ∧ g19 ≤ 60) ∧ (0 ≤ g22 ∧ g22 ≤ 20) ∧ (0 ≤ g23 ∧ g23 ≤ 8) ∧ (0 ≤ g24 ∧ g24 ≤ 7) ∧ (1 ≤ g25 ∧ g25 ≤ 30) ∧ (LnOk g26) ∧ (GdOk g27) ∧ (WkOk g28) ∧ (AI 0 99 g29) ∧ (AI 0 9 g30) := hr7
      dsimp only [u10, u14, u4]
      refine Sf.rdb 6 rfl (by grind) (fun v33 e_v33 => ?_)
      clear e_v33
      exact Sf.ok (show (0 ≤ g22 ∧ g22 ≤ 20) ∧ (0 ≤ g23 ∧ g23 ≤ 8) ∧ (0 ≤ g24 ∧ g24 ≤ 7) ∧ (1 ≤ g25 ∧ g25 ≤ 30) ∧ (LnOk g26) ∧ (GdOk g27) ∧ (WkOk g28) ∧ (AI 0 99 g29) ∧ (AI 0 9 g30) ∧ (AI 0 35 g7) ∧ (AI 0 35 g8) ∧ (AI 0 19 g10) ∧ (AI 0 22 g13) ∧ (AI 0 35 g14) ∧ (0 ≤ g15 ∧ g15 ≤ 36) ∧ (AI 0 35 g16) ∧ (0 ≤ g17 ∧ g17 ≤ 36) ∧ (0 ≤ g19 ∧ g19 ≤ 60) from ⟨h_g22, h_g23, h_g24, h_g25, h_g26, h_g27, h_g28, h_g29, h_g30, h_g7, h_g8, h_g10, h_g13, h_g14, h_g15, h_g16, h_g17, h_g19⟩)
    · refine Sf.bind (sX6_refuse ) ?_
      rintro ⟨v34, g35⟩ hr8
      dsimp only [u2]
      exact Sf.ok (show (0 ≤ x2_lineCount ∧ x2_lineCount ≤ 20) ∧ (0 ≤ x2_goodsCount ∧ x2_goodsCount ≤ 8) ∧ (0 ≤ x2_workCount ∧ x2_workCount ≤ 7) ∧ (1 ≤ x2_years ∧ x2_years ≤ 30) ∧ (LnOk x2_lines) ∧ (GdOk x2_goods) ∧ (WkOk x2_works) ∧ (AI 0 99 x2_change) ∧ (AI 0 9 x2_coin) ∧ (AI 0 35 x5_edgeA) ∧ (AI 0 35 x5_edgeB) ∧ (AI 0 19 x5_edgeLine) ∧ (AI 0 22 x5_steps) ∧ (AI 0 35 x5_nodes) ∧ (0 ≤ x5_stepCount ∧ x5_stepCount ≤ 36) ∧ (AI 0 35 x5_open) ∧ (0 ≤ x5_openCount ∧ x5_openCount ≤ 36) ∧ (0 ≤ x5_edgeCount ∧ x5_edgeCount ≤ 60) from ⟨h_x2_lineCount, h_x2_goodsCount, h_x2_workCount, h_x2_years, h_x2_lines, h_x2_goods, h_x2_works, h_x2_change, h_x2_coin, h_x5_edgeA, h_x5_edgeB, h_x5_edgeLine, h_x5_steps, h_x5_nodes, h_x5_stepCount, h_x5_open, h_x5_openCount, h_x5_edgeCount⟩)
theorem TX6_losers_s33 {g3 : (Nat → Int32)} {z33 z34 : Int32}  (h_z34 : (0 ≤ z34)) : Sf (fX6_losers_s33 g3 z33 z34) (LQ (u2 (fun z33 z34 => (0 ≤ z34))) (u2 (fun z33 z34 => muUp z34)) (muUp z34) (fun e => True)) := by
  unfold fX6_losers_s33
  refine Sf.ite (fun hc1 => ?_) (fun hc1 => ?_)
  · exact Sf.inr trivial
  · refine Sf.rdb 6 rfl (by grind) (fun v37 e_v37 => ?_)
    clear e_v37
    refine Sf.ite (fun hc2 => ?_) (fun hc2 => ?_)
    · exact Sf.inl (show (0 ≤ (z34 + 1)) from (by grind)) (muUp_lt hc1)
    · refine Sf.someb (fun t38 e_t38 => ?_)
      exact Sf.inl (show (0 ≤ (z34 + 1)) from (by grind)) (muUp_lt hc1)
theorem LX6_losers_s33 {n : Nat} {g3 : (Nat → Int32)} {z33 z34 : Int32} (hn : 1000000000000 ≤ n) (h_z34 : (0 ≤ z34)) : Sf (lp (u2 (fX6_losers_s33 g3)) n (z33, z34)) (fun e => True) :=
  Sf.loop2 (fun z33 z34 => (0 ≤ z34)) (fun z33 z34 => muUp z34) (fun z33 z34 h => TX6_losers_s33 h) h_z34 (muUp_n hn)
set_option maxHeartbeats 1000000 in
theorem sX6_losers {n : Nat} {x0_refused : (Nat → Int32)} {x0_isKept x0_gone x0_spent : Int32} {x1_gained : (Nat → Int32)} {x2_lineCount x2_goodsCount x2_workCount x2_years : Int32} {x2_lines x2_goods x2_works x2_change x2_coin x2_knownFree : (Nat → Int32)} {x2_isKnown x3_lineCount x3_goodsCount x3_workCount x3_years : Int32} {x3_lines x3_goods x3_works x3_change x3_coin x3_knownFree : (Nat → Int32)} {x3_isKnown : Int32} {x4_left x4_earned : (Nat → Int32)} {x4_turnCost x4_turnWayless : Int32} {x5_edgeA x5_edgeB x5_edgeCost x5_edgeLine x5_change x5_away x5_steps x5_nodes : (Nat → Int32)} {x5_stepCount : Int32} {x5_open : (Nat → Int32)} {x5_openCount : Int32} {x5_seen : Int64} {x5_edgeCount x5_aim p1 : Int32} (hn : 1000000000000 ≤ n) (h_x2_lineCount : (0 ≤ x2_lineCount ∧ x2_lineCount ≤ 20)) (h_x2_goodsCount : (0 ≤ x2_goodsCount ∧ x2_goodsCount ≤ 8)) (h_x2_workCount : (0 ≤ x2_workCount ∧ x2_workCount ≤ 7)) (h_x2_years : (1 ≤ x2_years ∧ x2_years ≤ 30)) (h_x2_lines : (LnOk x2_lines)) (h_x2_goods : (GdOk x2_goods)) (h_x2_works : (WkOk x2_works)) (h_x2_change : (AI 0 99 x2_change)) (h_x2_coin : (AI 0 9 x2_coin)) (h_x3_lineCount : (0 ≤ x3_lineCount ∧ x3_lineCount ≤ 20)) (h_x3_goodsCount : (0 ≤ x3_goodsCount ∧ x3_goodsCount ≤ 8)) (h_x3_workCount : (0 ≤ x3_workCount ∧ x3_workCount ≤ 7)) (h_x3_years : (1 ≤ x3_years ∧ x3_years ≤ 30)) (h_x3_lines : (LnOk x3_lines)) (h_x3_goods : (GdOk x3_goods)) (h_x3_works : (WkOk x3_works)) (h_x3_change : (AI 0 99 x3_change)) (h_x3_coin : (AI 0 9 x3_coin)) (h_x5_edgeA : (AI 0 35 x5_edgeA)) (h_x5_edgeB : (AI 0 35 x5_edgeB)) (h_x5_edgeLine : (AI 0 19 x5_edgeLine)) (h_x5_steps : (AI 0 22 x5_steps)) (h_x5_nodes : (AI 0 35 x5_nodes)) (h_x5_stepCount : (0 ≤ x5_stepCount ∧ x5_stepCount ≤ 36)) (h_x5_open : (AI 0 35 x5_open)) (h_x5_openCount : (0 ≤ x5_openCount ∧ x5_openCount ≤ 36)) (h_x5_edgeCount : (0 ≤ x5_edgeCount ∧ x5_edgeCount ≤ 60)) : Sf (fX6_losers n (x0_refused, x0_isKept, x0_gone, x0_spent) x1_gained (x2_lineCount, x2_goodsCount, x2_workCount, x2_years, x2_lines, x2_goods, x2_works, x2_change, x2_coin, x2_knownFree, x2_isKnown) (x3_lineCount, x3_goodsCount, x3_workCount, x3_years, x3_lines, x3_goods, x3_works, x3_change, x3_coin, x3_knownFree, x3_isKnown) (x4_left, x4_earned, x4_turnCost, x4_turnWayless) (x5_edgeA, x5_edgeB, x5_edgeCost, x5_edgeLine, x5_change, x5_away, x5_steps, x5_nodes, x5_stepCount, x5_open, x5_openCount, x5_seen, x5_edgeCount, x5_aim) p1) (fun r => (0 ≤ r.2.2.2.1.1 ∧ r.2.2.2.1.1 ≤ 20) ∧ (0 ≤ r.2.2.2.1.2.1 ∧ r.2.2.2.1.2.1 ≤ 8) ∧ (0 ≤ r.2.2.2.1.2.2.1 ∧ r.2.2.2.1.2.2.1 ≤ 7) ∧ (1 ≤ r.2.2.2.1.2.2.2.1 ∧ r.2.2.2.1.2.2.2.1 ≤ 30) ∧ (LnOk r.2.2.2.1.2.2.2.2.1) ∧ (GdOk r.2.2.2.1.2.2.2.2.2.1) ∧ (WkOk r.2.2.2.1.2.2.2.2.2.2.1) ∧ (AI 0 99 r.2.2.2.1.2.2.2.2.2.2.2.1) ∧ (AI 0 9 r.2.2.2.1.2.2.2.2.2.2.2.2.1) ∧ (AI 0 35 r.2.2.2.2.2.1) ∧ (AI 0 35 r.2.2.2.2.2.2.1) ∧ (AI 0 19 r.2.2.2.2.2.2.2.2.1) ∧ (AI 0 22 r.2.2.2.2.2.2.2.2.2.2.2.1) ∧ (AI 0 35 r.2.2.2.2.2.2.2.2.2.2.2.2.1) ∧ (0 ≤ r.2.2.2.2.2.2.2.2.2.2.2.2.2.1 ∧ r.2.2.2.2.2.2.2.2.2.2.2.2.2.1 ≤ 36) ∧ (AI 0 35 r.2.2.2.2.2.2.2.2.2.2.2.2.2.2.1) ∧ (0 ≤ r.2.2.2.2.2.2.2.2.2.2.2.2.2.2.2.1 ∧ r.2.2.2.2.2.2.2.2.2.2.2.2.2.2.2.1 ≤ 36) ∧ (0 ≤ r.2.2.2.2.2.2.2.2.2.2.2.2.2.2.2.2.2.1 ∧ r.2.2.2.2.2.2.2.2.2.2.2.2.2.2.2.2.2.1 ≤ 60)) := by
  unfold fX6_losers
  dsimp only [u11, u14, u4]
  refine Sf.bind (sX6_noChoice h_x3_lineCount h_x3_goodsCount h_x3_workCount h_x3_years h_x3_lines h_x3_goods h_x3_works h_x3_change h_x3_coin) ?_
  intro v1 hr1
  have hx_v1 : (v1 ≠ 0 ∨ (0 ≤ p1 ∧ p1 < x3_workCount)) := hr1
  refine Sf.ite (fun hc2 => ?_) (fun hc2 => ?_)
  · refine Sf.bind (sX0_gainBy hn h_x5_edgeA h_x5_edgeB h_x5_edgeLine h_x5_steps h_x5_nodes h_x5_stepCount h_x5_open h_x5_openCount h_x5_edgeCount h_x2_lineCount h_x2_goodsCount h_x2_workCount h_x2_years h_x2_lines h_x2_goods h_x2_works h_x2_change h_x2_coin h_x3_lineCount h_x3_goodsCount h_x3_workCount h_x3_years h_x3_lines h_x3_goods h_x3_works h_x3_change h_x3_coin) ?_
    rintro ⟨g3, g4, ⟨g6, g7, g8, g9, g10, g11, g12, g13, g14, g15, g16, g17, g18, g19⟩, ⟨g21, g22, g23, g24, g25, g26, g27, g28, g29, g30⟩⟩ hr3
    obtain ⟨h_g6, h_g7, h_g9, h_g12, h_g13, h_g14, h_g15, h_g16, h_g18, h_g21, h_g22, h_g23, h_g24, h_g25, h_g26, h_g27, h_g28, h_g29⟩ : (AI 0 35 g6) ∧ (AI 0 35 g7) ∧ (AI 0 19 g9) ∧ (AI 0 22 g12) ∧ (AI 0 35 g13) ∧ (0 ≤ g14 ∧ g14 ≤ 36) ∧ (AI 0 35 g15) ∧ (0 ≤ g16 ∧ g16 ≤ 36) ∧ (0 ≤ g18 ∧ g18 ≤ 60) ∧ (0 ≤ g21 ∧ g21 ≤ 20) ∧ (0 ≤ g22 ∧ g22 ≤ 8) ∧ (0 ≤ g23 ∧ g23 ≤ 7) ∧ (1 ≤ g24 ∧ g24 ≤ 30) ∧ (LnOk g25) ∧ (GdOk g26) ∧ (WkOk g27) ∧ (AI 0 99 g28) ∧ (AI 0 9 g29) := hr3
    dsimp only [u10, u14, u4]
    refine Sf.bind (LX6_losers_s33 hn (by decide)) ?_
    intro w36 hr4
    exact Sf.ok (show (0 ≤ g21 ∧ g21 ≤ 20) ∧ (0 ≤ g22 ∧ g22 ≤ 8) ∧ (0 ≤ g23 ∧ g23 ≤ 7) ∧ (1 ≤ g24 ∧ g24 ≤ 30) ∧ (LnOk g25) ∧ (GdOk g26) ∧ (WkOk g27) ∧ (AI 0 99 g28) ∧ (AI 0 9 g29) ∧ (AI 0 35 g6) ∧ (AI 0 35 g7) ∧ (AI 0 19 g9) ∧ (AI 0 22 g12) ∧ (AI 0 35 g13) ∧ (0 ≤ g14 ∧ g14 ≤ 36) ∧ (AI 0 35 g15) ∧ (0 ≤ g16 ∧ g16 ≤ 36) ∧ (0 ≤ g18 ∧ g18 ≤ 60) from ⟨h_g21, h_g22, h_g23, h_g24, h_g25, h_g26, h_g27, h_g28, h_g29, h_g6, h_g7, h_g9, h_g12, h_g13, h_g14, h_g15, h_g16, h_g18⟩)
  · refine Sf.bind (sX6_refuse ) ?_
    rintro ⟨v39, g40⟩ hr5
    dsimp only [u2]
    exact Sf.ok (show (0 ≤ x2_lineCount ∧ x2_lineCount ≤ 20) ∧ (0 ≤ x2_goodsCount ∧ x2_goodsCount ≤ 8) ∧ (0 ≤ x2_workCount ∧ x2_workCount ≤ 7) ∧ (1 ≤ x2_years ∧ x2_years ≤ 30) ∧ (LnOk x2_lines) ∧ (GdOk x2_goods) ∧ (WkOk x2_works) ∧ (AI 0 99 x2_change) ∧ (AI 0 9 x2_coin) ∧ (AI 0 35 x5_edgeA) ∧ (AI 0 35 x5_edgeB) ∧ (AI 0 19 x5_edgeLine) ∧ (AI 0 22 x5_steps) ∧ (AI 0 35 x5_nodes) ∧ (0 ≤ x5_stepCount ∧ x5_stepCount ≤ 36) ∧ (AI 0 35 x5_open) ∧ (0 ≤ x5_openCount ∧ x5_openCount ≤ 36) ∧ (0 ≤ x5_edgeCount ∧ x5_edgeCount ≤ 60) from ⟨h_x2_lineCount, h_x2_goodsCount, h_x2_workCount, h_x2_years, h_x2_lines, h_x2_goods, h_x2_works, h_x2_change, h_x2_coin, h_x5_edgeA, h_x5_edgeB, h_x5_edgeLine, h_x5_steps, h_x5_nodes, h_x5_stepCount, h_x5_open, h_x5_openCount, h_x5_edgeCount⟩)
set_option maxHeartbeats 1000000 in
theorem sX6_port {n : Nat} {x0_refused : (Nat → Int32)} {x0_isKept x0_gone x0_spent x1_lineCount x1_goodsCount x1_workCount x1_years : Int32} {x1_lines x1_goods x1_works x1_change x1_coin x1_knownFree : (Nat → Int32)} {x1_isKnown : Int32} {x2_left x2_earned : (Nat → Int32)} {x2_turnCost x2_turnWayless : Int32} {x3_edgeA x3_edgeB x3_edgeCost x3_edgeLine x3_change x3_away x3_steps x3_nodes : (Nat → Int32)} {x3_stepCount : Int32} {x3_open : (Nat → Int32)} {x3_openCount : Int32} {x3_seen : Int64} {x3_edgeCount x3_aim p1 p2 : Int32} (hn : 1000000000000 ≤ n) (h_x1_lineCount : (0 ≤ x1_lineCount ∧ x1_lineCount ≤ 20)) (h_x1_goodsCount : (0 ≤ x1_goodsCount ∧ x1_goodsCount ≤ 8)) (h_x1_workCount : (0 ≤ x1_workCount ∧ x1_workCount ≤ 7)) (h_x1_years : (1 ≤ x1_years ∧ x1_years ≤ 30)) (h_x1_lines : (LnOk x1_lines)) (h_x1_goods : (GdOk x1_goods)) (h_x1_works : (WkOk x1_works)) (h_x1_change : (AI 0 99 x1_change)) (h_x1_coin : (AI 0 9 x1_coin)) (h_x3_edgeA : (AI 0 35 x3_edgeA)) (h_x3_edgeB : (AI 0 35 x3_edgeB)) (h_x3_edgeLine : (AI 0 19 x3_edgeLine)) (h_x3_steps : (AI 0 22 x3_steps)) (h_x3_nodes : (AI 0 35 x3_nodes)) (h_x3_stepCount : (0 ≤ x3_stepCount ∧ x3_stepCount ≤ 36)) (h_x3_open : (AI 0 35 x3_open)) (h_x3_openCount : (0 ≤ x3_openCount ∧ x3_openCount ≤ 36)) (h_x3_edgeCount : (0 ≤ x3_edgeCount ∧ x3_edgeCount ≤ 60)) : Sf (fX6_port n (x0_refused, x0_isKept, x0_gone, x0_spent) (x1_lineCount, x1_goodsCount, x1_workCount, x1_years, x1_lines, x1_goods, x1_works, x1_change, x1_coin, x1_knownFree, x1_isKnown) (x2_left, x2_earned, x2_turnCost, x2_turnWayless) (x3_edgeA, x3_edgeB, x3_edgeCost, x3_edgeLine, x3_change, x3_away, x3_steps, x3_nodes, x3_stepCount, x3_open, x3_openCount, x3_seen, x3_edgeCount, x3_aim) p1 p2) (fun r => (AI 0 35 r.2.2.1) ∧ (AI 0 35 r.2.2.2.1) ∧ (AI 0 19 r.2.2.2.2.2.1) ∧ (AI 0 22 r.2.2.2.2.2.2.2.2.1) ∧ (AI 0 35 r.2.2.2.2.2.2.2.2.2.1) ∧ (0 ≤ r.2.2.2.2.2.2.2.2.2.2.1 ∧ r.2.2.2.2.2.2.2.2.2.2.1 ≤ 36) ∧ (AI 0 35 r.2.2.2.2.2.2.2.2.2.2.2.1) ∧ (0 ≤ r.2.2.2.2.2.2.2.2.2.2.2.2.1 ∧ r.2.2.2.2.2.2.2.2.2.2.2.2.1 ≤ 36) ∧ (0 ≤ r.2.2.2.2.2.2.2.2.2.2.2.2.2.2.1 ∧ r.2.2.2.2.2.2.2.2.2.2.2.2.2.2.1 ≤ 60)) := by
  unfold fX6_port
  dsimp only [u11, u14, u4]
  refine Sf.bind (sX6_isPlace ) ?_
  intro v1 hr1
  have hx_v1 : ((v1 = 1 ∧ 0 ≤ p1 ∧ p1 ≤ 11) ∨ (v1 = 0 ∧ (p1 < 0 ∨ 11 < p1))) := hr1
  refine Sf.ite (fun hc2 => ?_) (fun hc2 => ?_)
  · refine Sf.bind (sX6_refuse ) ?_
    rintro ⟨v20, g21⟩ hr3
    dsimp only [u2]
    exact Sf.ok (show (AI 0 35 x3_edgeA) ∧ (AI 0 35 x3_edgeB) ∧ (AI 0 19 x3_edgeLine) ∧ (AI 0 22 x3_steps) ∧ (AI 0 35 x3_nodes) ∧ (0 ≤ x3_stepCount ∧ x3_stepCount ≤ 36) ∧ (AI 0 35 x3_open) ∧ (0 ≤ x3_openCount ∧ x3_openCount ≤ 36) ∧ (0 ≤ x3_edgeCount ∧ x3_edgeCount ≤ 60) from ⟨h_x3_edgeA, h_x3_edgeB, h_x3_edgeLine, h_x3_steps, h_x3_nodes, h_x3_stepCount, h_x3_open, h_x3_openCount, h_x3_edgeCount⟩)
  · refine Sf.bind (sX4_tonsAt hn h_x3_edgeA h_x3_edgeB h_x3_edgeLine h_x3_steps h_x3_nodes h_x3_stepCount h_x3_open h_x3_openCount h_x3_edgeCount h_x1_lineCount h_x1_goodsCount h_x1_workCount h_x1_years h_x1_lines h_x1_goods h_x1_works h_x1_change h_x1_coin) ?_
    rintro ⟨v3, ⟨g5, g6, g7, g8, g9, g10, g11, g12, g13, g14, g15, g16, g17, g18⟩⟩ hr4
    obtain ⟨h_g5, h_g6, h_g8, h_g11, h_g12, h_g13, h_g14, h_g15, h_g17⟩ : (AI 0 35 g5) ∧ (AI 0 35 g6) ∧ (AI 0 19 g8) ∧ (AI 0 22 g11) ∧ (AI 0 35 g12) ∧ (0 ≤ g13 ∧ g13 ≤ 36) ∧ (AI 0 35 g14) ∧ (0 ≤ g15 ∧ g15 ≤ 36) ∧ (0 ≤ g17 ∧ g17 ≤ 60) := hr4
    dsimp only [u14, u2]
    exact Sf.ok (show (AI 0 35 g5) ∧ (AI 0 35 g6) ∧ (AI 0 19 g8) ∧ (AI 0 22 g11) ∧ (AI 0 35 g12) ∧ (0 ≤ g13 ∧ g13 ≤ 36) ∧ (AI 0 35 g14) ∧ (0 ≤ g15 ∧ g15 ≤ 36) ∧ (0 ≤ g17 ∧ g17 ≤ 60) from ⟨h_g5, h_g6, h_g8, h_g11, h_g12, h_g13, h_g14, h_g15, h_g17⟩)
set_option maxHeartbeats 1000000 in
theorem sX6_hangs {n : Nat} {x0_refused : (Nat → Int32)} {x0_isKept x0_gone x0_spent x1_lineCount x1_goodsCount x1_workCount x1_years : Int32} {x1_lines x1_goods x1_works x1_change x1_coin x1_knownFree : (Nat → Int32)} {x1_isKnown : Int32} {x2_left x2_earned : (Nat → Int32)} {x2_turnCost x2_turnWayless : Int32} {x3_edgeA x3_edgeB x3_edgeCost x3_edgeLine x3_change x3_away x3_steps x3_nodes : (Nat → Int32)} {x3_stepCount : Int32} {x3_open : (Nat → Int32)} {x3_openCount : Int32} {x3_seen : Int64} {x3_edgeCount x3_aim : Int32} (hn : 1000000000000 ≤ n) (h_x1_lineCount : (0 ≤ x1_lineCount ∧ x1_lineCount ≤ 20)) (h_x1_goodsCount : (0 ≤ x1_goodsCount ∧ x1_goodsCount ≤ 8)) (h_x1_workCount : (0 ≤ x1_workCount ∧ x1_workCount ≤ 7)) (h_x1_years : (1 ≤ x1_years ∧ x1_years ≤ 30)) (h_x1_lines : (LnOk x1_lines)) (h_x1_goods : (GdOk x1_goods)) (h_x1_works : (WkOk x1_works)) (h_x1_change : (AI 0 99 x1_change)) (h_x1_coin : (AI 0 9 x1_coin)) (h_x3_edgeA : (AI 0 35 x3_edgeA)) (h_x3_edgeB : (AI 0 35 x3_edgeB)) (h_x3_edgeLine : (AI 0 19 x3_edgeLine)) (h_x3_steps : (AI 0 22 x3_steps)) (h_x3_nodes : (AI 0 35 x3_nodes)) (h_x3_stepCount : (0 ≤ x3_stepCount ∧ x3_stepCount ≤ 36)) (h_x3_open : (AI 0 35 x3_open)) (h_x3_openCount : (0 ≤ x3_openCount ∧ x3_openCount ≤ 36)) (h_x3_edgeCount : (0 ≤ x3_edgeCount ∧ x3_edgeCount ≤ 60)) : Sf (fX6_hangs n (x0_refused, x0_isKept, x0_gone, x0_spent) (x1_lineCount, x1_goodsCount, x1_workCount, x1_years, x1_lines, x1_goods, x1_works, x1_change, x1_coin, x1_knownFree, x1_isKnown) (x2_left, x2_earned, x2_turnCost, x2_turnWayless) (x3_edgeA, x3_edgeB, x3_edgeCost, x3_edgeLine, x3_change, x3_away, x3_steps, x3_nodes, x3_stepCount, x3_open, x3_openCount, x3_seen, x3_edgeCount, x3_aim)) (fun r => (AI 0 35 r.2.2.1) ∧ (AI 0 35 r.2.2.2.1) ∧ (AI 0 19 r.2.2.2.2.2.1) ∧ (0 ≤ r.2.2.2.2.2.2.2.2.1 ∧ r.2.2.2.2.2.2.2.2.1 ≤ 60)) := by
  unfold fX6_hangs
  dsimp only [u11, u14, u4]
  refine Sf.bind (sX4_dearestLoss hn h_x3_edgeA h_x3_edgeB h_x3_edgeLine h_x3_steps h_x3_nodes h_x3_stepCount h_x3_open h_x3_openCount h_x3_edgeCount h_x1_lineCount h_x1_goodsCount h_x1_workCount h_x1_years h_x1_lines h_x1_goods h_x1_works h_x1_change h_x1_coin) ?_
  rintro ⟨v1, ⟨g3, g4, g5, g6, g7, g8, g9, g10⟩⟩ hr1
  obtain ⟨h_g3, h_g4, h_g6, h_g9⟩ : (AI 0 35 g3) ∧ (AI 0 35 g4) ∧ (AI 0 19 g6) ∧ (0 ≤ g9 ∧ g9 ≤ 60) := hr1
  dsimp only [u2, u8]
  refine Sf.ite (fun hc2 => ?_) (fun hc2 => ?_)
  · refine Sf.bind (sX6_refuse ) ?_
    rintro ⟨v12, g13⟩ hr3
    dsimp only [u2]
    exact Sf.ok (show (AI 0 35 g3) ∧ (AI 0 35 g4) ∧ (AI 0 19 g6) ∧ (0 ≤ g9 ∧ g9 ≤ 60) from ⟨h_g3, h_g4, h_g6, h_g9⟩)
  · exact Sf.ok (show (AI 0 35 g3) ∧ (AI 0 35 g4) ∧ (AI 0 19 g6) ∧ (0 ≤ g9 ∧ g9 ≤ 60) from ⟨h_g3, h_g4, h_g6, h_g9⟩)
set_option maxHeartbeats 1000000 in
theorem sX6_noPlan {x0_refused : (Nat → Int32)} {x0_isKept x0_gone x0_spent : Int32} {x1_elements : (Nat → Nat → Int64)} {x1_held x1_sizes : (Nat → Int32)} {p1 p2 : Int32}  (h_x1_held : (AI (-1) 16 x1_held)) (h_x1_sizes : (AI 0 40 x1_sizes)) : Sf (fX6_noPlan (x0_refused, x0_isKept, x0_gone, x0_spent) (x1_elements, x1_held, x1_sizes) p1 p2) (fun r => (r ≠ 0 ∨ (0 ≤ p1 ∧ p1 ≤ 7))) := by
  unfold fX6_noPlan
  dsimp only [u3, u4]
  refine Sf.bind (sX6_within ) ?_
  intro v1 hr1
  have hx_v1 : ((v1 = 1 ∧ 0 ≤ p2 ∧ p2 ≤ 30) ∨ (v1 = 0 ∧ (p2 < 0 ∨ 30 < p2))) := hr1
  refine Sf.ite (fun hc2 => ?_) (fun hc2 => ?_)
  · exact Sf.ok (show ((-2) ≠ 0 ∨ (0 ≤ p1 ∧ p1 ≤ 7)) from (by grind))
  · refine Sf.bind (sX6_noRow h_x1_held h_x1_sizes) ?_
    intro v3 hr3
    have hx_v3 : (v3 ≠ 0 ∨ (0 ≤ p1 ∧ p1 ≤ 7)) := hr3
    refine Sf.ite (fun hc4 => ?_) (fun hc4 => ?_)
    · refine Sf.rdI 8 rfl h_x1_sizes (by grind) (fun v5 h_v5 e_v5 => ?_)
      clear e_v5
      refine Sf.ite (fun hc5 => ?_) (fun hc5 => ?_)
      · exact Sf.ok (show (0 ≠ 0 ∨ (0 ≤ p1 ∧ p1 ≤ 7)) from (by grind))
      · exact Sf.ok (show ((-2) ≠ 0 ∨ (0 ≤ p1 ∧ p1 ≤ 7)) from (by grind))
    · exact Sf.ok (show (v3 ≠ 0 ∨ (0 ≤ p1 ∧ p1 ≤ 7)) from (by grind))
set_option maxHeartbeats 1000000 in
theorem sX6_plan {n : Nat} {x0_refused : (Nat → Int32)} {x0_isKept x0_gone x0_spent : Int32} {x1_gained : (Nat → Int32)} {x2_lineCount x2_goodsCount x2_workCount x2_years : Int32} {x2_lines x2_goods x2_works x2_change x2_coin x2_knownFree : (Nat → Int32)} {x2_isKnown x3_lineCount x3_goodsCount x3_workCount x3_years : Int32} {x3_lines x3_goods x3_works x3_change x3_coin x3_knownFree : (Nat → Int32)} {x3_isKnown : Int32} {x4_elements : (Nat → Nat → Int64)} {x4_held x4_sizes : (Nat → Int32)} {x5_lineCount x5_goodsCount x5_workCount x5_years : Int32} {x5_lines x5_goods x5_works x5_change x5_coin x5_knownFree : (Nat → Int32)} {x5_isKnown : Int32} {x6_left x6_earned : (Nat → Int32)} {x6_turnCost x6_turnWayless : Int32} {x7_edgeA x7_edgeB x7_edgeCost x7_edgeLine x7_change x7_away x7_steps x7_nodes : (Nat → Int32)} {x7_stepCount : Int32} {x7_open : (Nat → Int32)} {x7_openCount : Int32} {x7_seen : Int64} {x7_edgeCount x7_aim p1 p2 : Int32} (hn : 1000000000000 ≤ n) (h_x2_lineCount : (0 ≤ x2_lineCount ∧ x2_lineCount ≤ 20)) (h_x2_goodsCount : (0 ≤ x2_goodsCount ∧ x2_goodsCount ≤ 8)) (h_x2_workCount : (0 ≤ x2_workCount ∧ x2_workCount ≤ 7)) (h_x2_years : (1 ≤ x2_years ∧ x2_years ≤ 30)) (h_x2_lines : (LnOk x2_lines)) (h_x2_goods : (GdOk x2_goods)) (h_x2_works : (WkOk x2_works)) (h_x2_change : (AI 0 99 x2_change)) (h_x2_coin : (AI 0 9 x2_coin)) (h_x3_lineCount : (0 ≤ x3_lineCount ∧ x3_lineCount ≤ 20)) (h_x3_goodsCount : (0 ≤ x3_goodsCount ∧ x3_goodsCount ≤ 8)) (h_x3_workCount : (0 ≤ x3_workCount ∧ x3_workCount ≤ 7)) (h_x3_years : (1 ≤ x3_years ∧ x3_years ≤ 30)) (h_x3_lines : (LnOk x3_lines)) (h_x3_goods : (GdOk x3_goods)) (h_x3_works : (WkOk x3_works)) (h_x3_change : (AI 0 99 x3_change)) (h_x3_coin : (AI 0 9 x3_coin)) (h_x4_held : (AI (-1) 16 x4_held)) (h_x4_sizes : (AI 0 40 x4_sizes)) (h_x5_lineCount : (0 ≤ x5_lineCount ∧ x5_lineCount ≤ 20)) (h_x5_goodsCount : (0 ≤ x5_goodsCount ∧ x5_goodsCount ≤ 8)) (h_x5_workCount : (0 ≤ x5_workCount ∧ x5_workCount ≤ 7)) (h_x5_years : (1 ≤ x5_years ∧ x5_years ≤ 30)) (h_x5_lines : (LnOk x5_lines)) (h_x5_goods : (GdOk x5_goods)) (h_x5_works : (WkOk x5_works)) (h_x5_change : (AI 0 99 x5_change)) (h_x5_coin : (AI 0 9 x5_coin)) (h_x7_edgeA : (AI 0 35 x7_edgeA)) (h_x7_edgeB : (AI 0 35 x7_edgeB)) (h_x7_edgeLine : (AI 0 19 x7_edgeLine)) (h_x7_steps : (AI 0 22 x7_steps)) (h_x7_nodes : (AI 0 35 x7_nodes)) (h_x7_stepCount : (0 ≤ x7_stepCount ∧ x7_stepCount ≤ 36)) (h_x7_open : (AI 0 35 x7_open)) (h_x7_openCount : (0 ≤ x7_openCount ∧ x7_openCount ≤ 36)) (h_x7_edgeCount : (0 ≤ x7_edgeCount ∧ x7_edgeCount ≤ 60)) : Sf (fX6_plan n (x0_refused, x0_isKept, x0_gone, x0_spent) x1_gained (x2_lineCount, x2_goodsCount, x2_workCount, x2_years, x2_lines, x2_goods, x2_works, x2_change, x2_coin, x2_knownFree, x2_isKnown) (x3_lineCount, x3_goodsCount, x3_workCount, x3_years, x3_lines, x3_goods, x3_works, x3_change, x3_coin, x3_knownFree, x3_isKnown) (x4_elements, x4_held, x4_sizes) (x5_lineCount, x5_goodsCount, x5_workCount, x5_years, x5_lines, x5_goods, x5_works, x5_change, x5_coin, x5_knownFree, x5_isKnown) (x6_left, x6_earned, x6_turnCost, x6_turnWayless) (x7_edgeA, x7_edgeB, x7_edgeCost, x7_edgeLine, x7_change, x7_away, x7_steps, x7_nodes, x7_stepCount, x7_open, x7_openCount, x7_seen, x7_edgeCount, x7_aim) p1 p2) (fun r => (0 ≤ r.2.2.1.1 ∧ r.2.2.1.1 ≤ 20) ∧ (0 ≤ r.2.2.1.2.1 ∧ r.2.2.1.2.1 ≤ 8) ∧ (0 ≤ r.2.2.1.2.2.1 ∧ r.2.2.1.2.2.1 ≤ 7) ∧ (1 ≤ r.2.2.1.2.2.2.1 ∧ r.2.2.1.2.2.2.1 ≤ 30) ∧ (LnOk r.2.2.1.2.2.2.2.1) ∧ (GdOk r.2.2.1.2.2.2.2.2.1) ∧ (WkOk r.2.2.1.2.2.2.2.2.2.1) ∧ (AI 0 99 r.2.2.1.2.2.2.2.2.2.2.1) ∧ (AI 0 9 r.2.2.1.2.2.2.2.2.2.2.2.1) ∧ (0 ≤ r.2.2.2.1.1 ∧ r.2.2.2.1.1 ≤ 20) ∧ (0 ≤ r.2.2.2.1.2.1 ∧ r.2.2.2.1.2.1 ≤ 8) ∧ (0 ≤ r.2.2.2.1.2.2.1 ∧ r.2.2.2.1.2.2.1 ≤ 7) ∧ (1 ≤ r.2.2.2.1.2.2.2.1 ∧ r.2.2.2.1.2.2.2.1 ≤ 30) ∧ (LnOk r.2.2.2.1.2.2.2.2.1) ∧ (GdOk r.2.2.2.1.2.2.2.2.2.1) ∧ (WkOk r.2.2.2.1.2.2.2.2.2.2.1) ∧ (AI 0 99 r.2.2.2.1.2.2.2.2.2.2.2.1) ∧ (AI 0 9 r.2.2.2.1.2.2.2.2.2.2.2.2.1) ∧ (AI 0 35 r.2.2.2.2.1) ∧ (AI 0 35 r.2.2.2.2.2.1) ∧ (AI 0 19 r.2.2.2.2.2.2.2.1) ∧ (0 ≤ r.2.2.2.2.2.2.2.2.2.2.1 ∧ r.2.2.2.2.2.2.2.2.2.2.1 ≤ 60)) := by
  unfold fX6_plan
  dsimp only [u11, u14, u3, u4]
  refine Sf.bind (sX6_noPlan h_x4_held h_x4_sizes) ?_
  intro v1 hr1
  have hx_v1 : (v1 ≠ 0 ∨ (0 ≤ p1 ∧ p1 ≤ 7)) := hr1
  refine Sf.ite (fun hc2 => ?_) (fun hc2 => ?_)
  · refine Sf.ckb 8 rfl (by grind) (fun q3 e_q3 h_q3 => ?_)
    refine Sf.bind (sX0_wrongAt hn h_x5_lineCount h_x5_goodsCount h_x5_workCount h_x5_years h_x5_lines h_x5_goods h_x5_works h_x5_change h_x5_coin) ?_
    intro v4 hr3
    refine Sf.ite (fun hc4 => ?_) (fun hc4 => ?_)
    · refine Sf.ckb 8 rfl (by grind) (fun q6 e_q6 h_q6 => ?_)
      refine Sf.bind (sX0_costOfPlan hn h_x2_lineCount h_x2_goodsCount h_x2_workCount h_x2_years h_x2_lines h_x2_goods h_x2_works h_x2_change h_x2_coin h_x7_edgeA h_x7_edgeB h_x7_edgeLine h_x7_steps h_x7_nodes h_x7_stepCount h_x7_open h_x7_openCount h_x7_edgeCount h_x3_lineCount h_x3_goodsCount h_x3_workCount h_x3_years h_x3_lines h_x3_goods h_x3_works h_x3_change h_x3_coin h_x5_lineCount h_x5_goodsCount h_x5_workCount h_x5_years h_x5_lines h_x5_goods h_x5_works h_x5_change h_x5_coin) ?_
      rintro ⟨v7, ⟨g9, g10, g11, g12, g13, g14, g15, g16, g17, g18, g19⟩, ⟨g21, g22, g23, g24, g25, g26, g27, g28⟩, ⟨g30, g31, g32, g33, g34, g35, g36, g37, g38, g39⟩⟩ hr5
      obtain ⟨h_g9, h_g10, h_g11, h_g12, h_g13, h_g14, h_g15, h_g16, h_g17, h_g21, h_g22, h_g24, h_g27, h_g30, h_g31, h_g32, h_g33, h_g34, h_g35, h_g36, h_g37, h_g38⟩ : (0 ≤ g9 ∧ g9 ≤ 20) ∧ (0 ≤ g10 ∧ g10 ≤ 8) ∧ (0 ≤ g11 ∧ g11 ≤ 7) ∧ (1 ≤ g12 ∧ g12 ≤ 30) ∧ (LnOk g13) ∧ (GdOk g14) ∧ (WkOk g15) ∧ (AI 0 99 g16) ∧ (AI 0 9 g17) ∧ (AI 0 35 g21) ∧ (AI 0 35 g22) ∧ (AI 0 19 g24) ∧ (0 ≤ g27 ∧ g27 ≤ 60) ∧ (0 ≤ g30 ∧ g30 ≤ 20) ∧ (0 ≤ g31 ∧ g31 ≤ 8) ∧ (0 ≤ g32 ∧ g32 ≤ 7) ∧ (1 ≤ g33 ∧ g33 ≤ 30) ∧ (LnOk g34) ∧ (GdOk g35) ∧ (WkOk g36) ∧ (AI 0 99 g37) ∧ (AI 0 9 g38) := hr5
      dsimp only [u10, u11, u4, u8]
      exact Sf.ok (show (0 ≤ g9 ∧ g9 ≤ 20) ∧ (0 ≤ g10 ∧ g10 ≤ 8) ∧ (0 ≤ g11 ∧ g11 ≤ 7) ∧ (1 ≤ g12 ∧ g12 ≤ 30) ∧ (LnOk g13) ∧ (GdOk g14) ∧ (WkOk g15) ∧ (AI 0 99 g16) ∧ (AI 0 9 g17) ∧ (0 ≤ g30 ∧ g30 ≤ 20) ∧ (0 ≤ g31 ∧ g31 ≤ 8) ∧ (0 ≤ g32 ∧ g32 ≤ 7) ∧ (1 ≤ g33 ∧ g33 ≤ 30) ∧ (LnOk g34) ∧ (GdOk g35) ∧ (WkOk g36) ∧ (AI 0 99 g37) ∧ (AI 0 9 g38) ∧ (AI 0 35 g21) ∧ (AI 0 35 g22) ∧ (AI 0 19 g24) ∧ (0 ≤ g27 ∧ g27 ≤ 60) from ⟨h_g9, h_g10, h_g11, h_g12, h_g13, h_g14, h_g15, h_g16, h_g17, h_g30, h_g31, h_g32, h_g33, h_g34, h_g35, h_g36, h_g37, h_g38, h_g21, h_g22, h_g24, h_g27⟩)
    · refine Sf.bind (sX6_refuse ) ?_
      rintro ⟨v41, g42⟩ hr6
      dsimp only [u2]
      exact Sf.ok (show (0 ≤ x2_lineCount ∧ x2_lineCount ≤ 20) ∧ (0 ≤ x2_goodsCount ∧ x2_goodsCount ≤ 8) ∧ (0 ≤ x2_workCount ∧ x2_workCount ≤ 7) ∧ (1 ≤ x2_years ∧ x2_years ≤ 30) ∧ (LnOk x2_lines) ∧ (GdOk x2_goods) ∧ (WkOk x2_works) ∧ (AI 0 99 x2_change) ∧ (AI 0 9 x2_coin) ∧ (0 ≤ x3_lineCount ∧ x3_lineCount ≤ 20) ∧ (0 ≤ x3_goodsCount ∧ x3_goodsCount ≤ 8) ∧ (0 ≤ x3_workCount ∧ x3_workCount ≤ 7) ∧ (1 ≤ x3_years ∧ x3_years ≤ 30) ∧ (LnOk x3_lines) ∧ (GdOk x3_goods) ∧ (WkOk x3_works) ∧ (AI 0 99 x3_change) ∧ (AI 0 9 x3_coin) ∧ (AI 0 35 x7_edgeA) ∧ (AI 0 35 x7_edgeB) ∧ (AI 0 19 x7_edgeLine) ∧ (0 ≤ x7_edgeCount ∧ x7_edgeCount ≤ 60) from ⟨h_x2_lineCount, h_x2_goodsCount, h_x2_workCount, h_x2_years, h_x2_lines, h_x2_goods, h_x2_works, h_x2_change, h_x2_coin, h_x3_lineCount, h_x3_goodsCount, h_x3_workCount, h_x3_years, h_x3_lines, h_x3_goods, h_x3_works, h_x3_change, h_x3_coin, h_x7_edgeA, h_x7_edgeB, h_x7_edgeLine, h_x7_edgeCount⟩)
  · refine Sf.bind (sX6_refuse ) ?_
    rintro ⟨v44, g45⟩ hr7
    dsimp only [u2]
    exact Sf.ok (show (0 ≤ x2_lineCount ∧ x2_lineCount ≤ 20) ∧ (0 ≤ x2_goodsCount ∧ x2_goodsCount ≤ 8) ∧ (0 ≤ x2_workCount ∧ x2_workCount ≤ 7) ∧ (1 ≤ x2_years ∧ x2_years ≤ 30) ∧ (LnOk x2_lines) ∧ (GdOk x2_goods) ∧ (WkOk x2_works) ∧ (AI 0 99 x2_change) ∧ (AI 0 9 x2_coin) ∧ (0 ≤ x3_lineCount ∧ x3_lineCount ≤ 20) ∧ (0 ≤ x3_goodsCount ∧ x3_goodsCount ≤ 8) ∧ (0 ≤ x3_workCount ∧ x3_workCount ≤ 7) ∧ (1 ≤ x3_years ∧ x3_years ≤ 30) ∧ (LnOk x3_lines) ∧ (GdOk x3_goods) ∧ (WkOk x3_works) ∧ (AI 0 99 x3_change) ∧ (AI 0 9 x3_coin) ∧ (AI 0 35 x7_edgeA) ∧ (AI 0 35 x7_edgeB) ∧ (AI 0 19 x7_edgeLine) ∧ (0 ≤ x7_edgeCount ∧ x7_edgeCount ≤ 60) from ⟨h_x2_lineCount, h_x2_goodsCount, h_x2_workCount, h_x2_years, h_x2_lines, h_x2_goods, h_x2_works, h_x2_change, h_x2_coin, h_x3_lineCount, h_x3_goodsCount, h_x3_workCount, h_x3_years, h_x3_lines, h_x3_goods, h_x3_works, h_x3_change, h_x3_coin, h_x7_edgeA, h_x7_edgeB, h_x7_edgeLine, h_x7_edgeCount⟩)
set_option maxHeartbeats 1000000 in
theorem sX6_judge {n : Nat} {x0_refused : (Nat → Int32)} {x0_isKept x0_gone x0_spent : Int32} {x1_gained : (Nat → Int32)} {x2_elements : (Nat → Nat → Int64)} {x2_held x2_sizes : (Nat → Int32)} {x3_lineCount x3_goodsCount x3_workCount x3_years : Int32} {x3_lines x3_goods x3_works x3_change x3_coin x3_knownFree : (Nat → Int32)} {x3_isKnown p1 p2 : Int32} (hn : 1000000000000 ≤ n) (h_x2_held : (AI (-1) 16 x2_held)) (h_x2_sizes : (AI 0 40 x2_sizes)) (h_x3_lineCount : (0 ≤ x3_lineCount ∧ x3_lineCount ≤ 20)) (h_x3_goodsCount : (0 ≤ x3_goodsCount ∧ x3_goodsCount ≤ 8)) (h_x3_workCount : (0 ≤ x3_workCount ∧ x3_workCount ≤ 7)) (h_x3_years : (1 ≤ x3_years ∧ x3_years ≤ 30)) (h_x3_lines : (LnOk x3_lines)) (h_x3_goods : (GdOk x3_goods)) (h_x3_works : (WkOk x3_works)) (h_x3_change : (AI 0 99 x3_change)) (h_x3_coin : (AI 0 9 x3_coin)) : Sf (fX6_judge n (x0_refused, x0_isKept, x0_gone, x0_spent) x1_gained (x2_elements, x2_held, x2_sizes) (x3_lineCount, x3_goodsCount, x3_workCount, x3_years, x3_lines, x3_goods, x3_works, x3_change, x3_coin, x3_knownFree, x3_isKnown) p1 p2) (fun r => True) := by
  unfold fX6_judge
  dsimp only [u11, u3, u4]
  refine Sf.bind (sX6_noPlan h_x2_held h_x2_sizes) ?_
  intro v1 hr1
  have hx_v1 : (v1 ≠ 0 ∨ (0 ≤ p1 ∧ p1 ≤ 7)) := hr1
  refine Sf.ite (fun hc2 => ?_) (fun hc2 => ?_)
  · refine Sf.ckb 8 rfl (by grind) (fun q3 e_q3 h_q3 => ?_)
    refine Sf.bind (sX0_wrongAt hn h_x3_lineCount h_x3_goodsCount h_x3_workCount h_x3_years h_x3_lines h_x3_goods h_x3_works h_x3_change h_x3_coin) ?_
    intro v4 hr3
    exact Sf.ok trivial
  · refine Sf.bind (sX6_refuse ) ?_
    rintro ⟨v6, g7⟩ hr4
    dsimp only [u2]
    exact Sf.ok trivial
set_option maxHeartbeats 1000000 in
theorem sX6_passYear {n : Nat} {x0_refused : (Nat → Int32)} {x0_isKept x0_gone x0_spent : Int32} {x1_gained : (Nat → Int32)} {x2_lineCount x2_goodsCount x2_workCount x2_years : Int32} {x2_lines x2_goods x2_works x2_change x2_coin x2_knownFree : (Nat → Int32)} {x2_isKnown x3_lineCount x3_goodsCount x3_workCount x3_years : Int32} {x3_lines x3_goods x3_works x3_change x3_coin x3_knownFree : (Nat → Int32)} {x3_isKnown : Int32} {x4_left x4_earned : (Nat → Int32)} {x4_turnCost x4_turnWayless : Int32} {x5_edgeA x5_edgeB x5_edgeCost x5_edgeLine x5_change x5_away x5_steps x5_nodes : (Nat → Int32)} {x5_stepCount : Int32} {x5_open : (Nat → Int32)} {x5_openCount : Int32} {x5_seen : Int64} {x5_edgeCount x5_aim p1 : Int32} (hn : 1000000000000 ≤ n) (h_x2_lineCount : (0 ≤ x2_lineCount ∧ x2_lineCount ≤ 20)) (h_x2_goodsCount : (0 ≤ x2_goodsCount ∧ x2_goodsCount ≤ 8)) (h_x2_workCount : (0 ≤ x2_workCount ∧ x2_workCount ≤ 7)) (h_x2_years : (1 ≤ x2_years ∧ x2_years ≤ 30)) (h_x2_lines : (LnOk x2_lines)) (h_x2_goods : (GdOk x2_goods)) (h_x2_works : (WkOk x2_works)) (h_x2_change : (AI 0 99 x2_change)) (h_x2_coin : (AI 0 9 x2_coin)) (h_x3_lineCount : (0 ≤ x3_lineCount ∧ x3_lineCount ≤ 20)) (h_x3_goodsCount : (0 ≤ x3_goodsCount ∧ x3_goodsCount ≤ 8)) (h_x3_workCount : (0 ≤ x3_workCount ∧ x3_workCount ≤ 7)) (h_x3_years : (1 ≤ x3_years ∧ x3_years ≤ 30)) (h_x3_lines : (LnOk x3_lines)) (h_x3_goods : (GdOk x3_goods)) (h_x3_works : (WkOk x3_works)) (h_x3_change : (AI 0 99 x3_change)) (h_x3_coin : (AI 0 9 x3_coin)) (h_x5_edgeA : (AI 0 35 x5_edgeA)) (h_x5_edgeB : (AI 0 35 x5_edgeB)) (h_x5_edgeLine : (AI 0 19 x5_edgeLine)) (h_x5_steps : (AI 0 22 x5_steps)) (h_x5_nodes : (AI 0 35 x5_nodes)) (h_x5_stepCount : (0 ≤ x5_stepCount ∧ x5_stepCount ≤ 36)) (h_x5_open : (AI 0 35 x5_open)) (h_x5_openCount : (0 ≤ x5_openCount ∧ x5_openCount ≤ 36)) (h_x5_edgeCount : (0 ≤ x5_edgeCount ∧ x5_edgeCount ≤ 60)) : Sf (fX6_passYear n (x0_refused, x0_isKept, x0_gone, x0_spent) x1_gained (x2_lineCount, x2_goodsCount, x2_workCount, x2_years, x2_lines, x2_goods, x2_works, x2_change, x2_coin, x2_knownFree, x2_isKnown) (x3_lineCount, x3_goodsCount, x3_workCount, x3_years, x3_lines, x3_goods, x3_works, x3_change, x3_coin, x3_knownFree, x3_isKnown) (x4_left, x4_earned, x4_turnCost, x4_turnWayless) (x5_edgeA, x5_edgeB, x5_edgeCost, x5_edgeLine, x5_change, x5_away, x5_steps, x5_nodes, x5_stepCount, x5_open, x5_openCount, x5_seen, x5_edgeCount, x5_aim) p1) (fun r => (0 ≤ r.2.2.2.1.1 ∧ r.2.2.2.1.1 ≤ 20) ∧ (0 ≤ r.2.2.2.1.2.1 ∧ r.2.2.2.1.2.1 ≤ 8) ∧ (0 ≤ r.2.2.2.1.2.2.1 ∧ r.2.2.2.1.2.2.1 ≤ 7) ∧ (1 ≤ r.2.2.2.1.2.2.2.1 ∧ r.2.2.2.1.2.2.2.1 ≤ 30) ∧ (LnOk r.2.2.2.1.2.2.2.2.1) ∧ (GdOk r.2.2.2.1.2.2.2.2.2.1) ∧ (WkOk r.2.2.2.1.2.2.2.2.2.2.1) ∧ (AI 0 99 r.2.2.2.1.2.2.2.2.2.2.2.1) ∧ (AI 0 9 r.2.2.2.1.2.2.2.2.2.2.2.2.1) ∧ (0 ≤ r.2.2.2.2.1.1 ∧ r.2.2.2.2.1.1 ≤ 20) ∧ (LnOk r.2.2.2.2.1.2.1) ∧ (WkOk r.2.2.2.2.1.2.2.1) ∧ (AI 0 99 r.2.2.2.2.1.2.2.2.1) ∧ (AI 0 35 r.2.2.2.2.2.1) ∧ (AI 0 35 r.2.2.2.2.2.2.1) ∧ (AI 0 19 r.2.2.2.2.2.2.2.2.1) ∧ (0 ≤ r.2.2.2.2.2.2.2.2.2.2.2.1 ∧ r.2.2.2.2.2.2.2.2.2.2.2.1 ≤ 60)) := by
  unfold fX6_passYear
  dsimp only [u11, u14, u4]
  refine Sf.bind (sX0_costOfYear hn h_x5_edgeA h_x5_edgeB h_x5_edgeLine h_x5_steps h_x5_nodes h_x5_stepCount h_x5_open h_x5_openCount h_x5_edgeCount h_x2_lineCount h_x2_goodsCount h_x2_workCount h_x2_years h_x2_lines h_x2_goods h_x2_works h_x2_change h_x2_coin h_x3_lineCount h_x3_goodsCount h_x3_workCount h_x3_years h_x3_lines h_x3_goods h_x3_works h_x3_change h_x3_coin) ?_
  rintro ⟨v1, ⟨g3, g4, g5, g6, g7, g8, g9, g10⟩, ⟨g12, g13, g14, g15, g16, g17, g18, g19, g20, g21⟩, ⟨g23, g24, g25, g26, g27, g28⟩⟩ hr1
  obtain ⟨h_g3, h_g4, h_g6, h_g9, h_g12, h_g13, h_g14, h_g15, h_g16, h_g17, h_g18, h_g19, h_g20, h_g23, h_g24, h_g25, h_g26⟩ : (AI 0 35 g3) ∧ (AI 0 35 g4) ∧ (AI 0 19 g6) ∧ (0 ≤ g9 ∧ g9 ≤ 60) ∧ (0 ≤ g12 ∧ g12 ≤ 20) ∧ (0 ≤ g13 ∧ g13 ≤ 8) ∧ (0 ≤ g14 ∧ g14 ≤ 7) ∧ (1 ≤ g15 ∧ g15 ≤ 30) ∧ (LnOk g16) ∧ (GdOk g17) ∧ (WkOk g18) ∧ (AI 0 99 g19) ∧ (AI 0 9 g20) ∧ (0 ≤ g23 ∧ g23 ≤ 20) ∧ (LnOk g24) ∧ (WkOk g25) ∧ (AI 0 99 g26) := hr1
  dsimp only [u10, u4, u6, u8]
  exact Sf.ok (show (0 ≤ g12 ∧ g12 ≤ 20) ∧ (0 ≤ g13 ∧ g13 ≤ 8) ∧ (0 ≤ g14 ∧ g14 ≤ 7) ∧ (1 ≤ g15 ∧ g15 ≤ 30) ∧ (LnOk g16) ∧ (GdOk g17) ∧ (WkOk g18) ∧ (AI 0 99 g19) ∧ (AI 0 9 g20) ∧ (0 ≤ g23 ∧ g23 ≤ 20) ∧ (LnOk g24) ∧ (WkOk g25) ∧ (AI 0 99 g26) ∧ (AI 0 35 g3) ∧ (AI 0 35 g4) ∧ (AI 0 19 g6) ∧ (0 ≤ g9 ∧ g9 ≤ 60) from ⟨h_g12, h_g13, h_g14, h_g15, h_g16, h_g17, h_g18, h_g19, h_g20, h_g23, h_g24, h_g25, h_g26, h_g3, h_g4, h_g6, h_g9⟩)
set_option maxHeartbeats 1000000 in
theorem sX6_year {n : Nat} {x0_refused : (Nat → Int32)} {x0_isKept x0_gone x0_spent : Int32} {x1_gained : (Nat → Int32)} {x2_lineCount x2_goodsCount x2_workCount x2_years : Int32} {x2_lines x2_goods x2_works x2_change x2_coin x2_knownFree : (Nat → Int32)} {x2_isKnown x3_lineCount x3_goodsCount x3_workCount x3_years : Int32} {x3_lines x3_goods x3_works x3_change x3_coin x3_knownFree : (Nat → Int32)} {x3_isKnown : Int32} {x4_left x4_earned : (Nat → Int32)} {x4_turnCost x4_turnWayless : Int32} {x5_edgeA x5_edgeB x5_edgeCost x5_edgeLine x5_change x5_away x5_steps x5_nodes : (Nat → Int32)} {x5_stepCount : Int32} {x5_open : (Nat → Int32)} {x5_openCount : Int32} {x5_seen : Int64} {x5_edgeCount x5_aim p1 : Int32} (hn : 1000000000000 ≤ n) (h_x2_lineCount : (0 ≤ x2_lineCount ∧ x2_lineCount ≤ 20)) (h_x2_goodsCount : (0 ≤ x2_goodsCount ∧ x2_goodsCount ≤ 8)) (h_x2_workCount : (0 ≤ x2_workCount ∧ x2_workCount ≤ 7)) (h_x2_years : (1 ≤ x2_years ∧ x2_years ≤ 30)) (h_x2_lines : (LnOk x2_lines)) (h_x2_goods : (GdOk x2_goods)) (h_x2_works : (WkOk x2_works)) (h_x2_change : (AI 0 99 x2_change)) (h_x2_coin : (AI 0 9 x2_coin)) (h_x3_lineCount : (0 ≤ x3_lineCount ∧ x3_lineCount ≤ 20)) (h_x3_goodsCount : (0 ≤ x3_goodsCount ∧ x3_goodsCount ≤ 8)) (h_x3_workCount : (0 ≤ x3_workCount ∧ x3_workCount ≤ 7)) (h_x3_years : (1 ≤ x3_years ∧ x3_years ≤ 30)) (h_x3_lines : (LnOk x3_lines)) (h_x3_goods : (GdOk x3_goods)) (h_x3_works : (WkOk x3_works)) (h_x3_change : (AI 0 99 x3_change)) (h_x3_coin : (AI 0 9 x3_coin)) (h_x5_edgeA : (AI 0 35 x5_edgeA)) (h_x5_edgeB : (AI 0 35 x5_edgeB)) (h_x5_edgeLine : (AI 0 19 x5_edgeLine)) (h_x5_steps : (AI 0 22 x5_steps)) (h_x5_nodes : (AI 0 35 x5_nodes)) (h_x5_stepCount : (0 ≤ x5_stepCount ∧ x5_stepCount ≤ 36)) (h_x5_open : (AI 0 35 x5_open)) (h_x5_openCount : (0 ≤ x5_openCount ∧ x5_openCount ≤ 36)) (h_x5_edgeCount : (0 ≤ x5_edgeCount ∧ x5_edgeCount ≤ 60)) : Sf (fX6_year n (x0_refused, x0_isKept, x0_gone, x0_spent) x1_gained (x2_lineCount, x2_goodsCount, x2_workCount, x2_years, x2_lines, x2_goods, x2_works, x2_change, x2_coin, x2_knownFree, x2_isKnown) (x3_lineCount, x3_goodsCount, x3_workCount, x3_years, x3_lines, x3_goods, x3_works, x3_change, x3_coin, x3_knownFree, x3_isKnown) (x4_left, x4_earned, x4_turnCost, x4_turnWayless) (x5_edgeA, x5_edgeB, x5_edgeCost, x5_edgeLine, x5_change, x5_away, x5_steps, x5_nodes, x5_stepCount, x5_open, x5_openCount, x5_seen, x5_edgeCount, x5_aim) p1) (fun r => (0 ≤ r.2.2.2.2.1.1 ∧ r.2.2.2.2.1.1 ≤ 20) ∧ (0 ≤ r.2.2.2.2.1.2.1 ∧ r.2.2.2.2.1.2.1 ≤ 8) ∧ (0 ≤ r.2.2.2.2.1.2.2.1 ∧ r.2.2.2.2.1.2.2.1 ≤ 7) ∧ (1 ≤ r.2.2.2.2.1.2.2.2.1 ∧ r.2.2.2.2.1.2.2.2.1 ≤ 30) ∧ (LnOk r.2.2.2.2.1.2.2.2.2.1) ∧ (GdOk r.2.2.2.2.1.2.2.2.2.2.1) ∧ (WkOk r.2.2.2.2.1.2.2.2.2.2.2.1) ∧ (AI 0 99 r.2.2.2.2.1.2.2.2.2.2.2.2.1) ∧ (AI 0 9 r.2.2.2.2.1.2.2.2.2.2.2.2.2.1) ∧ (0 ≤ r.2.2.2.2.2.1.1 ∧ r.2.2.2.2.2.1.1 ≤ 20) ∧ (LnOk r.2.2.2.2.2.1.2.1) ∧ (WkOk r.2.2.2.2.2.1.2.2.1) ∧ (AI 0 99 r.2.2.2.2.2.1.2.2.2.1) ∧ (AI 0 35 r.2.2.2.2.2.2.1) ∧ (AI 0 35 r.2.2.2.2.2.2.2.1) ∧ (AI 0 19 r.2.2.2.2.2.2.2.2.2.1) ∧ (0 ≤ r.2.2.2.2.2.2.2.2.2.2.2.2.1 ∧ r.2.2.2.2.2.2.2.2.2.2.2.2.1 ≤ 60)) := by
  unfold fX6_year
  dsimp only [u11, u14, u4]
  refine Sf.ite (fun hc1 => ?_) (fun hc1 => ?_)
  · unfold fX6_year_j14
    refine Sf.ite (fun hc2 => ?_) (fun hc2 => absurd (by decide) hc2)
    refine Sf.bind (sX6_passYear hn h_x2_lineCount h_x2_goodsCount h_x2_workCount h_x2_years h_x2_lines h_x2_goods h_x2_works h_x2_change h_x2_coin h_x3_lineCount h_x3_goodsCount h_x3_workCount h_x3_years h_x3_lines h_x3_goods h_x3_works h_x3_change h_x3_coin h_x5_edgeA h_x5_edgeB h_x5_edgeLine h_x5_steps h_x5_nodes h_x5_stepCount h_x5_open h_x5_openCount h_x5_edgeCount) ?_
    rintro ⟨v2, g3, g4, ⟨g6, g7, g8, g9, g10, g11, g12, g13, g14, g15⟩, ⟨g17, g18, g19, g20, g21, g22⟩, ⟨g24, g25, g26, g27, g28, g29, g30, g31⟩⟩ hr3
    obtain ⟨h_g6, h_g7, h_g8, h_g9, h_g10, h_g11, h_g12, h_g13, h_g14, h_g17, h_g18, h_g19, h_g20, h_g24, h_g25, h_g27, h_g30⟩ : (0 ≤ g6 ∧ g6 ≤ 20) ∧ (0 ≤ g7 ∧ g7 ≤ 8) ∧ (0 ≤ g8 ∧ g8 ≤ 7) ∧ (1 ≤ g9 ∧ g9 ≤ 30) ∧ (LnOk g10) ∧ (GdOk g11) ∧ (WkOk g12) ∧ (AI 0 99 g13) ∧ (AI 0 9 g14) ∧ (0 ≤ g17 ∧ g17 ≤ 20) ∧ (LnOk g18) ∧ (WkOk g19) ∧ (AI 0 99 g20) ∧ (AI 0 35 g24) ∧ (AI 0 35 g25) ∧ (AI 0 19 g27) ∧ (0 ≤ g30 ∧ g30 ≤ 60) := hr3
    dsimp only [u10, u6, u8]
    exact Sf.ok (show (0 ≤ g6 ∧ g6 ≤ 20) ∧ (0 ≤ g7 ∧ g7 ≤ 8) ∧ (0 ≤ g8 ∧ g8 ≤ 7) ∧ (1 ≤ g9 ∧ g9 ≤ 30) ∧ (LnOk g10) ∧ (GdOk g11) ∧ (WkOk g12) ∧ (AI 0 99 g13) ∧ (AI 0 9 g14) ∧ (0 ≤ g17 ∧ g17 ≤ 20) ∧ (LnOk g18) ∧ (WkOk g19) ∧ (AI 0 99 g20) ∧ (AI 0 35 g24) ∧ (AI 0 35 g25) ∧ (AI 0 19 g27) ∧ (0 ≤ g30 ∧ g30 ≤ 60) from ⟨h_g6, h_g7, h_g8, h_g9, h_g10, h_g11, h_g12, h_g13, h_g14, h_g17, h_g18, h_g19, h_g20, h_g24, h_g25, h_g27, h_g30⟩)
  · refine Sf.bind (sX6_noChoice h_x3_lineCount h_x3_goodsCount h_x3_workCount h_x3_years h_x3_lines h_x3_goods h_x3_works h_x3_change h_x3_coin) ?_
    intro v36 hr4
    have hx_v36 : (v36 ≠ 0 ∨ (0 ≤ p1 ∧ p1 < x3_workCount)) := hr4
    unfold fX6_year_j14
    refine Sf.ite (fun hc5 => ?_) (fun hc5 => ?_)
    · refine Sf.bind (sX6_passYear hn h_x2_lineCount h_x2_goodsCount h_x2_workCount h_x2_years h_x2_lines h_x2_goods h_x2_works h_x2_change h_x2_coin h_x3_lineCount h_x3_goodsCount h_x3_workCount h_x3_years h_x3_lines h_x3_goods h_x3_works h_x3_change h_x3_coin h_x5_edgeA h_x5_edgeB h_x5_edgeLine h_x5_steps h_x5_nodes h_x5_stepCount h_x5_open h_x5_openCount h_x5_edgeCount) ?_
      rintro ⟨v2, g3, g4, ⟨g6, g7, g8, g9, g10, g11, g12, g13, g14, g15⟩, ⟨g17, g18, g19, g20, g21, g22⟩, ⟨g24, g25, g26, g27, g28, g29, g30, g31⟩⟩ hr6
      obtain ⟨h_g6, h_g7, h_g8, h_g9, h_g10, h_g11, h_g12, h_g13, h_g14, h_g17, h_g18, h_g19, h_g20, h_g24, h_g25, h_g27, h_g30⟩ : (0 ≤ g6 ∧ g6 ≤ 20) ∧ (0 ≤ g7 ∧ g7 ≤ 8) ∧ (0 ≤ g8 ∧ g8 ≤ 7) ∧ (1 ≤ g9 ∧ g9 ≤ 30) ∧ (LnOk g10) ∧ (GdOk g11) ∧ (WkOk g12) ∧ (AI 0 99 g13) ∧ (AI 0 9 g14) ∧ (0 ≤ g17 ∧ g17 ≤ 20) ∧ (LnOk g18) ∧ (WkOk g19) ∧ (AI 0 99 g20) ∧ (AI 0 35 g24) ∧ (AI 0 35 g25) ∧ (AI 0 19 g27) ∧ (0 ≤ g30 ∧ g30 ≤ 60) := hr6
      dsimp only [u10, u6, u8]
      exact Sf.ok (show (0 ≤ g6 ∧ g6 ≤ 20) ∧ (0 ≤ g7 ∧ g7 ≤ 8) ∧ (0 ≤ g8 ∧ g8 ≤ 7) ∧ (1 ≤ g9 ∧ g9 ≤ 30) ∧ (LnOk g10) ∧ (GdOk g11) ∧ (WkOk g12) ∧ (AI 0 99 g13) ∧ (AI 0 9 g14) ∧ (0 ≤ g17 ∧ g17 ≤ 20) ∧ (LnOk g18) ∧ (WkOk g19) ∧ (AI 0 99 g20) ∧ (AI 0 35 g24) ∧ (AI 0 35 g25) ∧ (AI 0 19 g27) ∧ (0 ≤ g30 ∧ g30 ≤ 60) from ⟨h_g6, h_g7, h_g8, h_g9, h_g10, h_g11, h_g12, h_g13, h_g14, h_g17, h_g18, h_g19, h_g20, h_g24, h_g25, h_g27, h_g30⟩)
    · refine Sf.bind (sX6_refuse ) ?_
      rintro ⟨v33, g34⟩ hr7
      dsimp only [u2]
      exact Sf.ok (show (0 ≤ x2_lineCount ∧ x2_lineCount ≤ 20) ∧ (0 ≤ x2_goodsCount ∧ x2_goodsCount ≤ 8) ∧ (0 ≤ x2_workCount ∧ x2_workCount ≤ 7) ∧ (1 ≤ x2_years ∧ x2_years ≤ 30) ∧ (LnOk x2_lines) ∧ (GdOk x2_goods) ∧ (WkOk x2_works) ∧ (AI 0 99 x2_change) ∧ (AI 0 9 x2_coin) ∧ (0 ≤ x3_lineCount ∧ x3_lineCount ≤ 20) ∧ (LnOk x3_lines) ∧ (WkOk x3_works) ∧ (AI 0 99 x3_change) ∧ (AI 0 35 x5_edgeA) ∧ (AI 0 35 x5_edgeB) ∧ (AI 0 19 x5_edgeLine) ∧ (0 ≤ x5_edgeCount ∧ x5_edgeCount ≤ 60) from ⟨h_x2_lineCount, h_x2_goodsCount, h_x2_workCount, h_x2_years, h_x2_lines, h_x2_goods, h_x2_works, h_x2_change, h_x2_coin, h_x3_lineCount, h_x3_lines, h_x3_works, h_x3_change, h_x5_edgeA, h_x5_edgeB, h_x5_edgeLine, h_x5_edgeCount⟩)
theorem TX6_run_s21 {n : Nat} {p1 : Int32} {x0_refused : (Nat → Int32)} {x0_isKept : Int32} {x1_gained x2_knownFree : (Nat → Int32)} {x3_goodsCount x3_workCount x3_years : Int32} {x3_goods x3_coin x4_left x4_earned : (Nat → Int32)} {x4_turnCost x4_turnWayless : Int32} {x5_steps x5_nodes : (Nat → Int32)} {x5_stepCount : Int32} {x5_open : (Nat → Int32)} {x5_openCount : Int32} {x5_seen : Int64} {z4 z5 z6 z7 z8 z9 z10 z11 : Int32} {z12 z13 z14 z15 z16 : (Nat → Int32)} {z17 z18 : Int32} {z19 z20 z21 z22 : (Nat → Int32)} {z23 : Int32} {z24 z25 z26 z27 z28 z29 : (Nat → Int32)} {z30 z31 : Int32} (hn : 1000000000000 ≤ n) (h_x3_goodsCount : (0 ≤ x3_goodsCount ∧ x3_goodsCount ≤ 8)) (h_x3_workCount : (0 ≤ x3_workCount ∧ x3_workCount ≤ 7)) (h_x3_years : (1 ≤ x3_years ∧ x3_years ≤ 30)) (h_x3_goods : (GdOk x3_goods)) (h_x3_coin : (AI 0 9 x3_coin)) (h_x5_steps : (AI 0 22 x5_steps)) (h_x5_nodes : (AI 0 35 x5_nodes)) (h_x5_stepCount : (0 ≤ x5_stepCount ∧ x5_stepCount ≤ 36)) (h_x5_open : (AI 0 35 x5_open)) (h_x5_openCount : (0 ≤ x5_openCount ∧ x5_openCount ≤ 36)) (h_z5 : (0 ≤ z5)) (h_z8 : (0 ≤ z8 ∧ z8 ≤ 20)) (h_z9 : (0 ≤ z9 ∧ z9 ≤ 8)) (h_z10 : (0 ≤ z10 ∧ z10 ≤ 7)) (h_z11 : (1 ≤ z11 ∧ z11 ≤ 30)) (h_z12 : (LnOk z12)) (h_z13 : (GdOk z13)) (h_z14 : (WkOk z14)) (h_z15 : (AI 0 99 z15)) (h_z16 : (AI 0 9 z16)) (h_z18 : (0 ≤ z18 ∧ z18 ≤ 20)) (h_z19 : (LnOk z19)) (h_z20 : (WkOk z20)) (h_z21 : (AI 0 99 z21)) (h_z24 : (AI 0 35 z24)) (h_z25 : (AI 0 35 z25)) (h_z27 : (AI 0 19 z27)) (h_z30 : (0 ≤ z30 ∧ z30 ≤ 60)) : Sf (fX6_run_s21 n p1 x0_refused x0_isKept x1_gained x2_knownFree x3_goodsCount x3_workCount x3_years x3_goods x3_coin x4_left x4_earned x4_turnCost x4_turnWayless x5_steps x5_nodes x5_stepCount x5_open x5_openCount x5_seen z4 z5 z6 z7 z8 z9 z10 z11 z12 z13 z14 z15 z16 z17 z18 z19 z20 z21 z22 z23 z24 z25 z26 z27 z28 z29 z30 z31) (LQ (u28 (fun z4 z5 z6 z7 z8 z9 z10 z11 z12 z13 z14 z15 z16 z17 z18 z19 z20 z21 z22 z23 z24 z25 z26 z27 z28 z29 z30 z31 => (0 ≤ z5) ∧ (0 ≤ z8 ∧ z8 ≤ 20) ∧ (0 ≤ z9 ∧ z9 ≤ 8) ∧ (0 ≤ z10 ∧ z10 ≤ 7) ∧ (1 ≤ z11 ∧ z11 ≤ 30) ∧ (LnOk z12) ∧ (GdOk z13) ∧ (WkOk z14) ∧ (AI 0 99 z15) ∧ (AI 0 9 z16) ∧ (0 ≤ z18 ∧ z18 ≤ 20) ∧ (LnOk z19) ∧ (WkOk z20) ∧ (AI 0 99 z21) ∧ (AI 0 35 z24) ∧ (AI 0 35 z25) ∧ (AI 0 19 z27) ∧ (0 ≤ z30 ∧ z30 ≤ 60))) (u28 (fun z4 z5 z6 z7 z8 z9 z10 z11 z12 z13 z14 z15 z16 z17 z18 z19 z20 z21 z22 z23 z24 z25 z26 z27 z28 z29 z30 z31 => muUp z5)) (muUp z5) (fun e => (0 ≤ e.2.2.2.1 ∧ e.2.2.2.1 ≤ 20) ∧ (0 ≤ e.2.2.2.2.1 ∧ e.2.2.2.2.1 ≤ 8) ∧ (0 ≤ e.2.2.2.2.2.1 ∧ e.2.2.2.2.2.1 ≤ 7) ∧ (1 ≤ e.2.2.2.2.2.2.1 ∧ e.2.2.2.2.2.2.1 ≤ 30) ∧ (LnOk e.2.2.2.2.2.2.2.1) ∧ (GdOk e.2.2.2.2.2.2.2.2.1) ∧ (WkOk e.2.2.2.2.2.2.2.2.2.1) ∧ (AI 0 99 e.2.2.2.2.2.2.2.2.2.2.1) ∧ (AI 0 9 e.2.2.2.2.2.2.2.2.2.2.2.1) ∧ (0 ≤ e.2.2.2.2.2.2.2.2.2.2.2.2.2.1 ∧ e.2.2.2.2.2.2.2.2.2.2.2.2.2.1 ≤ 20) ∧ (LnOk e.2.2.2.2.2.2.2.2.2.2.2.2.2.2.1) ∧ (WkOk e.2.2.2.2.2.2.2.2.2.2.2.2.2.2.2.1) ∧ (AI 0 99 e.2.2.2.2.2.2.2.2.2.2.2.2.2.2.2.2.1) ∧ (AI 0 35 e.2.2.2.2.2.2.2.2.2.2.2.2.2.2.2.2.2.2.2.1) ∧ (AI 0 35 e.2.2.2.2.2.2.2.2.2.2.2.2.2.2.2.2.2.2.2.2.1) ∧ (AI 0 19 e.2.2.2.2.2.2.2.2.2.2.2.2.2.2.2.2.2.2.2.2.2.2.1) ∧ (0 ≤ e.2.2.2.2.2.2.2.2.2.2.2.2.2.2.2.2.2.2.2.2.2.2.2.2.2.1 ∧ e.2.2.2.2.2.2.2.2.2.2.2.2.2.2.2.2.2.2.2.2.2.2.2.2.2.1 ≤ 60))) := by
  unfold fX6_run_s21
  refine Sf.ite (fun hc1 => ?_) (fun hc1 => ?_)
  · exact Sf.inr (show (0 ≤ z8 ∧ z8 ≤ 20) ∧ (0 ≤ z9 ∧ z9 ≤ 8) ∧ (0 ≤ z10 ∧ z10 ≤ 7) ∧ (1 ≤ z11 ∧ z11 ≤ 30) ∧ (LnOk z12) ∧ (GdOk z13) ∧ (WkOk z14) ∧ (AI 0 99 z15) ∧ (AI 0 9 z16) ∧ (0 ≤ z18 ∧ z18 ≤ 20) ∧ (LnOk z19) ∧ (WkOk z20) ∧ (AI 0 99 z21) ∧ (AI 0 35 z24) ∧ (AI 0 35 z25) ∧ (AI 0 19 z27) ∧ (0 ≤ z30 ∧ z30 ≤ 60) from ⟨h_z8, h_z9, h_z10, h_z11, h_z12, h_z13, h_z14, h_z15, h_z16, h_z18, h_z19, h_z20, h_z21, h_z24, h_z25, h_z27, h_z30⟩)
  · refine Sf.bind (sX0_firstOf hn h_z24 h_z25 h_z27 h_x5_steps h_x5_nodes h_x5_stepCount h_x5_open h_x5_openCount h_z30 h_z8 h_z9 h_z10 h_z11 h_z12 h_z13 h_z14 h_z15 h_z16 h_z18 h_x3_goodsCount h_x3_workCount h_x3_years h_z19 h_x3_goods h_z20 h_z21 h_x3_coin) ?_
    rintro ⟨v60, ⟨g62, g63, g64, g65, g66, g67, g68, g69⟩, ⟨g71, g72, g73, g74, g75, g76, g77, g78, g79, g80⟩, ⟨g82, g83, g84, g85, g86⟩⟩ hr2
    obtain ⟨h_v60, h_g62, h_g63, h_g65, h_g68, h_g71, h_g72, h_g73, h_g74, h_g75, h_g76, h_g77, h_g78, h_g79, h_g82, h_g83, h_g84⟩ : ((-1) ≤ v60 ∧ v60 ≤ 6) ∧ (AI 0 35 g62) ∧ (AI 0 35 g63) ∧ (AI 0 19 g65) ∧ (0 ≤ g68 ∧ g68 ≤ 60) ∧ (0 ≤ g71 ∧ g71 ≤ 20) ∧ (0 ≤ g72 ∧ g72 ≤ 8) ∧ (0 ≤ g73 ∧ g73 ≤ 7) ∧ (1 ≤ g74 ∧ g74 ≤ 30) ∧ (LnOk g75) ∧ (GdOk g76) ∧ (WkOk g77) ∧ (AI 0 99 g78) ∧ (AI 0 9 g79) ∧ (0 ≤ g82 ∧ g82 ≤ 20) ∧ (LnOk g83) ∧ (AI 0 99 g84) := hr2
    dsimp only [u10, u4, u5, u8]
    refine Sf.bind (sX6_passYear hn h_g71 h_g72 h_g73 h_g74 h_g75 h_g76 h_g77 h_g78 h_g79 h_g82 h_x3_goodsCount h_x3_workCount h_x3_years h_g83 h_x3_goods h_z20 h_g84 h_x3_coin h_g62 h_g63 h_g65 h_x5_steps h_x5_nodes h_x5_stepCount h_x5_open h_x5_openCount h_g68) ?_
    rintro ⟨v88, g89, g90, ⟨g92, g93, g94, g95, g96, g97, g98, g99, g100, g101⟩, ⟨g103, g104, g105, g106, g107, g108⟩, ⟨g110, g111, g112, g113, g114, g115, g116, g117⟩⟩ hr3
    obtain ⟨h_g92, h_g93, h_g94, h_g95, h_g96, h_g97, h_g98, h_g99, h_g100, h_g103, h_g104, h_g105, h_g106, h_g110, h_g111, h_g113, h_g116⟩ : (0 ≤ g92 ∧ g92 ≤ 20) ∧ (0 ≤ g93 ∧ g93 ≤ 8) ∧ (0 ≤ g94 ∧ g94 ≤ 7) ∧ (1 ≤ g95 ∧ g95 ≤ 30) ∧ (LnOk g96) ∧ (GdOk g97) ∧ (WkOk g98) ∧ (AI 0 99 g99) ∧ (AI 0 9 g100) ∧ (0 ≤ g103 ∧ g103 ≤ 20) ∧ (LnOk g104) ∧ (WkOk g105) ∧ (AI 0 99 g106) ∧ (AI 0 35 g110) ∧ (AI 0 35 g111) ∧ (AI 0 19 g113) ∧ (0 ≤ g116 ∧ g116 ≤ 60) := hr3
    dsimp only [u10, u6, u8]
    exact Sf.inl (show (0 ≤ (z5 + 1)) ∧ (0 ≤ g92 ∧ g92 ≤ 20) ∧ (0 ≤ g93 ∧ g93 ≤ 8) ∧ (0 ≤ g94 ∧ g94 ≤ 7) ∧ (1 ≤ g95 ∧ g95 ≤ 30) ∧ (LnOk g96) ∧ (GdOk g97) ∧ (WkOk g98) ∧ (AI 0 99 g99) ∧ (AI 0 9 g100) ∧ (0 ≤ g103 ∧ g103 ≤ 20) ∧ (LnOk g104) ∧ (WkOk g105) ∧ (AI 0 99 g106) ∧ (AI 0 35 g110) ∧ (AI 0 35 g111) ∧ (AI 0 19 g113) ∧ (0 ≤ g116 ∧ g116 ≤ 60) from ⟨(by grind), h_g92, h_g93, h_g94, h_g95, h_g96, h_g97, h_g98, h_g99, h_g100, h_g103, h_g104, h_g105, h_g106, h_g110, h_g111, h_g113, h_g116⟩) (muUp_lt hc1)
theorem LX6_run_s21 {n : Nat} {p1 : Int32} {x0_refused : (Nat → Int32)} {x0_isKept : Int32} {x1_gained x2_knownFree : (Nat → Int32)} {x3_goodsCount x3_workCount x3_years : Int32} {x3_goods x3_coin x4_left x4_earned : (Nat → Int32)} {x4_turnCost x4_turnWayless : Int32} {x5_steps x5_nodes : (Nat → Int32)} {x5_stepCount : Int32} {x5_open : (Nat → Int32)} {x5_openCount : Int32} {x5_seen : Int64} {z4 z5 z6 z7 z8 z9 z10 z11 : Int32} {z12 z13 z14 z15 z16 : (Nat → Int32)} {z17 z18 : Int32} {z19 z20 z21 z22 : (Nat → Int32)} {z23 : Int32} {z24 z25 z26 z27 z28 z29 : (Nat → Int32)} {z30 z31 : Int32} (hn : 1000000000000 ≤ n) (h_x3_goodsCount : (0 ≤ x3_goodsCount ∧ x3_goodsCount ≤ 8)) (h_x3_workCount : (0 ≤ x3_workCount ∧ x3_workCount ≤ 7)) (h_x3_years : (1 ≤ x3_years ∧ x3_years ≤ 30)) (h_x3_goods : (GdOk x3_goods)) (h_x3_coin : (AI 0 9 x3_coin)) (h_x5_steps : (AI 0 22 x5_steps)) (h_x5_nodes : (AI 0 35 x5_nodes)) (h_x5_stepCount : (0 ≤ x5_stepCount ∧ x5_stepCount ≤ 36)) (h_x5_open : (AI 0 35 x5_open)) (h_x5_openCount : (0 ≤ x5_openCount ∧ x5_openCount ≤ 36)) (h_z5 : (0 ≤ z5)) (h_z8 : (0 ≤ z8 ∧ z8 ≤ 20)) (h_z9 : (0 ≤ z9 ∧ z9 ≤ 8)) (h_z10 : (0 ≤ z10 ∧ z10 ≤ 7)) (h_z11 : (1 ≤ z11 ∧ z11 ≤ 30)) (h_z12 : (LnOk z12)) (h_z13 : (GdOk z13)) (h_z14 : (WkOk z14)) (h_z15 : (AI 0 99 z15)) (h_z16 : (AI 0 9 z16)) (h_z18 : (0 ≤ z18 ∧ z18 ≤ 20)) (h_z19 : (LnOk z19)) (h_z20 : (WkOk z20)) (h_z21 : (AI 0 99 z21)) (h_z24 : (AI 0 35 z24)) (h_z25 : (AI 0 35 z25)) (h_z27 : (AI 0 19 z27)) (h_z30 : (0 ≤ z30 ∧ z30 ≤ 60)) : Sf (lp (u28 (fX6_run_s21 n p1 x0_refused x0_isKept x1_gained x2_knownFree x3_goodsCount x3_workCount x3_years x3_goods x3_coin x4_left x4_earned x4_turnCost x4_turnWayless x5_steps x5_nodes x5_stepCount x5_open x5_openCount x5_seen)) n (z4, z5, z6, z7, z8, z9, z10, z11, z12, z13, z14, z15, z16, z17, z18, z19, z20, z21, z22, z23, z24, z25, z26, z27, z28, z29, z30, z31)) (fun e => (0 ≤ e.2.2.2.1 ∧ e.2.2.2.1 ≤ 20) ∧ (0 ≤ e.2.2.2.2.1 ∧ e.2.2.2.2.1 ≤ 8) ∧ (0 ≤ e.2.2.2.2.2.1 ∧ e.2.2.2.2.2.1 ≤ 7) ∧ (1 ≤ e.2.2.2.2.2.2.1 ∧ e.2.2.2.2.2.2.1 ≤ 30) ∧ (LnOk e.2.2.2.2.2.2.2.1) ∧ (GdOk e.2.2.2.2.2.2.2.2.1) ∧ (WkOk e.2.2.2.2.2.2.2.2.2.1) ∧ (AI 0 99 e.2.2.2.2.2.2.2.2.2.2.1) ∧ (AI 0 9 e.2.2.2.2.2.2.2.2.2.2.2.1) ∧ (0 ≤ e.2.2.2.2.2.2.2.2.2.2.2.2.2.1 ∧ e.2.2.2.2.2.2.2.2.2.2.2.2.2.1 ≤ 20) ∧ (LnOk e.2.2.2.2.2.2.2.2.2.2.2.2.2.2.1) ∧ (WkOk e.2.2.2.2.2.2.2.2.2.2.2.2.2.2.2.1) ∧ (AI 0 99 e.2.2.2.2.2.2.2.2.2.2.2.2.2.2.2.2.1) ∧ (AI 0 35 e.2.2.2.2.2.2.2.2.2.2.2.2.2.2.2.2.2.2.2.1) ∧ (AI 0 35 e.2.2.2.2.2.2.2.2.2.2.2.2.2.2.2.2.2.2.2.2.1) ∧ (AI 0 19 e.2.2.2.2.2.2.2.2.2.2.2.2.2.2.2.2.2.2.2.2.2.2.1) ∧ (0 ≤ e.2.2.2.2.2.2.2.2.2.2.2.2.2.2.2.2.2.2.2.2.2.2.2.2.2.1 ∧ e.2.2.2.2.2.2.2.2.2.2.2.2.2.2.2.2.2.2.2.2.2.2.2.2.2.1 ≤ 60)) :=
  Sf.loop28 (fun z4 z5 z6 z7 z8 z9 z10 z11 z12 z13 z14 z15 z16 z17 z18 z19 z20 z21 z22 z23 z24 z25 z26 z27 z28 z29 z30 z31 => (0 ≤ z5) ∧ (0 ≤ z8 ∧ z8 ≤ 20) ∧ (0 ≤ z9 ∧ z9 ≤ 8) ∧ (0 ≤ z10 ∧ z10 ≤ 7) ∧ (1 ≤ z11 ∧ z11 ≤ 30) ∧ (LnOk z12) ∧ (GdOk z13) ∧ (WkOk z14) ∧ (AI 0 99 z15) ∧ (AI 0 9 z16) ∧ (0 ≤ z18 ∧ z18 ≤ 20) ∧ (LnOk z19) ∧ (WkOk z20) ∧ (AI 0 99 z21) ∧ (AI 0 35 z24) ∧ (AI 0 35 z25) ∧ (AI 0 19 z27) ∧ (0 ≤ z30 ∧ z30 ≤ 60)) (fun z4 z5 z6 z7 z8 z9 z10 z11 z12 z13 z14 z15 z16 z17 z18 z19 z20 z21 z22 z23 z24 z25 z26 z27 z28 z29 z30 z31 => muUp z5) (fun z4 z5 z6 z7 z8 z9 z10 z11 z12 z13 z14 z15 z16 z17 z18 z19 z20 z21 z22 z23 z24 z25 z26 z27 z28 z29 z30 z31 h => TX6_run_s21 hn h_x3_goodsCount h_x3_workCount h_x3_years h_x3_goods h_x3_coin h_x5_steps h_x5_nodes h_x5_stepCount h_x5_open h_x5_openCount h.1 h.2.1 h.2.2.1 h.2.2.2.1 h.2.2.2.2.1 h.2.2.2.2.2.1 h.2.2.2.2.2.2.1 h.2.2.2.2.2.2.2.1 h.2.2.2.2.2.2.2.2.1 h.2.2.2.2.2.2.2.2.2.1 h.2.2.2.2.2.2.2.2.2.2.1 h.2.2.2.2.2.2.2.2.2.2.2.1 h.2.2.2.2.2.2.2.2.2.2.2.2.1 h.2.2.2.2.2.2.2.2.2.2.2.2.2.1 h.2.2.2.2.2.2.2.2.2.2.2.2.2.2.1 h.2.2.2.2.2.2.2.2.2.2.2.2.2.2.2.1 h.2.2.2.2.2.2.2.2.2.2.2.2.2.2.2.2.1 h.2.2.2.2.2.2.2.2.2.2.2.2.2.2.2.2.2) (show (0 ≤ z5) ∧ (0 ≤ z8 ∧ z8 ≤ 20) ∧ (0 ≤ z9 ∧ z9 ≤ 8) ∧ (0 ≤ z10 ∧ z10 ≤ 7) ∧ (1 ≤ z11 ∧ z11 ≤ 30) ∧ (LnOk z12) ∧ (GdOk z13) ∧ (WkOk z14) ∧ (AI 0 99 z15) ∧ (AI 0 9 z16) ∧ (0 ≤ z18 ∧ z18 ≤ 20) ∧ (LnOk z19) ∧ (WkOk z20) ∧ (AI 0 99 z21) ∧ (AI 0 35 z24) ∧ (AI 0 35 z25) ∧ (AI 0 19 z27) ∧ (0 ≤ z30 ∧ z30 ≤ 60) from ⟨h_z5, h_z8, h_z9, h_z10, h_z11, h_z12, h_z13, h_z14, h_z15, h_z16, h_z18, h_z19, h_z20, h_z21, h_z24, h_z25, h_z27, h_z30⟩) (muUp_n hn)
set_option maxHeartbeats 1000000 in
theorem sX6_run {n : Nat} {x0_refused : (Nat → Int32)} {x0_isKept x0_gone x0_spent : Int32} {x1_gained : (Nat → Int32)} {x2_lineCount x2_goodsCount x2_workCount x2_years : Int32} {x2_lines x2_goods x2_works x2_change x2_coin x2_knownFree : (Nat → Int32)} {x2_isKnown x3_lineCount x3_goodsCount x3_workCount x3_years : Int32} {x3_lines x3_goods x3_works x3_change x3_coin x3_knownFree : (Nat → Int32)} {x3_isKnown : Int32} {x4_left x4_earned : (Nat → Int32)} {x4_turnCost x4_turnWayless : Int32} {x5_edgeA x5_edgeB x5_edgeCost x5_edgeLine x5_change x5_away x5_steps x5_nodes : (Nat → Int32)} {x5_stepCount : Int32} {x5_open : (Nat → Int32)} {x5_openCount : Int32} {x5_seen : Int64} {x5_edgeCount x5_aim p1 : Int32} (hn : 1000000000000 ≤ n) (h_x2_lineCount : (0 ≤ x2_lineCount ∧ x2_lineCount ≤ 20)) (h_x2_goodsCount : (0 ≤ x2_goodsCount ∧ x2_goodsCount ≤ 8)) (h_x2_workCount : (0 ≤ x2_workCount ∧ x2_workCount ≤ 7)) (h_x2_years : (1 ≤ x2_years ∧ x2_years ≤ 30)) (h_x2_lines : (LnOk x2_lines)) (h_x2_goods : (GdOk x2_goods)) (h_x2_works : (WkOk x2_works)) (h_x2_change : (AI 0 99 x2_change)) (h_x2_coin : (AI 0 9 x2_coin)) (h_x3_lineCount : (0 ≤ x3_lineCount ∧ x3_lineCount ≤ 20)) (h_x3_goodsCount : (0 ≤ x3_goodsCount ∧ x3_goodsCount ≤ 8)) (h_x3_workCount : (0 ≤ x3_workCount ∧ x3_workCount ≤ 7)) (h_x3_years : (1 ≤ x3_years ∧ x3_years ≤ 30)) (h_x3_lines : (LnOk x3_lines)) (h_x3_goods : (GdOk x3_goods)) (h_x3_works : (WkOk x3_works)) (h_x3_change : (AI 0 99 x3_change)) (h_x3_coin : (AI 0 9 x3_coin)) (h_x5_edgeA : (AI 0 35 x5_edgeA)) (h_x5_edgeB : (AI 0 35 x5_edgeB)) (h_x5_edgeLine : (AI 0 19 x5_edgeLine)) (h_x5_steps : (AI 0 22 x5_steps)) (h_x5_nodes : (AI 0 35 x5_nodes)) (h_x5_stepCount : (0 ≤ x5_stepCount ∧ x5_stepCount ≤ 36)) (h_x5_open : (AI 0 35 x5_open)) (h_x5_openCount : (0 ≤ x5_openCount ∧ x5_openCount ≤ 36)) (h_x5_edgeCount : (0 ≤ x5_edgeCount ∧ x5_edgeCount ≤ 60)) : Sf (fX6_run n (x0_refused, x0_isKept, x0_gone, x0_spent) x1_gained (x2_lineCount, x2_goodsCount, x2_workCount, x2_years, x2_lines, x2_goods, x2_works, x2_change, x2_coin, x2_knownFree, x2_isKnown) (x3_lineCount, x3_goodsCount, x3_workCount, x3_years, x3_lines, x3_goods, x3_works, x3_change, x3_coin, x3_knownFree, x3_isKnown) (x4_left, x4_earned, x4_turnCost, x4_turnWayless) (x5_edgeA, x5_edgeB, x5_edgeCost, x5_edgeLine, x5_change, x5_away, x5_steps, x5_nodes, x5_stepCount, x5_open, x5_openCount, x5_seen, x5_edgeCount, x5_aim) p1) (fun r => (0 ≤ r.2.2.2.2.1.1 ∧ r.2.2.2.2.1.1 ≤ 20) ∧ (0 ≤ r.2.2.2.2.1.2.1 ∧ r.2.2.2.2.1.2.1 ≤ 8) ∧ (0 ≤ r.2.2.2.2.1.2.2.1 ∧ r.2.2.2.2.1.2.2.1 ≤ 7) ∧ (1 ≤ r.2.2.2.2.1.2.2.2.1 ∧ r.2.2.2.2.1.2.2.2.1 ≤ 30) ∧ (LnOk r.2.2.2.2.1.2.2.2.2.1) ∧ (GdOk r.2.2.2.2.1.2.2.2.2.2.1) ∧ (WkOk r.2.2.2.2.1.2.2.2.2.2.2.1) ∧ (AI 0 99 r.2.2.2.2.1.2.2.2.2.2.2.2.1) ∧ (AI 0 9 r.2.2.2.2.1.2.2.2.2.2.2.2.2.1) ∧ (0 ≤ r.2.2.2.2.2.1.1 ∧ r.2.2.2.2.2.1.1 ≤ 20) ∧ (LnOk r.2.2.2.2.2.1.2.1) ∧ (WkOk r.2.2.2.2.2.1.2.2.1) ∧ (AI 0 99 r.2.2.2.2.2.1.2.2.2.1) ∧ (AI 0 35 r.2.2.2.2.2.2.1) ∧ (AI 0 35 r.2.2.2.2.2.2.2.1) ∧ (AI 0 19 r.2.2.2.2.2.2.2.2.2.1) ∧ (0 ≤ r.2.2.2.2.2.2.2.2.2.2.2.2.1 ∧ r.2.2.2.2.2.2.2.2.2.2.2.2.1 ≤ 60)) := by
  unfold fX6_run
  dsimp only [u11, u14, u4]
  refine Sf.bind (sX6_within ) ?_
  intro v1 hr1
  have hx_v1 : ((v1 = 1 ∧ 1 ≤ p1 ∧ p1 ≤ 20) ∨ (v1 = 0 ∧ (p1 < 1 ∨ 20 < p1))) := hr1
  refine Sf.ite (fun hc2 => ?_) (fun hc2 => ?_)
  · refine Sf.bind (sX6_refuse ) ?_
    rintro ⟨v119, g120⟩ hr3
    dsimp only [u2]
    exact Sf.ok (show (0 ≤ x2_lineCount ∧ x2_lineCount ≤ 20) ∧ (0 ≤ x2_goodsCount ∧ x2_goodsCount ≤ 8) ∧ (0 ≤ x2_workCount ∧ x2_workCount ≤ 7) ∧ (1 ≤ x2_years ∧ x2_years ≤ 30) ∧ (LnOk x2_lines) ∧ (GdOk x2_goods) ∧ (WkOk x2_works) ∧ (AI 0 99 x2_change) ∧ (AI 0 9 x2_coin) ∧ (0 ≤ x3_lineCount ∧ x3_lineCount ≤ 20) ∧ (LnOk x3_lines) ∧ (WkOk x3_works) ∧ (AI 0 99 x3_change) ∧ (AI 0 35 x5_edgeA) ∧ (AI 0 35 x5_edgeB) ∧ (AI 0 19 x5_edgeLine) ∧ (0 ≤ x5_edgeCount ∧ x5_edgeCount ≤ 60) from ⟨h_x2_lineCount, h_x2_goodsCount, h_x2_workCount, h_x2_years, h_x2_lines, h_x2_goods, h_x2_works, h_x2_change, h_x2_coin, h_x3_lineCount, h_x3_lines, h_x3_works, h_x3_change, h_x5_edgeA, h_x5_edgeB, h_x5_edgeLine, h_x5_edgeCount⟩)
  · refine Sf.bind (LX6_run_s21 hn h_x3_goodsCount h_x3_workCount h_x3_years h_x3_goods h_x3_coin h_x5_steps h_x5_nodes h_x5_stepCount h_x5_open h_x5_openCount (by decide) h_x2_lineCount h_x2_goodsCount h_x2_workCount h_x2_years h_x2_lines h_x2_goods h_x2_works h_x2_change h_x2_coin h_x3_lineCount h_x3_lines h_x3_works h_x3_change h_x5_edgeA h_x5_edgeB h_x5_edgeLine h_x5_edgeCount) ?_
    rintro ⟨w33, w34, w35, w36, w37, w38, w39, w40, w41, w42, w43, w44, w45, w46, w47, w48, w49, w50, w51, w52, w53, w54, w55, w56, w57, w58, w59⟩ hr4
    obtain ⟨h_w36, h_w37, h_w38, h_w39, h_w40, h_w41, h_w42, h_w43, h_w44, h_w46, h_w47, h_w48, h_w49, h_w52, h_w53, h_w55, h_w58⟩ : (0 ≤ w36 ∧ w36 ≤ 20) ∧ (0 ≤ w37 ∧ w37 ≤ 8) ∧ (0 ≤ w38 ∧ w38 ≤ 7) ∧ (1 ≤ w39 ∧ w39 ≤ 30) ∧ (LnOk w40) ∧ (GdOk w41) ∧ (WkOk w42) ∧ (AI 0 99 w43) ∧ (AI 0 9 w44) ∧ (0 ≤ w46 ∧ w46 ≤ 20) ∧ (LnOk w47) ∧ (WkOk w48) ∧ (AI 0 99 w49) ∧ (AI 0 35 w52) ∧ (AI 0 35 w53) ∧ (AI 0 19 w55) ∧ (0 ≤ w58 ∧ w58 ≤ 60) := hr4
    dsimp only [u27]
    exact Sf.ok (show (0 ≤ w36 ∧ w36 ≤ 20) ∧ (0 ≤ w37 ∧ w37 ≤ 8) ∧ (0 ≤ w38 ∧ w38 ≤ 7) ∧ (1 ≤ w39 ∧ w39 ≤ 30) ∧ (LnOk w40) ∧ (GdOk w41) ∧ (WkOk w42) ∧ (AI 0 99 w43) ∧ (AI 0 9 w44) ∧ (0 ≤ w46 ∧ w46 ≤ 20) ∧ (LnOk w47) ∧ (WkOk w48) ∧ (AI 0 99 w49) ∧ (AI 0 35 w52) ∧ (AI 0 35 w53) ∧ (AI 0 19 w55) ∧ (0 ≤ w58 ∧ w58 ≤ 60) from ⟨h_w36, h_w37, h_w38, h_w39, h_w40, h_w41, h_w42, h_w43, h_w44, h_w46, h_w47, h_w48, h_w49, h_w52, h_w53, h_w55, h_w58⟩)
set_option maxHeartbeats 1000000 in
theorem sX6_image {x0_refused : (Nat → Int32)} {x0_isKept x0_gone x0_spent x1_lineCount x1_goodsCount x1_workCount x1_years : Int32} {x1_lines x1_goods x1_works x1_change x1_coin x1_knownFree : (Nat → Int32)} {x1_isKnown x2_lineCount x2_goodsCount x2_workCount x2_years : Int32} {x2_lines x2_goods x2_works x2_change x2_coin x2_knownFree : (Nat → Int32)} {x2_isKnown : Int32}  (h_x1_lineCount : (0 ≤ x1_lineCount ∧ x1_lineCount ≤ 20)) (h_x1_goodsCount : (0 ≤ x1_goodsCount ∧ x1_goodsCount ≤ 8)) (h_x1_workCount : (0 ≤ x1_workCount ∧ x1_workCount ≤ 7)) (h_x1_years : (1 ≤ x1_years ∧ x1_years ≤ 30)) (h_x1_lines : (LnOk x1_lines)) (h_x1_goods : (GdOk x1_goods)) (h_x1_works : (WkOk x1_works)) (h_x1_change : (AI 0 99 x1_change)) (h_x1_coin : (AI 0 9 x1_coin)) (h_x2_lineCount : (0 ≤ x2_lineCount ∧ x2_lineCount ≤ 20)) (h_x2_goodsCount : (0 ≤ x2_goodsCount ∧ x2_goodsCount ≤ 8)) (h_x2_workCount : (0 ≤ x2_workCount ∧ x2_workCount ≤ 7)) (h_x2_years : (1 ≤ x2_years ∧ x2_years ≤ 30)) (h_x2_lines : (LnOk x2_lines)) (h_x2_goods : (GdOk x2_goods)) (h_x2_works : (WkOk x2_works)) (h_x2_change : (AI 0 99 x2_change)) (h_x2_coin : (AI 0 9 x2_coin)) : Sf (fX6_image (x0_refused, x0_isKept, x0_gone, x0_spent) (x1_lineCount, x1_goodsCount, x1_workCount, x1_years, x1_lines, x1_goods, x1_works, x1_change, x1_coin, x1_knownFree, x1_isKnown) (x2_lineCount, x2_goodsCount, x2_workCount, x2_years, x2_lines, x2_goods, x2_works, x2_change, x2_coin, x2_knownFree, x2_isKnown)) (fun r => (0 ≤ r.2.2.1 ∧ r.2.2.1 ≤ 20) ∧ (0 ≤ r.2.2.2.1 ∧ r.2.2.2.1 ≤ 8) ∧ (0 ≤ r.2.2.2.2.1 ∧ r.2.2.2.2.1 ≤ 7) ∧ (1 ≤ r.2.2.2.2.2.1 ∧ r.2.2.2.2.2.1 ≤ 30) ∧ (LnOk r.2.2.2.2.2.2.1) ∧ (GdOk r.2.2.2.2.2.2.2.1) ∧ (WkOk r.2.2.2.2.2.2.2.2.1) ∧ (AI 0 99 r.2.2.2.2.2.2.2.2.2.1) ∧ (AI 0 9 r.2.2.2.2.2.2.2.2.2.2.1)) := by
  unfold fX6_image
  dsimp only [u11, u4]
  refine Sf.bind (sX1_take h_x1_lines h_x1_goods h_x1_works h_x1_change h_x1_coin h_x2_lineCount h_x2_goodsCount h_x2_workCount h_x2_years h_x2_lines h_x2_goods h_x2_works h_x2_change h_x2_coin) ?_
  rintro ⟨g2, g3, g4, g5, g6, g7, g8, g9, g10, g11⟩ hr1
  obtain ⟨h_g2, h_g3, h_g4, h_g5, h_g6, h_g7, h_g8, h_g9, h_g10⟩ : (0 ≤ g2 ∧ g2 ≤ 20) ∧ (0 ≤ g3 ∧ g3 ≤ 8) ∧ (0 ≤ g4 ∧ g4 ≤ 7) ∧ (1 ≤ g5 ∧ g5 ≤ 30) ∧ (LnOk g6) ∧ (GdOk g7) ∧ (WkOk g8) ∧ (AI 0 99 g9) ∧ (AI 0 9 g10) := hr1
  dsimp only [u10]
  exact Sf.ok (show (0 ≤ g2 ∧ g2 ≤ 20) ∧ (0 ≤ g3 ∧ g3 ≤ 8) ∧ (0 ≤ g4 ∧ g4 ≤ 7) ∧ (1 ≤ g5 ∧ g5 ≤ 30) ∧ (LnOk g6) ∧ (GdOk g7) ∧ (WkOk g8) ∧ (AI 0 99 g9) ∧ (AI 0 9 g10) from ⟨h_g2, h_g3, h_g4, h_g5, h_g6, h_g7, h_g8, h_g9, h_g10⟩)
set_option maxHeartbeats 1000000 in
theorem sX6_back {n : Nat} {x0_refused : (Nat → Int32)} {x0_isKept x0_gone x0_spent x1_lineCount x1_goodsCount x1_workCount x1_years : Int32} {x1_lines x1_goods x1_works x1_change x1_coin x1_knownFree : (Nat → Int32)} {x1_isKnown : Int32} {x2_elements : (Nat → Nat → Int64)} {x2_held x2_sizes : (Nat → Int32)} {x3_lineCount x3_goodsCount x3_workCount x3_years : Int32} {x3_lines x3_goods x3_works x3_change x3_coin x3_knownFree : (Nat → Int32)} {x3_isKnown : Int32} (hn : 1000000000000 ≤ n) (h_x1_lineCount : (0 ≤ x1_lineCount ∧ x1_lineCount ≤ 20)) (h_x1_goodsCount : (0 ≤ x1_goodsCount ∧ x1_goodsCount ≤ 8)) (h_x1_workCount : (0 ≤ x1_workCount ∧ x1_workCount ≤ 7)) (h_x1_years : (1 ≤ x1_years ∧ x1_years ≤ 30)) (h_x1_lines : (LnOk x1_lines)) (h_x1_goods : (GdOk x1_goods)) (h_x1_works : (WkOk x1_works)) (h_x1_change : (AI 0 99 x1_change)) (h_x1_coin : (AI 0 9 x1_coin)) (h_x2_held : (AI (-1) 16 x2_held)) (h_x2_sizes : (AI 0 40 x2_sizes)) (h_x3_lineCount : (0 ≤ x3_lineCount ∧ x3_lineCount ≤ 20)) (h_x3_goodsCount : (0 ≤ x3_goodsCount ∧ x3_goodsCount ≤ 8)) (h_x3_workCount : (0 ≤ x3_workCount ∧ x3_workCount ≤ 7)) (h_x3_years : (1 ≤ x3_years ∧ x3_years ≤ 30)) (h_x3_lines : (LnOk x3_lines)) (h_x3_goods : (GdOk x3_goods)) (h_x3_works : (WkOk x3_works)) (h_x3_change : (AI 0 99 x3_change)) (h_x3_coin : (AI 0 9 x3_coin)) : Sf (fX6_back n (x0_refused, x0_isKept, x0_gone, x0_spent) (x1_lineCount, x1_goodsCount, x1_workCount, x1_years, x1_lines, x1_goods, x1_works, x1_change, x1_coin, x1_knownFree, x1_isKnown) (x2_elements, x2_held, x2_sizes) (x3_lineCount, x3_goodsCount, x3_workCount, x3_years, x3_lines, x3_goods, x3_works, x3_change, x3_coin, x3_knownFree, x3_isKnown)) (fun r => (AI (-1) 16 r.2.2.1) ∧ (0 ≤ r.2.2.2.1 ∧ r.2.2.2.1 ≤ 20) ∧ (0 ≤ r.2.2.2.2.1 ∧ r.2.2.2.2.1 ≤ 8) ∧ (0 ≤ r.2.2.2.2.2.1 ∧ r.2.2.2.2.2.1 ≤ 7) ∧ (1 ≤ r.2.2.2.2.2.2.1 ∧ r.2.2.2.2.2.2.1 ≤ 30) ∧ (LnOk r.2.2.2.2.2.2.2.1) ∧ (GdOk r.2.2.2.2.2.2.2.2.1) ∧ (WkOk r.2.2.2.2.2.2.2.2.2.1) ∧ (AI 0 99 r.2.2.2.2.2.2.2.2.2.2.1) ∧ (AI 0 9 r.2.2.2.2.2.2.2.2.2.2.2.1)) := by
  unfold fX6_back
  dsimp only [u11, u3, u4]
  refine Sf.ite (fun hc1 => ?_) (fun hc1 => ?_)
  · refine Sf.bind (sX6_refuse ) ?_
    rintro ⟨v15, g16⟩ hr2
    dsimp only [u2]
    exact Sf.ok (show (AI (-1) 16 x2_held) ∧ (0 ≤ x3_lineCount ∧ x3_lineCount ≤ 20) ∧ (0 ≤ x3_goodsCount ∧ x3_goodsCount ≤ 8) ∧ (0 ≤ x3_workCount ∧ x3_workCount ≤ 7) ∧ (1 ≤ x3_years ∧ x3_years ≤ 30) ∧ (LnOk x3_lines) ∧ (GdOk x3_goods) ∧ (WkOk x3_works) ∧ (AI 0 99 x3_change) ∧ (AI 0 9 x3_coin) from ⟨h_x2_held, h_x3_lineCount, h_x3_goodsCount, h_x3_workCount, h_x3_years, h_x3_lines, h_x3_goods, h_x3_works, h_x3_change, h_x3_coin⟩)
  · refine Sf.bind (sX1_take h_x3_lines h_x3_goods h_x3_works h_x3_change h_x3_coin h_x1_lineCount h_x1_goodsCount h_x1_workCount h_x1_years h_x1_lines h_x1_goods h_x1_works h_x1_change h_x1_coin) ?_
    rintro ⟨g2, g3, g4, g5, g6, g7, g8, g9, g10, g11⟩ hr3
    obtain ⟨h_g2, h_g3, h_g4, h_g5, h_g6, h_g7, h_g8, h_g9, h_g10⟩ : (0 ≤ g2 ∧ g2 ≤ 20) ∧ (0 ≤ g3 ∧ g3 ≤ 8) ∧ (0 ≤ g4 ∧ g4 ≤ 7) ∧ (1 ≤ g5 ∧ g5 ≤ 30) ∧ (LnOk g6) ∧ (GdOk g7) ∧ (WkOk g8) ∧ (AI 0 99 g9) ∧ (AI 0 9 g10) := hr3
    dsimp only [u10]
    refine Sf.bind (sX2_dropWorksFrom hn h_x2_held h_x2_sizes) ?_
    intro g13 hr4
    have h_g13 : (AI (-1) 16 g13) := hr4
    exact Sf.ok (show (AI (-1) 16 g13) ∧ (0 ≤ g2 ∧ g2 ≤ 20) ∧ (0 ≤ g3 ∧ g3 ≤ 8) ∧ (0 ≤ g4 ∧ g4 ≤ 7) ∧ (1 ≤ g5 ∧ g5 ≤ 30) ∧ (LnOk g6) ∧ (GdOk g7) ∧ (WkOk g8) ∧ (AI 0 99 g9) ∧ (AI 0 9 g10) from ⟨h_g13, h_g2, h_g3, h_g4, h_g5, h_g6, h_g7, h_g8, h_g9, h_g10⟩)

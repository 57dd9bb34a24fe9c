set_option maxHeartbeats 1000000 in
theorem sX6_status {n : Nat} {x0_refused : (Nat → Int32)} {x0_isKept x0_gone x0_spent : Int32} {x1_elements : (Nat → Nat → Int64)} {x1_held x1_sizes : (Nat → Int32)} {x2_lineCount x2_goodsCount x2_workCount x2_years : Int32} {x2_lines x2_goods x2_works x2_change x2_coin x2_knownFree : (Nat → Int32)} {x2_isKnown : Int32} {x3_bytes : (Nat → Int32)} {x3_size x3_start x3_end x3_token x3_value p1 : Int32} (hn : 1000000000000 ≤ n) (h_x1_held : (AI (-1) 16 x1_held)) (h_x1_sizes : (AI 0 40 x1_sizes)) (h_x2_lineCount : (0 ≤ x2_lineCount ∧ x2_lineCount ≤ 20)) (h_x2_goodsCount : (0 ≤ x2_goodsCount ∧ x2_goodsCount ≤ 8)) (h_x2_workCount : (0 ≤ x2_workCount ∧ x2_workCount ≤ 7)) (h_x2_years : (1 ≤ x2_years ∧ x2_years ≤ 30)) (h_x2_lines : (LnOk x2_lines)) (h_x2_goods : (GdOk x2_goods)) (h_x2_works : (WkOk x2_works)) (h_x2_change : (AI 0 99 x2_change)) (h_x2_coin : (AI 0 9 x2_coin)) (h_x3_size : (0 ≤ x3_size ∧ x3_size ≤ 250)) (h_x3_start : (0 ≤ x3_start ∧ x3_start ≤ 250)) (h_x3_end : (0 ≤ x3_end ∧ x3_end ≤ 250)) : Sf (fX6_status n (x0_refused, x0_isKept, x0_gone, x0_spent) (x1_elements, x1_held, x1_sizes) (x2_lineCount, x2_goodsCount, x2_workCount, x2_years, x2_lines, x2_goods, x2_works, x2_change, x2_coin, x2_knownFree, x2_isKnown) (x3_bytes, x3_size, x3_start, x3_end, x3_token, x3_value) p1) (fun r => True) := by
  unfold fX6_status
  dsimp only [u11, u3, u4, u6]
  refine Sf.ite (fun hc1 => ?_) (fun hc1 => ?_)
  · exact Sf.ok trivial
  · refine Sf.ite (fun hc2 => ?_) (fun hc2 => ?_)
    · exact Sf.ok trivial
    · refine Sf.ite (fun hc3 => ?_) (fun hc3 => ?_)
      · exact Sf.ok trivial
      · refine Sf.ite (fun hc4 => ?_) (fun hc4 => ?_)
        · refine Sf.bind (sX1_doneWorks hn h_x2_lineCount h_x2_goodsCount h_x2_workCount h_x2_years h_x2_lines h_x2_goods h_x2_works h_x2_change h_x2_coin) ?_
          intro v1 hr5
          refine Sf.bind (sJ6_bitCount_0f7a4 ) ?_
          intro v3 hr6
          exact Sf.ok trivial
        · refine Sf.ite (fun hc7 => ?_) (fun hc7 => ?_)
          · exact Sf.ok trivial
          · refine Sf.ite (fun hc8 => ?_) (fun hc8 => ?_)
            · exact Sf.ok trivial
            · refine Sf.ite (fun hc9 => ?_) (fun hc9 => ?_)
              · exact Sf.ok trivial
              · refine Sf.ite (fun hc10 => ?_) (fun hc10 => ?_)
                · exact Sf.ok trivial
                · refine Sf.ite (fun hc11 => ?_) (fun hc11 => ?_)
                  · refine Sf.bind (sX2_inUse hn h_x1_held h_x1_sizes) ?_
                    intro v5 hr12
                    exact Sf.ok trivial
                  · refine Sf.bind (sX6_within ) ?_
                    intro v7 hr13
                    have hx_v7 : ((v7 = 1 ∧ 12 ≤ p1 ∧ p1 ≤ 16) ∨ (v7 = 0 ∧ (p1 < 12 ∨ 16 < p1))) := hr13
                    refine Sf.ite (fun hc14 => ?_) (fun hc14 => ?_)
                    · exact Sf.ok trivial
                    · have hq15 : 0 ≤ (p1 - 12) ∧ (p1 - 12) < 5 := by grind
                      refine Sf.rdb 5 rfl hq15 (fun v9 e_v9 => ?_)
                      clear e_v9
                      exact Sf.ok trivial

/-! years: the class -/
theorem ix5 {z c : Int32} (hz : 0 ≤ z ∧ z ≤ 6) (hc : 0 ≤ c ∧ c < 5) : (0 ≤ z * 5 + c ∧ z * 5 + c < 35) ∧ (z * 5 + c).toNatClampNeg = 5 * z.toNatClampNeg + c.toNatClampNeg := by
  have e := ixm (p := z) (m := 5) (c := c) ⟨hz.1, Int32.le_trans hz.2 (by decide)⟩ (by decide) ⟨hc.1, Int32.le_trans (Int32.le_of_lt hc.2) (by decide)⟩
  refine ⟨by clear e; grind, ?_⟩
  rw [e, show (5 : Int32).toNatClampNeg = 5 from rfl, Nat.mul_comm]
theorem okK_lt {W p : Int32} (hW : 0 ≤ W ∧ W ≤ 7) (hp : 0 ≤ p ∧ p.toNatClampNeg < W.toNatClampNeg) : (0 ≤ p ∧ p < W) ∧ (0 ≤ p ∧ p ≤ 6) := by
  have a := i32_cl hp.1
  have b := i32_cl hW.1
  have c := (i32_b hW).2
  have e7 : (7 : Int32).toInt = 7 := by decide
  have e6 : (6 : Int32).toInt = 6 := by decide
  exact ⟨⟨hp.1, Int32.lt_iff_toInt_lt.mpr (by omega)⟩, hp.1, Int32.le_iff_toInt_le.mpr (by omega)⟩
theorem pfgC {x0_lineCount : Int32} {x0_goodsCount : Int32} {x0_workCount : Int32} {x0_years : Int32} {x0_lines : (Nat → Int32)} {x0_goods : (Nat → Int32)} {x0_works : (Nat → Int32)} {x0_change : (Nat → Int32)} {x0_coin : (Nat → Int32)} {x0_knownFree : (Nat → Int32)} {x0_isKnown : Int32} {p1 : Int32} (h_x0_lineCount : (0 ≤ x0_lineCount ∧ x0_lineCount ≤ 20)) (h_x0_goodsCount : (0 ≤ x0_goodsCount ∧ x0_goodsCount ≤ 8)) (h_x0_workCount : (0 ≤ x0_workCount ∧ x0_workCount ≤ 7)) (h_x0_years : (1 ≤ x0_years ∧ x0_years ≤ 30)) (h_x0_lines : (LnOk x0_lines)) (h_x0_goods : (GdOk x0_goods)) (h_x0_works : (WkOk x0_works)) (h_x0_change : (AI 0 99 x0_change)) (h_x0_coin : (AI 0 9 x0_coin)) (hp : 0 ≤ p1 ∧ p1 < x0_workCount) (hf : Wf1 (ro 5 x0_works) x0_lineCount p1.toNatClampNeg) : Sf (fX1_performForGood (x0_lineCount, x0_goodsCount, x0_workCount, x0_years, x0_lines, x0_goods, x0_works, x0_change, x0_coin, x0_knownFree, x0_isKnown) p1) (fun r => AbEq (r.1, ro 7 r.2.1, r.2.2.2.1) (doA (ro 5 x0_works) p1.toNatClampNeg (x0_lineCount, ro 7 x0_lines, x0_change)) ∧ (∀ k c, c < 5 → ro 5 r.2.2.1 k c = va_up (ro 5 x0_works) p1.toNatClampNeg (va_up (ro 5 x0_works p1.toNatClampNeg) 4 1) k c) ∧ r.2.2.2.2 = 0) := by
  have hp6 : 0 ≤ p1 ∧ p1 ≤ 6 := by clear hf; grind
  unfold fX1_performForGood
  dsimp only [u11]
  refine Sf.bind hasWorkS (fun v1 h1 => ?_)
  refine Sf.ite (fun hz => ?_) (fun _ => ?_)
  · exfalso
    rcases h1 with h1 | h1
    · rw [h1.1] at hz; exact absurd hz (by decide)
    · have h1 := h1.2
      clear hf
      grind
  refine Sf.bind (performC h_x0_lineCount h_x0_goodsCount h_x0_workCount h_x0_years h_x0_lines h_x0_goods h_x0_works h_x0_change h_x0_coin hp hf) ?_
  rintro ⟨g3, g4, g5, g6⟩ h3
  try dsimp only [u4]
  obtain ⟨i1, i2⟩ := ix5 (z := p1) (c := 4) hp6 (by decide)
  refine Sf.wrb 35 rfl i1 (fun f8 e8 => ?_)
  rw [i2, show (4 : Int32).toNatClampNeg = 4 from rfl] at e8
  refine Sf.ok ⟨h3, fun k c hc => ?_, rfl⟩
  show ro 5 f8 k c = _
  rw [ro_eq hc, e8]
  by_cases hk : k = p1.toNatClampNeg
  · rw [hk, va_eq]
    by_cases h4 : c = 4
    · rw [h4, va_eq, va_eq]
    · rw [va_ne _ _ h4, va_ne _ _ (by omega), ro_eq hc]
  · rw [va_ne _ _ hk, va_ne _ _ (by omega), ro_eq hc]
def NewQ (S : S1) (coin goods : Nat → Int32) (gc wc : Int32) (r : Int32 × (Nat → Int32) × (Nat → Int32) × (Nat → Int32) × (Nat → Int32) × Int32) : Prop := SEq wc.toNatClampNeg ((r.1, ro 7 r.2.1, r.2.2.2.1), ro 5 r.2.2.1) S ∧ Kn (FrS r.1 (ro 7 r.2.1) r.2.2.2.1 coin (ro 3 goods) gc (ro 5 r.2.2.1) wc) r.2.2.2.2.1 r.2.2.2.2.2
theorem costOfYearC {n : Nat} {x0_gained : Nat → Int32} {x1_left : (Nat → Int32)} {x1_earned : (Nat → Int32)} {x1_turnCost : Int32} {x1_turnWayless : Int32} {x2_edgeA : (Nat → Int32)} {x2_edgeB : (Nat → Int32)} {x2_edgeCost : (Nat → Int32)} {x2_edgeLine : (Nat → Int32)} {x2_change : (Nat → Int32)} {x2_away : (Nat → Int32)} {x2_steps : (Nat → Int32)} {x2_nodes : (Nat → Int32)} {x2_stepCount : Int32} {x2_open : (Nat → Int32)} {x2_openCount : Int32} {x2_seen : Int64} {x2_edgeCount : Int32} {x2_aim : Int32} {x3_lineCount : Int32} {x3_goodsCount : Int32} {x3_workCount : Int32} {x3_years : Int32} {x3_lines : (Nat → Int32)} {x3_goods : (Nat → Int32)} {x3_works : (Nat → Int32)} {x3_change : (Nat → Int32)} {x3_coin : (Nat → Int32)} {x3_knownFree : (Nat → Int32)} {x3_isKnown : Int32} {x4_lineCount : Int32} {x4_goodsCount : Int32} {x4_workCount : Int32} {x4_years : Int32} {x4_lines : (Nat → Int32)} {x4_goods : (Nat → Int32)} {x4_works : (Nat → Int32)} {x4_change : (Nat → Int32)} {x4_coin : (Nat → Int32)} {x4_knownFree : (Nat → Int32)} {x4_isKnown : Int32} {p2 : Int32} (hn : 1000000000000 ≤ n) (h_x2_edgeA : (AI 0 35 x2_edgeA)) (h_x2_edgeB : (AI 0 35 x2_edgeB)) (h_x2_edgeLine : (AI 0 19 x2_edgeLine)) (h_x2_steps : (AI 0 22 x2_steps)) (h_x2_nodes : (AI 0 35 x2_nodes)) (h_x2_stepCount : (0 ≤ x2_stepCount ∧ x2_stepCount ≤ 36)) (h_x2_open : (AI 0 35 x2_open)) (h_x2_openCount : (0 ≤ x2_openCount ∧ x2_openCount ≤ 36)) (h_x2_edgeCount : (0 ≤ x2_edgeCount ∧ x2_edgeCount ≤ 60)) (h_x3_lineCount : (0 ≤ x3_lineCount ∧ x3_lineCount ≤ 20)) (h_x3_goodsCount : (0 ≤ x3_goodsCount ∧ x3_goodsCount ≤ 8)) (h_x3_workCount : (0 ≤ x3_workCount ∧ x3_workCount ≤ 7)) (h_x3_years : (1 ≤ x3_years ∧ x3_years ≤ 30)) (h_x3_lines : (LnOk x3_lines)) (h_x3_goods : (GdOk x3_goods)) (h_x3_works : (WkOk x3_works)) (h_x3_change : (AI 0 99 x3_change)) (h_x3_coin : (AI 0 9 x3_coin)) (h_x4_lineCount : (0 ≤ x4_lineCount ∧ x4_lineCount ≤ 20)) (h_x4_goodsCount : (0 ≤ x4_goodsCount ∧ x4_goodsCount ≤ 8)) (h_x4_workCount : (0 ≤ x4_workCount ∧ x4_workCount ≤ 7)) (h_x4_years : (1 ≤ x4_years ∧ x4_years ≤ 30)) (h_x4_lines : (LnOk x4_lines)) (h_x4_goods : (GdOk x4_goods)) (h_x4_works : (WkOk x4_works)) (h_x4_change : (AI 0 99 x4_change)) (h_x4_coin : (AI 0 9 x4_coin)) (hf : ∀ k, k < x4_workCount.toNatClampNeg → Wf1 (ro 5 x4_works) x4_lineCount k) (hk : Kn (FrS x4_lineCount (ro 7 x4_lines) x4_change x4_coin (ro 3 x4_goods) x4_goodsCount (ro 5 x4_works) x4_workCount) x4_knownFree x4_isKnown) (hp : okK x4_workCount.toNatClampNeg p2) : Sf (fX0_costOfYear n x0_gained (x1_left, x1_earned, x1_turnCost, x1_turnWayless) (x2_edgeA, x2_edgeB, x2_edgeCost, x2_edgeLine, x2_change, x2_away, x2_steps, x2_nodes, x2_stepCount, x2_open, x2_openCount, x2_seen, x2_edgeCount, x2_aim) (x3_lineCount, x3_goodsCount, x3_workCount, x3_years, x3_lines, x3_goods, x3_works, x3_change, x3_coin, x3_knownFree, x3_isKnown) (x4_lineCount, x4_goodsCount, x4_workCount, x4_years, x4_lines, x4_goods, x4_works, x4_change, x4_coin, x4_knownFree, x4_isKnown) p2) (fun r => r.1 = costA x4_coin (ro 3 x4_goods) x4_goodsCount p2 ((x4_lineCount, ro 7 x4_lines, x4_change), ro 5 x4_works) ∧ NewQ (yearA p2 ((x4_lineCount, ro 7 x4_lines, x4_change), ro 5 x4_works)) x4_coin x4_goods x4_goodsCount x4_workCount r.2.2.2) := by
  unfold fX0_costOfYear
  dsimp only [u4, u14, u11]
  refine Sf.bind hasWorkS (fun v1 h1 => ?_)
  have none0 : ∀ {s : Int32} {A : Ab} {work : Nat → Nat → Int32} {W : Nat} {q : Int32}, (∀ k, k < W → tq s k = (tq 0 k && decide (work k 4 = 0))) → doS work s W A = A := fun h => doS_none _ (fun k hk' => by rw [h k hk', tq_zero]; rfl)
  refine Sf.ite (fun hz => ?_) (fun hz => ?_)
  · have hm : p2 = -1 := by
      rcases hp with hp | hp
      · exact hp
      · exfalso
        have q := (okK_lt h_x4_workCount hp).1
        rcases h1 with h1 | h1
        · rw [h1.1] at hz; exact absurd hz (by decide)
        · have h1 := h1.2
          clear hf hk none0
          grind
    have ey : yearA p2 ((x4_lineCount, ro 7 x4_lines, x4_change), ro 5 x4_works) = ((x4_lineCount, ro 7 x4_lines, x4_change), ro 5 x4_works) := if_pos hm
    unfold fX0_costOfYear_j22
    refine Sf.bind (freeWithC hn h_x2_edgeA h_x2_edgeB h_x2_edgeLine h_x2_steps h_x2_nodes h_x2_stepCount h_x2_open h_x2_openCount h_x2_edgeCount h_x3_lineCount h_x3_goodsCount h_x3_workCount h_x3_years h_x3_lines h_x3_goods h_x3_works h_x3_change h_x3_coin h_x4_lineCount h_x4_goodsCount h_x4_workCount h_x4_years h_x4_lines h_x4_goods h_x4_works h_x4_change h_x4_coin hf hk) ?_
    rintro ⟨v9, ⟨g11, g12, g13, g14, g15, g16, g17, g18⟩, ⟨g20, g21, g22, g23, g24, g25, g26, g27, g28, g29⟩, ⟨g31, g32, g33, g34, g35⟩⟩ ⟨⟨s, hs, e9⟩, q1, q2, q3, q4⟩
    have q1 : g31 = x4_lineCount := q1
    have q2 : g32 = x4_lines := q2
    have q3 : g33 = x4_change := q3
    have q4 : Kn _ g34 g35 := q4
    have e9 : v9 = FrA (doS (ro 5 x4_works) s x4_workCount.toNatClampNeg (x4_lineCount, ro 7 x4_lines, x4_change)) x4_coin (ro 3 x4_goods) x4_goodsCount := e9
    rw [none0 (q := 0) hs] at e9
    refine Sf.ok ⟨?_, ?_⟩
    · show 0 + v9 = _
      unfold costA
      rw [if_pos hm, ey, e9]
    · rw [ey]
      show NewQ _ _ _ _ _ (g31, g32, x4_works, g33, g34, g35)
      rw [q1, q2, q3]
      exact ⟨SEq.refl _, q4⟩
  · have hm : ¬ p2 = -1 := by
      intro e
      rcases h1 with h1 | h1
      · rw [e] at h1; exact absurd h1.2.1 (by decide)
      · exact absurd h1.1 hz
    have hp2 : 0 ≤ p2 ∧ p2.toNatClampNeg < x4_workCount.toNatClampNeg := by
      rcases hp with hp | hp
      · exact absurd hp hm
      · exact hp
    obtain ⟨hpl, hp6⟩ := okK_lt h_x4_workCount hp2
    refine Sf.bind (ofWorkV h_x4_works hp6 (by decide)) (fun v37 e37 => ?_)
    have e37 : v37 = ro 5 x4_works p2.toNatClampNeg 3 := e37
    refine Sf.bind (Sf.and (sX1_performForGood h_x4_lineCount h_x4_workCount h_x4_lines h_x4_works h_x4_change) (pfgC h_x4_lineCount h_x4_goodsCount h_x4_workCount h_x4_years h_x4_lines h_x4_goods h_x4_works h_x4_change h_x4_coin hpl (hf _ hp2.2))) ?_
    rintro ⟨g40, g41, g42, g43, g44⟩ ⟨⟨b1, b2, b3, b4⟩, a1, a2, a3⟩
    have b1 : 0 ≤ g40 ∧ g40 ≤ 20 := b1
    have b2 : LnOk g41 := b2
    have b3 : WkOk g42 := b3
    have b4 : AI 0 99 g43 := b4
    have a1 : AbEq (g40, ro 7 g41, g43) (doA (ro 5 x4_works) p2.toNatClampNeg (x4_lineCount, ro 7 x4_lines, x4_change)) := a1
    have a2 : ∀ k c, c < 5 → ro 5 g42 k c = va_up (ro 5 x4_works) p2.toNatClampNeg (va_up (ro 5 x4_works p2.toNatClampNeg) 4 1) k c := a2
    have a3 : g44 = 0 := a3
    try dsimp only [u5]
    have ey : yearA p2 ((x4_lineCount, ro 7 x4_lines, x4_change), ro 5 x4_works) = (doA (ro 5 x4_works) p2.toNatClampNeg (x4_lineCount, ro 7 x4_lines, x4_change), va_up (ro 5 x4_works) p2.toNatClampNeg (va_up (ro 5 x4_works p2.toNatClampNeg) 4 1)) := if_neg hm
    have hS : SEq x4_workCount.toNatClampNeg ((g40, ro 7 g41, g43), ro 5 g42) (yearA p2 ((x4_lineCount, ro 7 x4_lines, x4_change), ro 5 x4_works)) := by
      rw [ey]
      exact ⟨a1, fun k _ c hc => a2 k c hc⟩
    have hW : WfS x4_workCount.toNatClampNeg ((g40, ro 7 g41, g43), ro 5 g42) := (yearA_wf ⟨h_x4_lineCount, hf⟩).congr hS.symm
    unfold fX0_costOfYear_j22
    refine Sf.bind (freeWithC (x4_knownFree := x4_knownFree) hn h_x2_edgeA h_x2_edgeB h_x2_edgeLine h_x2_steps h_x2_nodes h_x2_stepCount h_x2_open h_x2_openCount h_x2_edgeCount h_x3_lineCount h_x3_goodsCount h_x3_workCount h_x3_years h_x3_lines h_x3_goods h_x3_works h_x3_change h_x3_coin b1 h_x4_goodsCount h_x4_workCount h_x4_years b2 h_x4_goods b3 b4 h_x4_coin hW.2 (Or.inl a3)) ?_
    rintro ⟨v9, ⟨g11, g12, g13, g14, g15, g16, g17, g18⟩, ⟨g20, g21, g22, g23, g24, g25, g26, g27, g28, g29⟩, ⟨g31, g32, g33, g34, g35⟩⟩ ⟨⟨s, hs, e9⟩, q1, q2, q3, q4⟩
    have q1 : g31 = g40 := q1
    have q2 : g32 = g41 := q2
    have q3 : g33 = g43 := q3
    have q4 : Kn _ g34 g35 := q4
    have e9 : v9 = FrA (doS (ro 5 g42) s x4_workCount.toNatClampNeg (g40, ro 7 g41, g43)) x4_coin (ro 3 x4_goods) x4_goodsCount := e9
    rw [none0 (q := 0) hs] at e9
    refine Sf.ok ⟨?_, ?_⟩
    · show v37 + v9 = _
      unfold costA
      rw [if_neg hm, ey, e9, e37, FrA_congr a1 (fun _ _ => rfl) (fun _ _ _ _ => rfl)]
    · show NewQ _ _ _ _ _ (g31, g32, g42, g33, g34, g35)
      rw [q1, q2, q3]
      exact ⟨hS, q4⟩
theorem passYearC {n : Nat} {x0_refused : (Nat → Int32)} {x0_isKept : Int32} {x0_gone : Int32} {x0_spent : Int32} {x1_gained : Nat → Int32} {x2_lineCount : Int32} {x2_goodsCount : Int32} {x2_workCount : Int32} {x2_years : Int32} {x2_lines : (Nat → Int32)} {x2_goods : (Nat → Int32)} {x2_works : (Nat → Int32)} {x2_change : (Nat → Int32)} {x2_coin : (Nat → Int32)} {x2_knownFree : (Nat → Int32)} {x2_isKnown : Int32} {x3_lineCount : Int32} {x3_goodsCount : Int32} {x3_workCount : Int32} {x3_years : Int32} {x3_lines : (Nat → Int32)} {x3_goods : (Nat → Int32)} {x3_works : (Nat → Int32)} {x3_change : (Nat → Int32)} {x3_coin : (Nat → Int32)} {x3_knownFree : (Nat → Int32)} {x3_isKnown : Int32} {x4_left : (Nat → Int32)} {x4_earned : (Nat → Int32)} {x4_turnCost : Int32} {x4_turnWayless : Int32} {x5_edgeA : (Nat → Int32)} {x5_edgeB : (Nat → Int32)} {x5_edgeCost : (Nat → Int32)} {x5_edgeLine : (Nat → Int32)} {x5_change : (Nat → Int32)} {x5_away : (Nat → Int32)} {x5_steps : (Nat → Int32)} {x5_nodes : (Nat → Int32)} {x5_stepCount : Int32} {x5_open : (Nat → Int32)} {x5_openCount : Int32} {x5_seen : Int64} {x5_edgeCount : Int32} {x5_aim : Int32} {p1 : Int32} (hn : 1000000000000 ≤ n) (h_x2_lineCount : (0 ≤ x2_lineCount ∧ x2_lineCount ≤ 20)) (h_x2_goodsCount : (0 ≤ x2_goodsCount ∧ x2_goodsCount ≤ 8)) (h_x2_workCount : (0 ≤ x2_workCount ∧ x2_workCount ≤ 7)) (h_x2_years : (1 ≤ x2_years ∧ x2_years ≤ 30)) (h_x2_lines : (LnOk x2_lines)) (h_x2_goods : (GdOk x2_goods)) (h_x2_works : (WkOk x2_works)) (h_x2_change : (AI 0 99 x2_change)) (h_x2_coin : (AI 0 9 x2_coin)) (h_x3_lineCount : (0 ≤ x3_lineCount ∧ x3_lineCount ≤ 20)) (h_x3_goodsCount : (0 ≤ x3_goodsCount ∧ x3_goodsCount ≤ 8)) (h_x3_workCount : (0 ≤ x3_workCount ∧ x3_workCount ≤ 7)) (h_x3_years : (1 ≤ x3_years ∧ x3_years ≤ 30)) (h_x3_lines : (LnOk x3_lines)) (h_x3_goods : (GdOk x3_goods)) (h_x3_works : (WkOk x3_works)) (h_x3_change : (AI 0 99 x3_change)) (h_x3_coin : (AI 0 9 x3_coin)) (h_x5_edgeA : (AI 0 35 x5_edgeA)) (h_x5_edgeB : (AI 0 35 x5_edgeB)) (h_x5_edgeLine : (AI 0 19 x5_edgeLine)) (h_x5_steps : (AI 0 22 x5_steps)) (h_x5_nodes : (AI 0 35 x5_nodes)) (h_x5_stepCount : (0 ≤ x5_stepCount ∧ x5_stepCount ≤ 36)) (h_x5_open : (AI 0 35 x5_open)) (h_x5_openCount : (0 ≤ x5_openCount ∧ x5_openCount ≤ 36)) (h_x5_edgeCount : (0 ≤ x5_edgeCount ∧ x5_edgeCount ≤ 60)) (hf : ∀ k, k < x3_workCount.toNatClampNeg → Wf1 (ro 5 x3_works) x3_lineCount k) (hk : Kn (FrS x3_lineCount (ro 7 x3_lines) x3_change x3_coin (ro 3 x3_goods) x3_goodsCount (ro 5 x3_works) x3_workCount) x3_knownFree x3_isKnown) (hp : okK x3_workCount.toNatClampNeg p1) : Sf (fX6_passYear n (x0_refused, x0_isKept, x0_gone, x0_spent) x1_gained (x2_lineCount, x2_goodsCount, x2_workCount, x2_years, x2_lines, x2_goods, x2_works, x2_change, x2_coin, x2_knownFree, x2_isKnown) (x3_lineCount, x3_goodsCount, x3_workCount, x3_years, x3_lines, x3_goods, x3_works, x3_change, x3_coin, x3_knownFree, x3_isKnown) (x4_left, x4_earned, x4_turnCost, x4_turnWayless) (x5_edgeA, x5_edgeB, x5_edgeCost, x5_edgeLine, x5_change, x5_away, x5_steps, x5_nodes, x5_stepCount, x5_open, x5_openCount, x5_seen, x5_edgeCount, x5_aim) p1) (fun r => r.1 = costA x3_coin (ro 3 x3_goods) x3_goodsCount p1 ((x3_lineCount, ro 7 x3_lines, x3_change), ro 5 x3_works) ∧ NewQ (yearA p1 ((x3_lineCount, ro 7 x3_lines, x3_change), ro 5 x3_works)) x3_coin x3_goods x3_goodsCount x3_workCount r.2.2.2.2.1) := by
  unfold fX6_passYear
  dsimp only [u4, u14, u11]
  refine Sf.bind (costOfYearC hn h_x5_edgeA h_x5_edgeB h_x5_edgeLine h_x5_steps h_x5_nodes h_x5_stepCount h_x5_open h_x5_openCount h_x5_edgeCount h_x2_lineCount h_x2_goodsCount h_x2_workCount h_x2_years h_x2_lines h_x2_goods h_x2_works h_x2_change h_x2_coin h_x3_lineCount h_x3_goodsCount h_x3_workCount h_x3_years h_x3_lines h_x3_goods h_x3_works h_x3_change h_x3_coin hf hk hp) ?_
  rintro ⟨v9, ⟨g11, g12, g13, g14, g15, g16, g17, g18⟩, ⟨g20, g21, g22, g23, g24, g25, g26, g27, g28, g29⟩, ⟨g31, g32, g33, g34, g35, g36⟩⟩ h
  exact Sf.ok h
/-- a year: what both sides answer and do -/
def YQ (work : Nat → Nat → Int32) (W p a c : Int32) (S O : Prop) : Prop := (okK W.toNatClampNeg p ∧ (p = -1 ∨ work p.toNatClampNeg 4 = 0) ∧ a = c ∧ S) ∨ (¬ okK W.toNatClampNeg p ∧ a = -2 ∧ O) ∨ (okK W.toNatClampNeg p ∧ ¬ (p = -1 ∨ work p.toNatClampNeg 4 = 0) ∧ a = -5 ∧ O)
theorem YQ_eq {work work' : Nat → Nat → Int32} {W p a a' c c' : Int32} {S O S' O' : Prop} (hw : ∀ k, k < W.toNatClampNeg → work k 4 = work' k 4) (h : YQ work W p a c S O) (h' : YQ work' W p a' c' S' O') : (okK W.toNatClampNeg p ∧ a = c ∧ a' = c' ∧ S ∧ S') ∨ (a = a' ∧ O ∧ O') := by
  have e : okK W.toNatClampNeg p → ((p = -1 ∨ work p.toNatClampNeg 4 = 0) ↔ (p = -1 ∨ work' p.toNatClampNeg 4 = 0)) := by
    intro hk
    rcases hk with hk | hk
    · exact ⟨fun _ => Or.inl hk, fun _ => Or.inl hk⟩
    · rw [hw _ hk.2]
  rcases h with ⟨k, d, s⟩ | ⟨k, s⟩ | ⟨k, d, s⟩ <;> rcases h' with ⟨k', d', s'⟩ | ⟨k', s'⟩ | ⟨k', d', s'⟩
  · exact Or.inl ⟨k, s.1, s'.1, s.2, s'.2⟩
  · exact absurd k k'
  · exact absurd ((e k).mp d) d'
  · exact absurd k' k
  · exact Or.inr ⟨by rw [s.1, s'.1], s.2, s'.2⟩
  · exact absurd k' k
  · exact absurd ((e k).mpr d') d
  · exact absurd k k'
  · exact Or.inr ⟨by rw [s.1, s'.1], s.2, s'.2⟩
theorem noChC {x0_refused : (Nat → Int32)} {x0_isKept : Int32} {x0_gone : Int32} {x0_spent : Int32} {x1_lineCount : Int32} {x1_goodsCount : Int32} {x1_workCount : Int32} {x1_years : Int32} {x1_lines : (Nat → Int32)} {x1_goods : (Nat → Int32)} {x1_works : (Nat → Int32)} {x1_change : (Nat → Int32)} {x1_coin : (Nat → Int32)} {x1_knownFree : (Nat → Int32)} {x1_isKnown : Int32} {p1 : Int32} (h_x1_lineCount : (0 ≤ x1_lineCount ∧ x1_lineCount ≤ 20)) (h_x1_goodsCount : (0 ≤ x1_goodsCount ∧ x1_goodsCount ≤ 8)) (h_x1_workCount : (0 ≤ x1_workCount ∧ x1_workCount ≤ 7)) (h_x1_years : (1 ≤ x1_years ∧ x1_years ≤ 30)) (h_x1_lines : (LnOk x1_lines)) (h_x1_goods : (GdOk x1_goods)) (h_x1_works : (WkOk x1_works)) (h_x1_change : (AI 0 99 x1_change)) (h_x1_coin : (AI 0 9 x1_coin)) : Sf (fX6_noChoice (x0_refused, x0_isKept, x0_gone, x0_spent) (x1_lineCount, x1_goodsCount, x1_workCount, x1_years, x1_lines, x1_goods, x1_works, x1_change, x1_coin, x1_knownFree, x1_isKnown) p1) (fun r => (r = 0 ∧ (0 ≤ p1 ∧ p1.toNatClampNeg < x1_workCount.toNatClampNeg) ∧ ro 5 x1_works p1.toNatClampNeg 4 = 0) ∨ (r = -2 ∧ ¬ (0 ≤ p1 ∧ p1.toNatClampNeg < x1_workCount.toNatClampNeg)) ∨ (r = -5 ∧ (0 ≤ p1 ∧ p1.toNatClampNeg < x1_workCount.toNatClampNeg) ∧ ¬ ro 5 x1_works p1.toNatClampNeg 4 = 0)) := by
  unfold fX6_noChoice
  dsimp only [u4, u11]
  refine Sf.bind hasWorkS (fun v1 h1 => ?_)
  refine Sf.ite (fun hz => ?_) (fun hz => ?_)
  · refine Sf.ok (Or.inr (Or.inl ⟨rfl, fun h => ?_⟩))
    have q := (okK_lt h_x1_workCount h).1
    rcases h1 with h1 | h1
    · rw [h1.1] at hz; exact absurd hz (by decide)
    · have h1 := h1.2
      grind
  · have hq : 0 ≤ p1 ∧ p1 ≤ x1_workCount - 1 := by
      rcases h1 with h1 | h1
      · exact h1.2
      · exact absurd h1.1 hz
    have hp : 0 ≤ p1 ∧ p1 < x1_workCount := by clear h1; grind
    have hp6 : 0 ≤ p1 ∧ p1 ≤ 6 := by clear h1; grind
    have hpn : 0 ≤ p1 ∧ p1.toNatClampNeg < x1_workCount.toNatClampNeg := by
      have a := i32_cl hp.1
      have b := i32_cl h_x1_workCount.1
      have c := Int32.lt_iff_toInt_lt.mp hp.2
      exact ⟨hp.1, by omega⟩
    refine Sf.bind (isDoneS h_x1_works hp6) (fun v3 e3 => ?_)
    refine Sf.ite (fun hv => ?_) (fun hv => ?_)
    · refine Sf.ok (Or.inl ⟨rfl, hpn, ?_⟩)
      refine Classical.byContradiction fun hn' => ?_
      rw [if_neg hn'] at e3
      rw [e3] at hv
      exact absurd hv (by decide)
    · refine Sf.ok (Or.inr (Or.inr ⟨rfl, hpn, fun hn' => ?_⟩))
      rw [if_pos hn'] at e3
      exact hv e3
theorem yearC {n : Nat} {x0_refused : (Nat → Int32)} {x0_isKept : Int32} {x0_gone : Int32} {x0_spent : Int32} {x1_gained : Nat → Int32} {x2_lineCount : Int32} {x2_goodsCount : Int32} {x2_workCount : Int32} {x2_years : Int32} {x2_lines : (Nat → Int32)} {x2_goods : (Nat → Int32)} {x2_works : (Nat → Int32)} {x2_change : (Nat → Int32)} {x2_coin : (Nat → Int32)} {x2_knownFree : (Nat → Int32)} {x2_isKnown : Int32} {x3_lineCount : Int32} {x3_goodsCount : Int32} {x3_workCount : Int32} {x3_years : Int32} {x3_lines : (Nat → Int32)} {x3_goods : (Nat → Int32)} {x3_works : (Nat → Int32)} {x3_change : (Nat → Int32)} {x3_coin : (Nat → Int32)} {x3_knownFree : (Nat → Int32)} {x3_isKnown : Int32} {x4_left : (Nat → Int32)} {x4_earned : (Nat → Int32)} {x4_turnCost : Int32} {x4_turnWayless : Int32} {x5_edgeA : (Nat → Int32)} {x5_edgeB : (Nat → Int32)} {x5_edgeCost : (Nat → Int32)} {x5_edgeLine : (Nat → Int32)} {x5_change : (Nat → Int32)} {x5_away : (Nat → Int32)} {x5_steps : (Nat → Int32)} {x5_nodes : (Nat → Int32)} {x5_stepCount : Int32} {x5_open : (Nat → Int32)} {x5_openCount : Int32} {x5_seen : Int64} {x5_edgeCount : Int32} {x5_aim : Int32} {p1 : Int32} (hn : 1000000000000 ≤ n) (h_x2_lineCount : (0 ≤ x2_lineCount ∧ x2_lineCount ≤ 20)) (h_x2_goodsCount : (0 ≤ x2_goodsCount ∧ x2_goodsCount ≤ 8)) (h_x2_workCount : (0 ≤ x2_workCount ∧ x2_workCount ≤ 7)) (h_x2_years : (1 ≤ x2_years ∧ x2_years ≤ 30)) (h_x2_lines : (LnOk x2_lines)) (h_x2_goods : (GdOk x2_goods)) (h_x2_works : (WkOk x2_works)) (h_x2_change : (AI 0 99 x2_change)) (h_x2_coin : (AI 0 9 x2_coin)) (h_x3_lineCount : (0 ≤ x3_lineCount ∧ x3_lineCount ≤ 20)) (h_x3_goodsCount : (0 ≤ x3_goodsCount ∧ x3_goodsCount ≤ 8)) (h_x3_workCount : (0 ≤ x3_workCount ∧ x3_workCount ≤ 7)) (h_x3_years : (1 ≤ x3_years ∧ x3_years ≤ 30)) (h_x3_lines : (LnOk x3_lines)) (h_x3_goods : (GdOk x3_goods)) (h_x3_works : (WkOk x3_works)) (h_x3_change : (AI 0 99 x3_change)) (h_x3_coin : (AI 0 9 x3_coin)) (h_x5_edgeA : (AI 0 35 x5_edgeA)) (h_x5_edgeB : (AI 0 35 x5_edgeB)) (h_x5_edgeLine : (AI 0 19 x5_edgeLine)) (h_x5_steps : (AI 0 22 x5_steps)) (h_x5_nodes : (AI 0 35 x5_nodes)) (h_x5_stepCount : (0 ≤ x5_stepCount ∧ x5_stepCount ≤ 36)) (h_x5_open : (AI 0 35 x5_open)) (h_x5_openCount : (0 ≤ x5_openCount ∧ x5_openCount ≤ 36)) (h_x5_edgeCount : (0 ≤ x5_edgeCount ∧ x5_edgeCount ≤ 60)) (hf : ∀ k, k < x3_workCount.toNatClampNeg → Wf1 (ro 5 x3_works) x3_lineCount k) (hk : Kn (FrS x3_lineCount (ro 7 x3_lines) x3_change x3_coin (ro 3 x3_goods) x3_goodsCount (ro 5 x3_works) x3_workCount) x3_knownFree x3_isKnown) : Sf (fX6_year n (x0_refused, x0_isKept, x0_gone, x0_spent) x1_gained (x2_lineCount, x2_goodsCount, x2_workCount, x2_years, x2_lines, x2_goods, x2_works, x2_change, x2_coin, x2_knownFree, x2_isKnown) (x3_lineCount, x3_goodsCount, x3_workCount, x3_years, x3_lines, x3_goods, x3_works, x3_change, x3_coin, x3_knownFree, x3_isKnown) (x4_left, x4_earned, x4_turnCost, x4_turnWayless) (x5_edgeA, x5_edgeB, x5_edgeCost, x5_edgeLine, x5_change, x5_away, x5_steps, x5_nodes, x5_stepCount, x5_open, x5_openCount, x5_seen, x5_edgeCount, x5_aim) p1) (fun r => YQ (ro 5 x3_works) x3_workCount p1 r.1 (costA x3_coin (ro 3 x3_goods) x3_goodsCount p1 ((x3_lineCount, ro 7 x3_lines, x3_change), ro 5 x3_works)) (NewQ (yearA p1 ((x3_lineCount, ro 7 x3_lines, x3_change), ro 5 x3_works)) x3_coin x3_goods x3_goodsCount x3_workCount r.2.2.2.2.2.1) (r.2.2.2.2.2.1 = (x3_lineCount, x3_lines, x3_works, x3_change, x3_knownFree, x3_isKnown))) := by
  unfold fX6_year
  dsimp only [u4, u14, u11]
  have go : okK x3_workCount.toNatClampNeg p1 → (p1 = -1 ∨ ro 5 x3_works p1.toNatClampNeg 4 = 0) → Sf (fX6_year_j14 n p1 x0_refused x0_isKept x0_gone x0_spent x1_gained x2_lineCount x2_goodsCount x2_workCount x2_years x2_lines x2_goods x2_works x2_change x2_coin x2_knownFree x2_isKnown x3_lineCount x3_goodsCount x3_workCount x3_years x3_lines x3_goods x3_works x3_change x3_coin x3_knownFree x3_isKnown x4_left x4_earned x4_turnCost x4_turnWayless x5_edgeA x5_edgeB x5_edgeCost x5_edgeLine x5_change x5_away x5_steps x5_nodes x5_stepCount x5_open x5_openCount x5_seen x5_edgeCount x5_aim 0) (fun r => YQ (ro 5 x3_works) x3_workCount p1 r.1 (costA x3_coin (ro 3 x3_goods) x3_goodsCount p1 ((x3_lineCount, ro 7 x3_lines, x3_change), ro 5 x3_works)) (NewQ (yearA p1 ((x3_lineCount, ro 7 x3_lines, x3_change), ro 5 x3_works)) x3_coin x3_goods x3_goodsCount x3_workCount r.2.2.2.2.2.1) (r.2.2.2.2.2.1 = (x3_lineCount, x3_lines, x3_works, x3_change, x3_knownFree, x3_isKnown))) := by
    intro hp hd
    unfold fX6_year_j14
    rw [if_pos rfl]
    refine Sf.bind (passYearC hn h_x2_lineCount h_x2_goodsCount h_x2_workCount h_x2_years h_x2_lines h_x2_goods h_x2_works h_x2_change h_x2_coin h_x3_lineCount h_x3_goodsCount h_x3_workCount h_x3_years h_x3_lines h_x3_goods h_x3_works h_x3_change h_x3_coin h_x5_edgeA h_x5_edgeB h_x5_edgeLine h_x5_steps h_x5_nodes h_x5_stepCount h_x5_open h_x5_openCount h_x5_edgeCount hf hk hp) ?_
    rintro ⟨v2, g3, g4, ⟨g6, g7, g8, g9, g10, g11, g12, g13, g14, g15⟩, ⟨g17, g18, g19, g20, g21, g22⟩, ⟨g24, g25, g26, g27, g28, g29, g30, g31⟩⟩ ⟨h1, h2⟩
    exact Sf.ok (Or.inl ⟨hp, hd, h1, h2⟩)
  have no : ∀ y : Int32, y ≠ 0 → ((y = -2 ∧ ¬ okK x3_workCount.toNatClampNeg p1) ∨ (y = -5 ∧ okK x3_workCount.toNatClampNeg p1 ∧ ¬ (p1 = -1 ∨ ro 5 x3_works p1.toNatClampNeg 4 = 0))) → Sf (fX6_year_j14 n p1 x0_refused x0_isKept x0_gone x0_spent x1_gained x2_lineCount x2_goodsCount x2_workCount x2_years x2_lines x2_goods x2_works x2_change x2_coin x2_knownFree x2_isKnown x3_lineCount x3_goodsCount x3_workCount x3_years x3_lines x3_goods x3_works x3_change x3_coin x3_knownFree x3_isKnown x4_left x4_earned x4_turnCost x4_turnWayless x5_edgeA x5_edgeB x5_edgeCost x5_edgeLine x5_change x5_away x5_steps x5_nodes x5_stepCount x5_open x5_openCount x5_seen x5_edgeCount x5_aim y) (fun r => YQ (ro 5 x3_works) x3_workCount p1 r.1 (costA x3_coin (ro 3 x3_goods) x3_goodsCount p1 ((x3_lineCount, ro 7 x3_lines, x3_change), ro 5 x3_works)) (NewQ (yearA p1 ((x3_lineCount, ro 7 x3_lines, x3_change), ro 5 x3_works)) x3_coin x3_goods x3_goodsCount x3_workCount r.2.2.2.2.2.1) (r.2.2.2.2.2.1 = (x3_lineCount, x3_lines, x3_works, x3_change, x3_knownFree, x3_isKnown))) := by
    intro y hy h
    unfold fX6_year_j14
    rw [if_neg hy]
    refine Sf.bind refC ?_
    rintro ⟨v, g⟩ e
    have e : v = y := e
    rcases h with h | h
    · exact Sf.ok (Or.inr (Or.inl ⟨h.2, e.trans h.1, rfl⟩))
    · exact Sf.ok (Or.inr (Or.inr ⟨h.2.1, h.2.2, e.trans h.1, rfl⟩))
  refine Sf.ite (fun hm => go (Or.inl hm) (Or.inl hm)) (fun hm => ?_)
  refine Sf.bind (noChC h_x3_lineCount h_x3_goodsCount h_x3_workCount h_x3_years h_x3_lines h_x3_goods h_x3_works h_x3_change h_x3_coin) (fun v36 h36 => ?_)
  rcases h36 with ⟨e, h, d⟩ | ⟨e, h⟩ | ⟨e, h, d⟩
  · rw [e]
    exact go (Or.inr h) (Or.inr d)
  · refine no v36 (by rw [e]; decide) (Or.inl ⟨e, ?_⟩)
    rintro (h2 | h2)
    · exact hm h2
    · exact h h2
  · refine no v36 (by rw [e]; decide) (Or.inr ⟨e, Or.inr h, ?_⟩)
    rintro (h2 | h2)
    · exact hm h2
    · exact d h2
theorem yearR {n : Nat} {x0_shelf : (Nat → Int32)} {x0_rowSort : (Nat → Int32)} {x0_rowSize : (Nat → Int32)} {x0_rows : (Nat → Nat → Int64)} {x0_moved : (Nat → Int64)} {x0_shown : (Nat → Int32)} {x0_tape : (Nat → Int32)} {x0_tapeSize : Int32} {x0_refused : (Nat → Int32)} {x0_lines : Int32} {x0_line : (Nat → Nat → Int32)} {x0_changes : (Nat → Int32)} {x0_coins : (Nat → Int32)} {x0_goods : Int32} {x0_good : (Nat → Nat → Int32)} {x0_works : Int32} {x0_work : (Nat → Nat → Int32)} {x0_years : Int32} {x0_gone : Int32} {x0_spent : Int32} {x0_at : Int32} {x0_token : Int32} {x0_from : Int32} {x0_figures : Int64} {x0_fault : Int32} {x0_numbers : (Nat → Int32)} {x0_statements : Int32} {x0_left : (Nat → Int32)} {x0_far : (Nat → Int32)} {x0_tons : Int32} {x0_way : (Nat → Int32)} {x0_steps : Int32} {x0_met : Int64} {x0_queue : (Nat → Int32)} {x0_totals : (Nat → Int32)} {p1 : Int32} (hn : 1000000000000 ≤ n) (h_x0_shelf : (AI 0 2 x0_shelf)) (h_x0_rowSize : (AI 0 40 x0_rowSize)) (h_x0_tapeSize : (0 ≤ x0_tapeSize ∧ x0_tapeSize ≤ 250)) (h_x0_lines : (0 ≤ x0_lines ∧ x0_lines ≤ 20)) (h_x0_line : (LnM x0_line)) (h_x0_changes : (AI 0 99 x0_changes)) (h_x0_coins : (AI 0 9 x0_coins)) (h_x0_goods : (0 ≤ x0_goods ∧ x0_goods ≤ 8)) (h_x0_good : (GdM x0_good)) (h_x0_works : (0 ≤ x0_works ∧ x0_works ≤ 7)) (h_x0_work : (WkM x0_work)) (h_x0_years : (1 ≤ x0_years ∧ x0_years ≤ 30)) (h_x0_from : (0 ≤ x0_from ∧ x0_from ≤ 250)) (h_x0_far : (AI 0 1000000000 x0_far)) (h_x0_way : (AI 0 22 x0_way)) (h_x0_steps : (0 ≤ x0_steps ∧ x0_steps ≤ 37)) (h_x0_queue : (AI 0 35 x0_queue)) : Sf (fX7_year n (x0_shelf, x0_rowSort, x0_rowSize, x0_rows, x0_moved, x0_shown, x0_tape, x0_tapeSize, x0_refused, x0_lines, x0_line, x0_changes, x0_coins, x0_goods, x0_good, x0_works, x0_work, x0_years, x0_gone, x0_spent, x0_at, x0_token, x0_from, x0_figures, x0_fault, x0_numbers, x0_statements, x0_left, x0_far, x0_tons, x0_way, x0_steps, x0_met, x0_queue, x0_totals) p1) (fun r => YQ x0_work x0_works p1 r.1 (costA x0_coins x0_good x0_goods p1 ((x0_lines, x0_line, x0_changes), x0_work)) (SEq x0_works.toNatClampNeg ((r.2.2.1, r.2.2.2.1, r.2.2.2.2.1), r.2.2.2.2.2.1) (yearA p1 ((x0_lines, x0_line, x0_changes), x0_work))) ((r.2.2.1, r.2.2.2.1, r.2.2.2.2.1, r.2.2.2.2.2.1) = (x0_lines, x0_line, x0_changes, x0_work))) := by
  unfold fX7_year
  dsimp only [u35]
  refine Sf.ite (fun hm => ?_) (fun hm => ?_)
  · unfold fX7_year_j20
    rw [if_pos hm]
    refine Sf.bind (goesR hn h_x0_shelf h_x0_rowSize h_x0_tapeSize h_x0_lines h_x0_line h_x0_changes h_x0_coins h_x0_goods h_x0_good h_x0_works h_x0_work h_x0_years h_x0_from h_x0_far h_x0_way h_x0_steps h_x0_queue (Or.inl hm)) ?_
    rintro ⟨v1, g3, g4, g5, g6, g7, g8, g9, g10, g11⟩ ⟨h1, h2⟩
    exact Sf.ok (Or.inl ⟨Or.inl hm, Or.inl hm, h1, h2⟩)
  refine Sf.bind (sX7_isWork h_x0_shelf h_x0_rowSize h_x0_tapeSize h_x0_lines h_x0_line h_x0_changes h_x0_coins h_x0_goods h_x0_good h_x0_works h_x0_work h_x0_years h_x0_from h_x0_far h_x0_way h_x0_steps h_x0_queue) (fun v30 h30 => ?_)
  refine Sf.ite (fun hz => ?_) (fun hz => ?_)
  · refine Sf.bind (sX7_refuse h_x0_shelf h_x0_rowSize h_x0_tapeSize h_x0_lines h_x0_line h_x0_changes h_x0_coins h_x0_goods h_x0_good h_x0_works h_x0_work h_x0_years h_x0_from h_x0_far h_x0_way h_x0_steps h_x0_queue (by decide)) ?_
    rintro ⟨v, g⟩ e
    refine Sf.ok (Or.inr (Or.inl ⟨?_, e, rfl⟩))
    rintro (h2 | h2)
    · exact hm h2
    · have q := (okK_lt h_x0_works h2).1
      rcases h30 with h | h
      · rw [h.1] at hz; exact absurd hz (by decide)
      · exact h.2 q
  · have hp : 0 ≤ p1 ∧ p1 < x0_works := by
      rcases h30 with h | h
      · exact h.2
      · exact absurd h.1 hz
    have hpn : 0 ≤ p1 ∧ p1.toNatClampNeg < x0_works.toNatClampNeg := by
      have a := i32_cl hp.1
      have b := i32_cl h_x0_works.1
      have c := Int32.lt_iff_toInt_lt.mp hp.2
      exact ⟨hp.1, by omega⟩
    unfold fX7_year_j20
    rw [if_neg hm]
    refine Sf.ckb 7 rfl ⟨hp.1, Int32.lt_of_lt_of_le hp.2 h_x0_works.2⟩ (fun q13 e13 _ => ?_)
    refine Sf.rdl 4 rfl rfl (fun v14 e14 => ?_)
    rw [e13] at e14
    have b14 : 0 ≤ v14 ∧ v14 ≤ 1 := by rw [e14]; exact h_x0_work.1 p1.toNatClampNeg 4
    refine Sf.ite (fun hv => ?_) (fun hv => ?_)
    · refine Sf.bind (sX7_refuse h_x0_shelf h_x0_rowSize h_x0_tapeSize h_x0_lines h_x0_line h_x0_changes h_x0_coins h_x0_goods h_x0_good h_x0_works h_x0_work h_x0_years h_x0_from h_x0_far h_x0_way h_x0_steps h_x0_queue (by decide)) ?_
      rintro ⟨v, g⟩ e
      refine Sf.ok (Or.inr (Or.inr ⟨Or.inr hpn, ?_, e, rfl⟩))
      rintro (h2 | h2)
      · exact hm h2
      · rw [← e14, hv] at h2; exact absurd h2 (by decide)
    · have h0 : x0_work p1.toNatClampNeg 4 = 0 := by
        rw [← e14]
        clear h30 e14
        grind
      refine Sf.bind (goesR hn h_x0_shelf h_x0_rowSize h_x0_tapeSize h_x0_lines h_x0_line h_x0_changes h_x0_coins h_x0_goods h_x0_good h_x0_works h_x0_work h_x0_years h_x0_from h_x0_far h_x0_way h_x0_steps h_x0_queue (Or.inr hpn)) ?_
      rintro ⟨v1, g3, g4, g5, g6, g7, g8, g9, g10, g11⟩ ⟨h1, h2⟩
      exact Sf.ok (Or.inl ⟨Or.inr hpn, Or.inr h0, h1, h2⟩)
/-- alike lands, as the abstract ones -/
theorem LaD.s {lc gc wc yr : Int32} {lines goods works chg coin : Nat → Int32} {L : Int32} {line : Nat → Nat → Int32} {ch co : Nat → Int32} {G : Int32} {good : Nat → Nat → Int32} {W : Int32} {work : Nat → Nat → Int32} {Y : Int32} (h : LaD lc gc wc yr lines goods works chg coin L line ch co G good W work Y) : SEq wc.toNatClampNeg ((lc, ro 7 lines, chg), ro 5 works) ((L, line, ch), work) := ⟨⟨h.1.1, h.2.1, h.2.2.2.2.1⟩, h.2.2.2.1⟩
theorem LaD.of {lc gc wc yr : Int32} {lines goods works chg coin : Nat → Int32} {L : Int32} {line : Nat → Nat → Int32} {ch co : Nat → Int32} {G : Int32} {good : Nat → Nat → Int32} {W : Int32} {work : Nat → Nat → Int32} {Y lc' : Int32} {lines' works' chg' : Nat → Int32} {L' : Int32} {line' : Nat → Nat → Int32} {ch' : Nat → Int32} {work' : Nat → Nat → Int32} (h : LaD lc gc wc yr lines goods works chg coin L line ch co G good W work Y) (hs : SEq wc.toNatClampNeg ((lc', ro 7 lines', chg'), ro 5 works') ((L', line', ch'), work')) (hw : ∀ k, k < wc.toNatClampNeg → Wf1 (ro 5 works') lc' k) : LaD lc' gc wc yr lines' goods works' chg' coin L' line' ch' co G good W work' Y := ⟨⟨hs.1.1, h.1.2⟩, hs.1.2.1, h.2.2.1, hs.2, hs.1.2.2, h.2.2.2.2.2.1, hw⟩
theorem dYear {n : Nat} {x0_refused : (Nat → Int32)} {x0_isKept : Int32} {x0_gone : Int32} {x0_spent : Int32} {x1_gained : Nat → Int32} {x2_lineCount : Int32} {x2_goodsCount : Int32} {x2_workCount : Int32} {x2_years : Int32} {x2_lines : (Nat → Int32)} {x2_goods : (Nat → Int32)} {x2_works : (Nat → Int32)} {x2_change : (Nat → Int32)} {x2_coin : (Nat → Int32)} {x2_knownFree : (Nat → Int32)} {x2_isKnown : Int32} {x3_lineCount : Int32} {x3_goodsCount : Int32} {x3_workCount : Int32} {x3_years : Int32} {x3_lines : (Nat → Int32)} {x3_goods : (Nat → Int32)} {x3_works : (Nat → Int32)} {x3_change : (Nat → Int32)} {x3_coin : (Nat → Int32)} {x3_knownFree : (Nat → Int32)} {x3_isKnown : Int32} {x4_left : (Nat → Int32)} {x4_earned : (Nat → Int32)} {x4_turnCost : Int32} {x4_turnWayless : Int32} {x5_edgeA : (Nat → Int32)} {x5_edgeB : (Nat → Int32)} {x5_edgeCost : (Nat → Int32)} {x5_edgeLine : (Nat → Int32)} {x5_change : (Nat → Int32)} {x5_away : (Nat → Int32)} {x5_steps : (Nat → Int32)} {x5_nodes : (Nat → Int32)} {x5_stepCount : Int32} {x5_open : (Nat → Int32)} {x5_openCount : Int32} {x5_seen : Int64} {x5_edgeCount : Int32} {x5_aim : Int32} {m_shelf : (Nat → Int32)} {m_rowSort : (Nat → Int32)} {m_rowSize : (Nat → Int32)} {m_rows : (Nat → Nat → Int64)} {m_moved : (Nat → Int64)} {m_shown : (Nat → Int32)} {m_tape : (Nat → Int32)} {m_tapeSize : Int32} {m_refused : (Nat → Int32)} {m_lines : Int32} {m_line : (Nat → Nat → Int32)} {m_changes : (Nat → Int32)} {m_coins : (Nat → Int32)} {m_goods : Int32} {m_good : (Nat → Nat → Int32)} {m_works : Int32} {m_work : (Nat → Nat → Int32)} {m_years : Int32} {m_gone : Int32} {m_spent : Int32} {m_at : Int32} {m_token : Int32} {m_from : Int32} {m_figures : Int64} {m_fault : Int32} {m_numbers : (Nat → Int32)} {m_statements : Int32} {m_left : (Nat → Int32)} {m_far : (Nat → Int32)} {m_tons : Int32} {m_way : (Nat → Int32)} {m_steps : Int32} {m_met : Int64} {m_queue : (Nat → Int32)} {m_totals : (Nat → Int32)} {p1 er eg es e1 e6 fr : Int32} {e0 e2 e3 e4 e5 : Nat → Int32} {T : Int32 × Int32 × Int32 × Int32 × (Nat → Int32) × (Nat → Int32) × (Nat → Int32) × (Nat → Int32) × (Nat → Int32) × Int32} {Y : (Nat → Int32) × (Nat → Int32) × (Nat → Int32) × (Nat → Int32) × (Nat → Int32) × (Nat → Int32) × Int32 × Int32} {f0 f3 f7 f8 : Nat → Int32} {f1 f5 f6 f9 : Int32} {f2 f4 : Nat → Nat → Int32} (hn : 1000000000000 ≤ n) (h_x2_lineCount : (0 ≤ x2_lineCount ∧ x2_lineCount ≤ 20)) (h_x2_goodsCount : (0 ≤ x2_goodsCount ∧ x2_goodsCount ≤ 8)) (h_x2_workCount : (0 ≤ x2_workCount ∧ x2_workCount ≤ 7)) (h_x2_years : (1 ≤ x2_years ∧ x2_years ≤ 30)) (h_x2_lines : (LnOk x2_lines)) (h_x2_goods : (GdOk x2_goods)) (h_x2_works : (WkOk x2_works)) (h_x2_change : (AI 0 99 x2_change)) (h_x2_coin : (AI 0 9 x2_coin)) (h_x3_lineCount : (0 ≤ x3_lineCount ∧ x3_lineCount ≤ 20)) (h_x3_goodsCount : (0 ≤ x3_goodsCount ∧ x3_goodsCount ≤ 8)) (h_x3_workCount : (0 ≤ x3_workCount ∧ x3_workCount ≤ 7)) (h_x3_years : (1 ≤ x3_years ∧ x3_years ≤ 30)) (h_x3_lines : (LnOk x3_lines)) (h_x3_goods : (GdOk x3_goods)) (h_x3_works : (WkOk x3_works)) (h_x3_change : (AI 0 99 x3_change)) (h_x3_coin : (AI 0 9 x3_coin)) (h_x5_edgeA : (AI 0 35 x5_edgeA)) (h_x5_edgeB : (AI 0 35 x5_edgeB)) (h_x5_edgeLine : (AI 0 19 x5_edgeLine)) (h_x5_steps : (AI 0 22 x5_steps)) (h_x5_nodes : (AI 0 35 x5_nodes)) (h_x5_stepCount : (0 ≤ x5_stepCount ∧ x5_stepCount ≤ 36)) (h_x5_open : (AI 0 35 x5_open)) (h_x5_openCount : (0 ≤ x5_openCount ∧ x5_openCount ≤ 36)) (h_x5_edgeCount : (0 ≤ x5_edgeCount ∧ x5_edgeCount ≤ 60)) (h_m_shelf : (AI 0 2 m_shelf)) (h_m_rowSize : (AI 0 40 m_rowSize)) (h_m_tapeSize : (0 ≤ m_tapeSize ∧ m_tapeSize ≤ 250)) (h_m_lines : (0 ≤ m_lines ∧ m_lines ≤ 20)) (h_m_line : (LnM m_line)) (h_m_changes : (AI 0 99 m_changes)) (h_m_coins : (AI 0 9 m_coins)) (h_m_goods : (0 ≤ m_goods ∧ m_goods ≤ 8)) (h_m_good : (GdM m_good)) (h_m_works : (0 ≤ m_works ∧ m_works ≤ 7)) (h_m_work : (WkM m_work)) (h_m_years : (1 ≤ m_years ∧ m_years ≤ 30)) (h_m_from : (0 ≤ m_from ∧ m_from ≤ 250)) (h_m_far : (AI 0 1000000000 m_far)) (h_m_way : (AI 0 22 m_way)) (h_m_steps : (0 ≤ m_steps ∧ m_steps ≤ 37)) (h_m_queue : (AI 0 35 m_queue)) (hA : (LaD x3_lineCount x3_goodsCount x3_workCount x3_years x3_lines x3_goods x3_works x3_change x3_coin m_lines m_line m_changes m_coins m_goods m_good m_works m_work m_years)) (hk : Kn (FrS x3_lineCount (ro 7 x3_lines) x3_change x3_coin (ro 3 x3_goods) x3_goodsCount (ro 5 x3_works) x3_workCount) x3_knownFree x3_isKnown) (eqA : fX6_year n (x0_refused, x0_isKept, x0_gone, x0_spent) x1_gained (x2_lineCount, x2_goodsCount, x2_workCount, x2_years, x2_lines, x2_goods, x2_works, x2_change, x2_coin, x2_knownFree, x2_isKnown) (x3_lineCount, x3_goodsCount, x3_workCount, x3_years, x3_lines, x3_goods, x3_works, x3_change, x3_coin, x3_knownFree, x3_isKnown) (x4_left, x4_earned, x4_turnCost, x4_turnWayless) (x5_edgeA, x5_edgeB, x5_edgeCost, x5_edgeLine, x5_change, x5_away, x5_steps, x5_nodes, x5_stepCount, x5_open, x5_openCount, x5_seen, x5_edgeCount, x5_aim) p1 = some (er, e0, eg, es, T, (e1, e2, e3, e4, e5, e6), Y)) (eqB : fX7_year n (m_shelf, m_rowSort, m_rowSize, m_rows, m_moved, m_shown, m_tape, m_tapeSize, m_refused, m_lines, m_line, m_changes, m_coins, m_goods, m_good, m_works, m_work, m_years, m_gone, m_spent, m_at, m_token, m_from, m_figures, m_fault, m_numbers, m_statements, m_left, m_far, m_tons, m_way, m_steps, m_met, m_queue, m_totals) p1 = some (fr, (f0, f1, f2, f3, f4, f5, f6, f7, f8, f9))) : er = fr ∧ (LaD e1 x3_goodsCount x3_workCount x3_years e2 x3_goods e3 e4 x3_coin f1 f2 f3 m_coins m_goods m_good m_works f4 m_years) ∧ Kn (FrS e1 (ro 7 e2) e4 x3_coin (ro 3 x3_goods) x3_goodsCount (ro 5 e3) x3_workCount) e5 e6 := by
  have hf := hA.2.2.2.2.2.2
  have a := (yearC hn h_x2_lineCount h_x2_goodsCount h_x2_workCount h_x2_years h_x2_lines h_x2_goods h_x2_works h_x2_change h_x2_coin h_x3_lineCount h_x3_goodsCount h_x3_workCount h_x3_years h_x3_lines h_x3_goods h_x3_works h_x3_change h_x3_coin h_x5_edgeA h_x5_edgeB h_x5_edgeLine h_x5_steps h_x5_nodes h_x5_stepCount h_x5_open h_x5_openCount h_x5_edgeCount hf hk).at eqA
  have b := (yearR hn h_m_shelf h_m_rowSize h_m_tapeSize h_m_lines h_m_line h_m_changes h_m_coins h_m_goods h_m_good h_m_works h_m_work h_m_years h_m_from h_m_far h_m_way h_m_steps h_m_queue).at eqB
  have hS := hA.s
  obtain ⟨⟨z1, z2, z3, z4⟩, z5, z6, z7, z8, z9, z10⟩ := id hA
  subst z3
  rcases YQ_eq (fun k hk' => z7 k hk' 4 (by decide)) a b with ⟨hp, ha, hb, ⟨s1, s2⟩, s'⟩ | ⟨e, o, o'⟩
  · have hW : WfS x3_workCount.toNatClampNeg ((x3_lineCount, ro 7 x3_lines, x3_change), ro 5 x3_works) := ⟨h_x3_lineCount, z10⟩
    have s1 : SEq x3_workCount.toNatClampNeg ((e1, ro 7 e2, e4), ro 5 e3) (yearA p1 ((x3_lineCount, ro 7 x3_lines, x3_change), ro 5 x3_works)) := s1
    have s' : SEq x3_workCount.toNatClampNeg ((f1, f2, f3), f4) (yearA p1 ((m_lines, m_line, m_changes), m_work)) := s'
    have q := yearA_congr hS hW hp
    have hS2 := SEq.trans s1 (SEq.trans q s'.symm)
    refine ⟨?_, hA.of hS2 ((yearA_wf hW).congr s1.symm).2, s2⟩
    have ha : er = _ := ha
    have hb : fr = _ := hb
    subst z2
    rw [ha, hb]
    exact costA_congr hS hW hp z9 z6
  · cases o
    cases o'
    exact ⟨e, hA, hk⟩

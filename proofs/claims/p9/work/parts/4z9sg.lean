/-! freeWith answers FREE with the undone ones of a set done; the land stays, what is kept stays right -/
theorem fwLoop0 {n : Nat} {p2 v1 wc gc yr : Int32} {goods works coin kf : Nat → Int32} (hn : 1000000000000 ≤ n) (hw : 0 ≤ wc ∧ wc ≤ 7) (h0 : (p2 &&& (v1 ^^^ (-1))) = 0) {a0 a3 b0 b3 : Int32} {a1 a2 b1 b2 : Nat → Int32} : Sf (lp (u9 (fX0_freeWith_s47 p2 gc wc yr goods works coin v1 kf)) n (0, a0, a1, a2, a3, b0, b1, b2, b3)) (fun r => r = (a0, a1, a2, a3, b0, b1, b2, b3)) := by
  refine Sf.loop9 (fun z c0 c1 c2 c3 d0 d1 d2 d3 => (0 ≤ z ∧ z ≤ wc) ∧ (c0, c1, c2, c3, d0, d1, d2, d3) = (a0, a1, a2, a3, b0, b1, b2, b3)) (fun z c0 c1 c2 c3 d0 d1 d2 d3 => muUp z) (fun z c0 c1 c2 c3 d0 d1 d2 d3 h => ?_) (show (0 ≤ (0 : Int32) ∧ (0 : Int32) ≤ wc) ∧ (a0, a1, a2, a3, b0, b1, b2, b3) = (a0, a1, a2, a3, b0, b1, b2, b3) from ⟨⟨by decide, hw.1⟩, rfl⟩) (muUp_n hn)
  obtain ⟨h1, h2⟩ := h
  unfold fX0_freeWith_s47
  refine Sf.ite (fun hc => Sf.inr h2) (fun hc => ?_)
  obtain ⟨p0, p1, p3⟩ := up1 h1.1 (Int32.le_trans hw.2 (by decide)) hc
  have hz1 : z + 1 ≤ wc := by clear h2 h0; grind
  have hz : 0 ≤ z ∧ z ≤ 30 := ⟨h1.1, by clear h2 h0; grind⟩
  rw [h0, if_pos ((bit_at hz).mpr (tq_zero _))]
  exact Sf.inl (show (0 ≤ z + 1 ∧ z + 1 ≤ wc) ∧ (c0, c1, c2, c3, d0, d1, d2, d3) = (a0, a1, a2, a3, b0, b1, b2, b3) from ⟨⟨p0, hz1⟩, h2⟩) (muUp_lt hc)
theorem fwLoop1 {n : Nat} {p2 v1 gc wc yr : Int32} {goods works coin kf : Nat → Int32} (hn : 1000000000000 ≤ n) (hgc : 0 ≤ gc ∧ gc ≤ 8) (hw : 0 ≤ wc ∧ wc ≤ 7) (hyr : 1 ≤ yr ∧ yr ≤ 30) (hgd : GdOk goods) (hwk : WkOk works) (hco : AI 0 9 coin) {a0 a3 b0 b3 : Int32} {a1 a2 b1 b2 : Nat → Int32} (h0 : 0 ≤ a0 ∧ a0 ≤ 20) (h1 : LnOk a1) (h2 : AI 0 99 a2) (hf : ∀ k, k < wc.toNatClampNeg → Wf1 (ro 5 works) a0 k) : Sf (lp (u9 (fX0_freeWith_s47b p2 kf wc v1 gc wc yr goods works coin)) n (0, a0, a1, a2, a3, b0, b1, b2, b3)) (fun r => ((0 ≤ r.1 ∧ r.1 ≤ 20) ∧ LnOk r.2.1 ∧ AI 0 99 r.2.2.1) ∧ AbEq (r.1, ro 7 r.2.1, r.2.2.1) (doS (ro 5 works) (p2 &&& (v1 ^^^ (-1))) wc.toNatClampNeg (a0, ro 7 a1, a2)) ∧ (r.2.2.2.2.1, r.2.2.2.2.2.1, r.2.2.2.2.2.2.1, r.2.2.2.2.2.2.2) = (b0, b1, b2, b3)) := by
  refine Sf.loop9 (fun z c0 c1 c2 c3 d0 d1 d2 d3 => (0 ≤ z ∧ z ≤ wc) ∧ ((0 ≤ c0 ∧ c0 ≤ 20) ∧ LnOk c1 ∧ AI 0 99 c2) ∧ AbEq (c0, ro 7 c1, c2) (doS (ro 5 works) (p2 &&& (v1 ^^^ (-1))) z.toNatClampNeg (a0, ro 7 a1, a2)) ∧ (d0, d1, d2, d3) = (b0, b1, b2, b3)) (fun z c0 c1 c2 c3 d0 d1 d2 d3 => muUp z) (fun z c0 c1 c2 c3 d0 d1 d2 d3 h => ?_) (show (0 ≤ (0 : Int32) ∧ (0 : Int32) ≤ wc) ∧ ((0 ≤ a0 ∧ a0 ≤ 20) ∧ LnOk a1 ∧ AI 0 99 a2) ∧ AbEq (a0, ro 7 a1, a2) (doS (ro 5 works) (p2 &&& (v1 ^^^ (-1))) (0 : Int32).toNatClampNeg (a0, ro 7 a1, a2)) ∧ (b0, b1, b2, b3) = (b0, b1, b2, b3) from ⟨⟨by decide, hw.1⟩, ⟨h0, h1, h2⟩, AbEq.refl _, rfl⟩) (muUp_n hn)
  obtain ⟨i0, ⟨i1, i2, i3⟩, i4, i5⟩ := h
  unfold fX0_freeWith_s47b
  refine Sf.ite (fun hc => ?_) (fun hc => ?_)
  · have e : z = wc := Int32.le_antisymm i0.2 hc
    rw [e] at i4
    exact Sf.inr ⟨⟨i1, i2, i3⟩, i4, i5⟩
  obtain ⟨p0, p1, p3⟩ := up1 i0.1 (Int32.le_trans hw.2 (by decide)) hc
  have hz1 : z + 1 ≤ wc := by clear i4 i5; grind
  have hz : 0 ≤ z ∧ z ≤ 30 := ⟨i0.1, by clear i4 i5; grind⟩
  have hzn : z.toNatClampNeg < wc.toNatClampNeg := by
    have a := i32_cl i0.1
    have b := i32_cl hw.1
    have c := Int32.lt_iff_toInt_lt.mp p3
    omega
  have hA := doS_L (work := ro 5 works) (s := (p2 &&& (v1 ^^^ (-1)))) (A := (a0, ro 7 a1, a2)) h0 z.toNatClampNeg
  have nx : doS (ro 5 works) (p2 &&& (v1 ^^^ (-1))) (z + 1).toNatClampNeg (a0, ro 7 a1, a2) = if tq (p2 &&& (v1 ^^^ (-1))) z.toNatClampNeg = true then doA (ro 5 works) z.toNatClampNeg (doS (ro 5 works) (p2 &&& (v1 ^^^ (-1))) z.toNatClampNeg (a0, ro 7 a1, a2)) else doS (ro 5 works) (p2 &&& (v1 ^^^ (-1))) z.toNatClampNeg (a0, ro 7 a1, a2) := by
    rw [p1]
    rfl
  refine Sf.ite (fun hb => ?_) (fun hb => ?_)
  · have hb := (bit_at hz).mp hb
    rw [hb, if_neg (by decide)] at nx
    exact Sf.inl (show (0 ≤ z + 1 ∧ z + 1 ≤ wc) ∧ ((0 ≤ c0 ∧ c0 ≤ 20) ∧ LnOk c1 ∧ AI 0 99 c2) ∧ AbEq (c0, ro 7 c1, c2) (doS (ro 5 works) (p2 &&& (v1 ^^^ (-1))) (z + 1).toNatClampNeg (a0, ro 7 a1, a2)) ∧ (d0, d1, d2, d3) = (b0, b1, b2, b3) from ⟨⟨p0, hz1⟩, ⟨i1, i2, i3⟩, by rw [nx]; exact i4, i5⟩) (muUp_lt hc)
  · have hb : tq (p2 &&& (v1 ^^^ (-1))) z.toNatClampNeg = true := by
      cases hq : tq (p2 &&& (v1 ^^^ (-1))) z.toNatClampNeg with
      | true => rfl
      | false => exact absurd ((bit_at hz).mpr hq) hb
    rw [if_pos hb] at nx
    have e1 : c0 = (doS (ro 5 works) (p2 &&& (v1 ^^^ (-1))) z.toNatClampNeg (a0, ro 7 a1, a2)).1 := i4.1
    have hf' : Wf1 (ro 5 works) c0 z.toNatClampNeg := (hf _ hzn).mono (by rw [e1]; exact hA.1)
    refine Sf.bind (Sf.and (sX1_perform i1 hw i2 hwk i3) (performC (x0_years := yr) (x0_goods := goods) (x0_coin := coin) i1 hgc hw hyr i2 hgd hwk i3 hco ⟨i0.1, p3⟩ hf')) ?_
    rintro ⟨g1, g2, g3, g4⟩ ⟨⟨r1, r2, r3⟩, r4⟩
    try dsimp only [u4]
    refine Sf.inl (show (0 ≤ z + 1 ∧ z + 1 ≤ wc) ∧ ((0 ≤ g1 ∧ g1 ≤ 20) ∧ LnOk g2 ∧ AI 0 99 g3) ∧ AbEq (g1, ro 7 g2, g3) (doS (ro 5 works) (p2 &&& (v1 ^^^ (-1))) (z + 1).toNatClampNeg (a0, ro 7 a1, a2)) ∧ (d0, d1, d2, d3) = (b0, b1, b2, b3) from ⟨⟨p0, hz1⟩, ⟨r1, r2, r3⟩, ?_, i5⟩) (muUp_lt hc)
    rw [nx]
    exact AbEq.trans r4 (doA_congr i4 (fun c _ => rfl) hf' i1)
def FwQ (F : Int32 → Int32) (lc : Int32) (lines chg : Nat → Int32) (r : Int32 × (Nat → Int32) × (Nat → Int32) × (Nat → Int32) × Int32) : Prop := r.1 = lc ∧ r.2.1 = lines ∧ r.2.2.1 = chg ∧ Kn F r.2.2.2.1 r.2.2.2.2
theorem freeWithC {n : Nat} {x0_gained : Nat → Int32} {x1_left : (Nat → Int32)} {x1_earned : (Nat → Int32)} {x1_turnCost : Int32} {x1_turnWayless : Int32} {x2_edgeA : (Nat → Int32)} {x2_edgeB : (Nat → Int32)} {x2_edgeCost : (Nat → Int32)} {x2_edgeLine : (Nat → Int32)} {x2_change : (Nat → Int32)} {x2_away : (Nat → Int32)} {x2_steps : (Nat → Int32)} {x2_nodes : (Nat → Int32)} {x2_stepCount : Int32} {x2_open : (Nat → Int32)} {x2_openCount : Int32} {x2_seen : Int64} {x2_edgeCount : Int32} {x2_aim : Int32} {x3_lineCount : Int32} {x3_goodsCount : Int32} {x3_workCount : Int32} {x3_years : Int32} {x3_lines : (Nat → Int32)} {x3_goods : (Nat → Int32)} {x3_works : (Nat → Int32)} {x3_change : (Nat → Int32)} {x3_coin : (Nat → Int32)} {x3_knownFree : (Nat → Int32)} {x3_isKnown : Int32} {x4_lineCount : Int32} {x4_goodsCount : Int32} {x4_workCount : Int32} {x4_years : Int32} {x4_lines : (Nat → Int32)} {x4_goods : (Nat → Int32)} {x4_works : (Nat → Int32)} {x4_change : (Nat → Int32)} {x4_coin : (Nat → Int32)} {x4_knownFree : (Nat → Int32)} {x4_isKnown : Int32} {p2 : Int32} (hn : 1000000000000 ≤ n) (h_x2_edgeA : (AI 0 35 x2_edgeA)) (h_x2_edgeB : (AI 0 35 x2_edgeB)) (h_x2_edgeLine : (AI 0 19 x2_edgeLine)) (h_x2_steps : (AI 0 22 x2_steps)) (h_x2_nodes : (AI 0 35 x2_nodes)) (h_x2_stepCount : (0 ≤ x2_stepCount ∧ x2_stepCount ≤ 36)) (h_x2_open : (AI 0 35 x2_open)) (h_x2_openCount : (0 ≤ x2_openCount ∧ x2_openCount ≤ 36)) (h_x2_edgeCount : (0 ≤ x2_edgeCount ∧ x2_edgeCount ≤ 60)) (h_x3_lineCount : (0 ≤ x3_lineCount ∧ x3_lineCount ≤ 20)) (h_x3_goodsCount : (0 ≤ x3_goodsCount ∧ x3_goodsCount ≤ 8)) (h_x3_workCount : (0 ≤ x3_workCount ∧ x3_workCount ≤ 7)) (h_x3_years : (1 ≤ x3_years ∧ x3_years ≤ 30)) (h_x3_lines : (LnOk x3_lines)) (h_x3_goods : (GdOk x3_goods)) (h_x3_works : (WkOk x3_works)) (h_x3_change : (AI 0 99 x3_change)) (h_x3_coin : (AI 0 9 x3_coin)) (h_x4_lineCount : (0 ≤ x4_lineCount ∧ x4_lineCount ≤ 20)) (h_x4_goodsCount : (0 ≤ x4_goodsCount ∧ x4_goodsCount ≤ 8)) (h_x4_workCount : (0 ≤ x4_workCount ∧ x4_workCount ≤ 7)) (h_x4_years : (1 ≤ x4_years ∧ x4_years ≤ 30)) (h_x4_lines : (LnOk x4_lines)) (h_x4_goods : (GdOk x4_goods)) (h_x4_works : (WkOk x4_works)) (h_x4_change : (AI 0 99 x4_change)) (h_x4_coin : (AI 0 9 x4_coin)) (hf : ∀ k, k < x4_workCount.toNatClampNeg → Wf1 (ro 5 x4_works) x4_lineCount k) (hk : Kn (FrS x4_lineCount (ro 7 x4_lines) x4_change x4_coin (ro 3 x4_goods) x4_goodsCount (ro 5 x4_works) x4_workCount) x4_knownFree x4_isKnown) : Sf (fX0_freeWith n x0_gained (x1_left, x1_earned, x1_turnCost, x1_turnWayless) (x2_edgeA, x2_edgeB, x2_edgeCost, x2_edgeLine, x2_change, x2_away, x2_steps, x2_nodes, x2_stepCount, x2_open, x2_openCount, x2_seen, x2_edgeCount, x2_aim) (x3_lineCount, x3_goodsCount, x3_workCount, x3_years, x3_lines, x3_goods, x3_works, x3_change, x3_coin, x3_knownFree, x3_isKnown) (x4_lineCount, x4_goodsCount, x4_workCount, x4_years, x4_lines, x4_goods, x4_works, x4_change, x4_coin, x4_knownFree, x4_isKnown) p2) (fun r => (∃ s, (∀ k, k < x4_workCount.toNatClampNeg → tq s k = (tq p2 k && decide (ro 5 x4_works k 4 = 0))) ∧ r.1 = FrS x4_lineCount (ro 7 x4_lines) x4_change x4_coin (ro 3 x4_goods) x4_goodsCount (ro 5 x4_works) x4_workCount s) ∧ FwQ (FrS x4_lineCount (ro 7 x4_lines) x4_change x4_coin (ro 3 x4_goods) x4_goodsCount (ro 5 x4_works) x4_workCount) x4_lineCount x4_lines x4_change r.2.2.2) := by
  unfold fX0_freeWith
  dsimp only [u4, u14, u11]
  refine Sf.bind (doneS hn h_x4_works h_x4_workCount) (fun v1 hv1 => ?_)
  have hbits : ∀ k, k < x4_workCount.toNatClampNeg → tq (p2 &&& (v1 ^^^ (-1))) k = (tq p2 k && decide (ro 5 x4_works k 4 = 0)) := by
    intro k hk'
    have h7 : k < 7 := by
      have a := i32_cl h_x4_workCount.1
      have b := (i32_b h_x4_workCount).2
      have e : (7 : Int32).toInt = 7 := by decide
      omega
    rw [tq_and, tq_not _ (by omega)]
    congr 1
    have q := hv1 k (by omega)
    cases hq : tq v1 k with
    | true =>
      have q := (q.mp hq).2
      rw [decide_eq_false q]
      rfl
    | false =>
      have q2 : ro 5 x4_works k 4 = 0 := by
        refine Classical.byContradiction fun hne => ?_
        have := q.mpr ⟨hk', hne⟩
        rw [hq] at this
        cases this
      rw [decide_eq_true q2]
      rfl
  refine Sf.bind (knownS hn hk) ?_
  rintro ⟨v3, g4, g5⟩ ⟨k1, k2, k3⟩
  have k1 : v3 = -1 ∨ v3 = _ := k1
  try dsimp only [u3]
  refine Sf.ite (fun hc => ?_) (fun hc => ?_)
  · refine Sf.ite (fun hu => ?_) (fun hu => ?_)
    · refine Sf.bind (fwLoop0 hn h_x4_workCount hu) ?_
      rintro ⟨w28, w29, w30, w31, w32, w33, w34, w35⟩ e
      cases e
      try dsimp only [u8]
      refine Sf.bind (thereS hn h_x4_lineCount) (fun v36 h36 => ?_)
      refine Sf.bind (freeByC hn h_x2_edgeA h_x2_edgeB h_x2_edgeLine h_x2_steps h_x2_nodes h_x2_stepCount h_x2_open h_x2_openCount h_x2_edgeCount h_x4_lineCount h_x4_goodsCount h_x4_workCount h_x4_years h_x4_lines h_x4_goods h_x4_works h_x4_change h_x4_coin h36) ?_
      rintro ⟨v38, g40, g41, g42, g43, g44, g45, g46, g47⟩ e38
      have e38 : v38 = _ := e38
      try dsimp only [u2]
      have e39 : v38 = FrS x4_lineCount (ro 7 x4_lines) x4_change x4_coin (ro 3 x4_goods) x4_goodsCount (ro 5 x4_works) x4_workCount (p2 &&& (v1 ^^^ (-1))) := by
        rw [e38, hu]
        unfold FrS
        rw [doS_none _ (fun k _ => tq_zero k)]
        rfl
      refine Sf.bind (keepS k2 e39) (fun g49 h49 => ?_)
      exact Sf.ok ⟨⟨_, hbits, e39⟩, rfl, rfl, rfl, h49⟩
    · refine Sf.bind (Sf.and (sX1_take h_x3_lines h_x3_goods h_x3_works h_x3_change h_x3_coin h_x4_lineCount h_x4_goodsCount h_x4_workCount h_x4_years h_x4_lines h_x4_goods h_x4_works h_x4_change h_x4_coin) (takeC h_x4_lineCount h_x4_goodsCount h_x4_workCount h_x4_years h_x4_lines h_x4_goods h_x4_works h_x4_change h_x4_coin)) ?_
      rintro ⟨g57, g58, g59, g60, g61, g62, g63, g64, g65, g66⟩ ⟨⟨t0, t1, t2, t3, t4, t5, t6, t7, t8⟩, s0, s1, s2, s3, s4, s5, s6, s7, s8, s9⟩
      have s0 : g57 = x4_lineCount := s0
      have s1 : g58 = x4_goodsCount := s1
      have s2 : g59 = x4_workCount := s2
      have s3 : g60 = x4_years := s3
      have s4 : ∀ l, l < x4_lineCount.toNatClampNeg → ∀ c, c < 7 → ro 7 g61 l c = ro 7 x4_lines l c := s4
      have s5 : ∀ g, g < x4_goodsCount.toNatClampNeg → ∀ c, c < 3 → ro 3 g62 g c = ro 3 x4_goods g c := s5
      have s6 : ∀ k, k < x4_workCount.toNatClampNeg → ∀ c, c < 5 → ro 5 g63 k c = ro 5 x4_works k c := s6
      have s7 : ∀ p, p < 12 → g64 p = x4_change p := s7
      have s8 : ∀ w, w < 3 → g65 w = x4_coin w := s8
      have t4 : LnOk g61 := t4
      have t5 : GdOk g62 := t5
      have t6 : WkOk g63 := t6
      have t7 : AI 0 99 g64 := t7
      have t8 : AI 0 9 g65 := t8
      subst s0 s1 s2 s3
      try dsimp only [u10]
      have hf' : ∀ k, k < g59.toNatClampNeg → Wf1 (ro 5 g63) g57 k := fun k hk' => (hf k hk').congr (fun c hc' => (s6 k hk' c (by omega)).symm)
      refine Sf.bind (fwLoop1 hn h_x4_goodsCount h_x4_workCount h_x4_years t5 t6 t8 h_x4_lineCount t4 t7 hf') ?_
      rintro ⟨w79, w80, w81, w82, w83, w84, w85, w86⟩ ⟨⟨r1, r2, r3⟩, r4, r5⟩
      obtain ⟨y1, y2, y3, y4⟩ : g57 = w83 ∧ x4_lines = w84 ∧ x4_change = w85 ∧ g5 = w86 := by cases r5; exact ⟨rfl, rfl, rfl, rfl⟩
      subst y1 y2 y3 y4
      have r1 : 0 ≤ w79 ∧ w79 ≤ 20 := r1
      have r2 : LnOk w80 := r2
      have r3 : AI 0 99 w81 := r3
      try dsimp only [u8]
      refine Sf.bind (thereS hn r1) (fun v87 h87 => ?_)
      refine Sf.bind (freeByC hn h_x2_edgeA h_x2_edgeB h_x2_edgeLine h_x2_steps h_x2_nodes h_x2_stepCount h_x2_open h_x2_openCount h_x2_edgeCount r1 h_x4_goodsCount h_x4_workCount h_x4_years r2 t5 t6 r3 t8 h87) ?_
      rintro ⟨v89, g91, g92, g93, g94, g95, g96, g97, g98⟩ e89
      have e89 : v89 = FrA (w79, ro 7 w80, w81) g65 (ro 3 g62) g58 := e89
      try dsimp only [u2]
      have e90 : v89 = FrS g57 (ro 7 x4_lines) x4_change x4_coin (ro 3 x4_goods) g58 (ro 5 x4_works) g59 (p2 &&& (v1 ^^^ (-1))) := by
        have q : AbEq (w79, ro 7 w80, w81) (doS (ro 5 x4_works) (p2 &&& (v1 ^^^ (-1))) g59.toNatClampNeg (g57, ro 7 x4_lines, x4_change)) := AbEq.trans r4 (doS_congr (A := (g57, ro 7 g61, g64)) (B := (g57, ro 7 x4_lines, x4_change)) ⟨rfl, s4, s7⟩ h_x4_lineCount _ (fun k _ => rfl) (fun k hk' c hc' => s6 k hk' c (by omega)) hf')
        have q2 := FrA_congr (coins := g65) (coins' := x4_coin) (good := ro 3 g62) (good' := ro 3 x4_goods) (G := g58) q s8 s5
        exact e89.trans q2
      refine Sf.bind (keepS k2 e90) (fun g49 h49 => ?_)
      exact Sf.ok ⟨⟨_, hbits, e90⟩, rfl, rfl, rfl, h49⟩
  · refine Sf.ok ⟨⟨_, hbits, ?_⟩, rfl, rfl, rfl, k2⟩
    rcases k1 with k1 | k1
    · exact absurd k1 hc
    · exact k1

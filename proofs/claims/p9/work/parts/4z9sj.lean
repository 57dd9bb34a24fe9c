/-! totals: values, and the land stays -/
def StB (a b d : Nat → Int32) (e : Int32) (t0 t1 t2 t3 : Int32) (t4 t5 t6 t7 t8 : Nat → Int32) : Prop := (AI 0 35 a ∧ AI 0 35 b ∧ AI 0 19 d ∧ (0 ≤ e ∧ e ≤ 60)) ∧ ((0 ≤ t0 ∧ t0 ≤ 20) ∧ (0 ≤ t1 ∧ t1 ≤ 8) ∧ (0 ≤ t2 ∧ t2 ≤ 7) ∧ (1 ≤ t3 ∧ t3 ≤ 30) ∧ LnOk t4 ∧ GdOk t5 ∧ WkOk t6 ∧ AI 0 99 t7 ∧ AI 0 9 t8)
/-- the works of a set that are not done, done in their order -/
def doU (work : Nat → Nat → Int32) (s : Int32) : Nat → Ab → Ab
  | 0, A => A
  | k + 1, A => if tq s k = true ∧ work k 4 = 0 then doA work k (doU work s k A) else doU work s k A
theorem doS_doU {work : Nat → Nat → Int32} {s s' : Int32} {A : Ab} : ∀ K : Nat, (∀ k, k < K → tq s' k = (tq s k && decide (work k 4 = 0))) → doS work s' K A = doU work s K A
  | 0, _ => rfl
  | K + 1, h => by
    have ih := doS_doU (A := A) K (fun k hk => h k (by omega))
    have e := h K (by omega)
    show (if tq s' K = true then doA work K (doS work s' K A) else doS work s' K A) = (if tq s K = true ∧ work K 4 = 0 then doA work K (doU work s K A) else doU work s K A)
    rw [ih]
    by_cases hc : tq s K = true ∧ work K 4 = 0
    · rw [if_pos hc, if_pos (by rw [e, hc.1, decide_eq_true hc.2]; rfl)]
    · rw [if_neg hc, if_neg]
      intro hh
      rw [e, Bool.and_eq_true, decide_eq_true_eq] at hh
      exact hc hh
/-- the coin of the works of a set that are not done -/
def cnU (work : Nat → Nat → Int32) (s : Int32) (k : Nat) : Int32 := if tq s k = true ∧ work k 4 = 0 then work k 3 else 0
noncomputable def TotA (A : Ab) (coins : Nat → Int32) (good : Nat → Nat → Int32) (G : Int32) (work : Nat → Nat → Int32) (W yr s : Int32) : Int32 := yr * FrA (doU work s W.toNatClampNeg A) coins good G + sm (cnU work s) W.toNatClampNeg
theorem totalOfC {n : Nat} {x0_gained : Nat → Int32} {x1_left : (Nat → Int32)} {x1_earned : (Nat → Int32)} {x1_turnCost : Int32} {x1_turnWayless : Int32} {x2_edgeA : (Nat → Int32)} {x2_edgeB : (Nat → Int32)} {x2_edgeCost : (Nat → Int32)} {x2_edgeLine : (Nat → Int32)} {x2_change : (Nat → Int32)} {x2_away : (Nat → Int32)} {x2_steps : (Nat → Int32)} {x2_nodes : (Nat → Int32)} {x2_stepCount : Int32} {x2_open : (Nat → Int32)} {x2_openCount : Int32} {x2_seen : Int64} {x2_edgeCount : Int32} {x2_aim : Int32} {x3_lineCount : Int32} {x3_goodsCount : Int32} {x3_workCount : Int32} {x3_years : Int32} {x3_lines : (Nat → Int32)} {x3_goods : (Nat → Int32)} {x3_works : (Nat → Int32)} {x3_change : (Nat → Int32)} {x3_coin : (Nat → Int32)} {x3_knownFree : (Nat → Int32)} {x3_isKnown : Int32} {x4_lineCount : Int32} {x4_goodsCount : Int32} {x4_workCount : Int32} {x4_years : Int32} {x4_lines : (Nat → Int32)} {x4_goods : (Nat → Int32)} {x4_works : (Nat → Int32)} {x4_change : (Nat → Int32)} {x4_coin : (Nat → Int32)} {x4_knownFree : (Nat → Int32)} {x4_isKnown : Int32} {p2 : Int32} (hn : 1000000000000 ≤ n) (h_x2_edgeA : (AI 0 35 x2_edgeA)) (h_x2_edgeB : (AI 0 35 x2_edgeB)) (h_x2_edgeLine : (AI 0 19 x2_edgeLine)) (h_x2_steps : (AI 0 22 x2_steps)) (h_x2_nodes : (AI 0 35 x2_nodes)) (h_x2_stepCount : (0 ≤ x2_stepCount ∧ x2_stepCount ≤ 36)) (h_x2_open : (AI 0 35 x2_open)) (h_x2_openCount : (0 ≤ x2_openCount ∧ x2_openCount ≤ 36)) (h_x2_edgeCount : (0 ≤ x2_edgeCount ∧ x2_edgeCount ≤ 60)) (h_x3_lineCount : (0 ≤ x3_lineCount ∧ x3_lineCount ≤ 20)) (h_x3_goodsCount : (0 ≤ x3_goodsCount ∧ x3_goodsCount ≤ 8)) (h_x3_workCount : (0 ≤ x3_workCount ∧ x3_workCount ≤ 7)) (h_x3_years : (1 ≤ x3_years ∧ x3_years ≤ 30)) (h_x3_lines : (LnOk x3_lines)) (h_x3_goods : (GdOk x3_goods)) (h_x3_works : (WkOk x3_works)) (h_x3_change : (AI 0 99 x3_change)) (h_x3_coin : (AI 0 9 x3_coin)) (h_x4_lineCount : (0 ≤ x4_lineCount ∧ x4_lineCount ≤ 20)) (h_x4_goodsCount : (0 ≤ x4_goodsCount ∧ x4_goodsCount ≤ 8)) (h_x4_workCount : (0 ≤ x4_workCount ∧ x4_workCount ≤ 7)) (h_x4_years : (1 ≤ x4_years ∧ x4_years ≤ 30)) (h_x4_lines : (LnOk x4_lines)) (h_x4_goods : (GdOk x4_goods)) (h_x4_works : (WkOk x4_works)) (h_x4_change : (AI 0 99 x4_change)) (h_x4_coin : (AI 0 9 x4_coin)) (hf : ∀ k, k < x4_workCount.toNatClampNeg → Wf1 (ro 5 x4_works) x4_lineCount k) (hk : Kn (FrS x4_lineCount (ro 7 x4_lines) x4_change x4_coin (ro 3 x4_goods) x4_goodsCount (ro 5 x4_works) x4_workCount) x4_knownFree x4_isKnown) : Sf (fX0_totalOf n x0_gained (x1_left, x1_earned, x1_turnCost, x1_turnWayless) (x2_edgeA, x2_edgeB, x2_edgeCost, x2_edgeLine, x2_change, x2_away, x2_steps, x2_nodes, x2_stepCount, x2_open, x2_openCount, x2_seen, x2_edgeCount, x2_aim) (x3_lineCount, x3_goodsCount, x3_workCount, x3_years, x3_lines, x3_goods, x3_works, x3_change, x3_coin, x3_knownFree, x3_isKnown) (x4_lineCount, x4_goodsCount, x4_workCount, x4_years, x4_lines, x4_goods, x4_works, x4_change, x4_coin, x4_knownFree, x4_isKnown) p2) (fun r => r.1 = TotA (x4_lineCount, ro 7 x4_lines, x4_change) x4_coin (ro 3 x4_goods) x4_goodsCount (ro 5 x4_works) x4_workCount x4_years p2 ∧ FwQ (FrS x4_lineCount (ro 7 x4_lines) x4_change x4_coin (ro 3 x4_goods) x4_goodsCount (ro 5 x4_works) x4_workCount) x4_lineCount x4_lines x4_change r.2.2.2) := by
  unfold fX0_totalOf
  dsimp only [u4, u14, u11]
  refine Sf.bind (freeWithC hn h_x2_edgeA h_x2_edgeB h_x2_edgeLine h_x2_steps h_x2_nodes h_x2_stepCount h_x2_open h_x2_openCount h_x2_edgeCount h_x3_lineCount h_x3_goodsCount h_x3_workCount h_x3_years h_x3_lines h_x3_goods h_x3_works h_x3_change h_x3_coin h_x4_lineCount h_x4_goodsCount h_x4_workCount h_x4_years h_x4_lines h_x4_goods h_x4_works h_x4_change h_x4_coin hf hk) ?_
  rintro ⟨v1, ⟨g3, g4, g5, g6, g7, g8, g9, g10⟩, ⟨g12, g13, g14, g15, g16, g17, g18, g19, g20, g21⟩, ⟨g23, g24, g25, g26, g27⟩⟩ ⟨⟨s, hs, e1⟩, q1, q2, q3, q4⟩
  have e1 : v1 = _ := e1
  try dsimp only [u8, u10, u5]
  refine Sf.bind (P := fun w => w = TotA (x4_lineCount, ro 7 x4_lines, x4_change) x4_coin (ro 3 x4_goods) x4_goodsCount (ro 5 x4_works) x4_workCount x4_years p2) ?_ (fun w h => Sf.ok ⟨h, q1, q2, q3, q4⟩)
  have f1 : v1 = FrA (doU (ro 5 x4_works) p2 x4_workCount.toNatClampNeg (x4_lineCount, ro 7 x4_lines, x4_change)) x4_coin (ro 3 x4_goods) x4_goodsCount := by
    rw [e1]
    unfold FrS
    rw [doS_doU _ hs]
  refine Sf.loop2 (fun (z30 z31 : Int32) => (0 ≤ z31 ∧ z31 ≤ x4_workCount) ∧ z30 = x4_years * v1 + sm (cnU (ro 5 x4_works) p2) z31.toNatClampNeg) (fun z30 z31 => muUp z31) (fun z30 z31 h => ?_) (show (0 ≤ (0 : Int32) ∧ (0 : Int32) ≤ x4_workCount) ∧ x4_years * v1 = x4_years * v1 + sm (cnU (ro 5 x4_works) p2) (0 : Int32).toNatClampNeg from ⟨⟨by decide, h_x4_workCount.1⟩, (Int32.add_zero _).symm⟩) (muUp_n hn)
  obtain ⟨i0, i1⟩ := h
  unfold fX0_totalOf_s15
  refine Sf.ite (fun hc => ?_) (fun hc => ?_)
  · have e : z31 = x4_workCount := Int32.le_antisymm i0.2 hc
    refine Sf.inr (show z30 = _ from ?_)
    rw [i1, e, f1]
    rfl
  obtain ⟨p0, p1, p3⟩ := up1 i0.1 (Int32.le_trans h_x4_workCount.2 (by decide)) hc
  have hz1 : z31 + 1 ≤ x4_workCount := by clear i1 e1 f1 hk hf hs; grind
  have hz6 : 0 ≤ z31 ∧ z31 ≤ 6 := ⟨i0.1, by clear i1 e1 f1 hk hf hs; grind⟩
  have hz30 : 0 ≤ z31 ∧ z31 ≤ 30 := ⟨i0.1, Int32.le_trans hz6.2 (by decide)⟩
  have nx : x4_years * v1 + sm (cnU (ro 5 x4_works) p2) (z31 + 1).toNatClampNeg = z30 + cnU (ro 5 x4_works) p2 z31.toNatClampNeg := by
    rw [p1, i1]
    show _ + (sm (cnU (ro 5 x4_works) p2) z31.toNatClampNeg + cnU (ro 5 x4_works) p2 z31.toNatClampNeg) = _
    rw [Int32.add_assoc]
  have no : ¬ (tq p2 z31.toNatClampNeg = true ∧ ro 5 x4_works z31.toNatClampNeg 4 = 0) → z30 = x4_years * v1 + sm (cnU (ro 5 x4_works) p2) (z31 + 1).toNatClampNeg := by
    intro hno
    rw [nx]
    unfold cnU
    rw [if_neg hno, Int32.add_zero]
  refine Sf.ite (fun hb => ?_) (fun hb => ?_)
  · have hb := (bit_at hz30).mp hb
    exact Sf.inl (show (0 ≤ z31 + 1 ∧ z31 + 1 ≤ x4_workCount) ∧ z30 = x4_years * v1 + sm (cnU (ro 5 x4_works) p2) (z31 + 1).toNatClampNeg from ⟨⟨p0, hz1⟩, no (fun h => by rw [hb] at h; exact absurd h.1 (by decide))⟩) (muUp_lt hc)
  · have hb : tq p2 z31.toNatClampNeg = true := by
      cases hq : tq p2 z31.toNatClampNeg with
      | true => rfl
      | false => exact absurd ((bit_at hz30).mpr hq) hb
    refine Sf.bind (isDoneS h_x4_works hz6) (fun v34 e34 => ?_)
    refine Sf.ite (fun hv => ?_) (fun hv => ?_)
    · have hd : ro 5 x4_works z31.toNatClampNeg 4 = 0 := by
        refine Classical.byContradiction fun hn' => ?_
        rw [if_neg hn'] at e34
        rw [e34] at hv
        exact absurd hv (by decide)
      refine Sf.bind (ofWorkV h_x4_works hz6 (by decide)) (fun v36 e36 => ?_)
      have e36 : v36 = ro 5 x4_works z31.toNatClampNeg 3 := e36
      refine Sf.inl (show (0 ≤ z31 + 1 ∧ z31 + 1 ≤ x4_workCount) ∧ z30 + v36 = x4_years * v1 + sm (cnU (ro 5 x4_works) p2) (z31 + 1).toNatClampNeg from ⟨⟨p0, hz1⟩, ?_⟩) (muUp_lt hc)
      rw [nx, e36]
      unfold cnU
      rw [if_pos ⟨hb, hd⟩]
    · have hd : ro 5 x4_works z31.toNatClampNeg 4 ≠ 0 := by
        intro hn'
        rw [if_pos hn'] at e34
        exact hv e34
      exact Sf.inl (show (0 ≤ z31 + 1 ∧ z31 + 1 ≤ x4_workCount) ∧ z30 = x4_years * v1 + sm (cnU (ro 5 x4_works) p2) (z31 + 1).toNatClampNeg from ⟨⟨p0, hz1⟩, no (fun h => hd h.2)⟩) (muUp_lt hc)

/-! best, never: the land stays, and what is kept of it stays right -/
theorem bestOfK {n : Nat} {x0_gained : Nat → Int32} {x1_left : (Nat → Int32)} {x1_earned : (Nat → Int32)} {x1_turnCost : Int32} {x1_turnWayless : Int32} {x2_edgeA : (Nat → Int32)} {x2_edgeB : (Nat → Int32)} {x2_edgeCost : (Nat → Int32)} {x2_edgeLine : (Nat → Int32)} {x2_change : (Nat → Int32)} {x2_away : (Nat → Int32)} {x2_steps : (Nat → Int32)} {x2_nodes : (Nat → Int32)} {x2_stepCount : Int32} {x2_open : (Nat → Int32)} {x2_openCount : Int32} {x2_seen : Int64} {x2_edgeCount : Int32} {x2_aim : Int32} {x3_lineCount : Int32} {x3_goodsCount : Int32} {x3_workCount : Int32} {x3_years : Int32} {x3_lines : (Nat → Int32)} {x3_goods : (Nat → Int32)} {x3_works : (Nat → Int32)} {x3_change : (Nat → Int32)} {x3_coin : (Nat → Int32)} {x3_knownFree : (Nat → Int32)} {x3_isKnown : Int32} {x4_lineCount : Int32} {x4_goodsCount : Int32} {x4_workCount : Int32} {x4_years : Int32} {x4_lines : (Nat → Int32)} {x4_goods : (Nat → Int32)} {x4_works : (Nat → Int32)} {x4_change : (Nat → Int32)} {x4_coin : (Nat → Int32)} {x4_knownFree : (Nat → Int32)} {x4_isKnown : Int32} (hn : 1000000000000 ≤ n) (h_x2_edgeA : (AI 0 35 x2_edgeA)) (h_x2_edgeB : (AI 0 35 x2_edgeB)) (h_x2_edgeLine : (AI 0 19 x2_edgeLine)) (h_x2_steps : (AI 0 22 x2_steps)) (h_x2_nodes : (AI 0 35 x2_nodes)) (h_x2_stepCount : (0 ≤ x2_stepCount ∧ x2_stepCount ≤ 36)) (h_x2_open : (AI 0 35 x2_open)) (h_x2_openCount : (0 ≤ x2_openCount ∧ x2_openCount ≤ 36)) (h_x2_edgeCount : (0 ≤ x2_edgeCount ∧ x2_edgeCount ≤ 60)) (h_x3_lineCount : (0 ≤ x3_lineCount ∧ x3_lineCount ≤ 20)) (h_x3_goodsCount : (0 ≤ x3_goodsCount ∧ x3_goodsCount ≤ 8)) (h_x3_workCount : (0 ≤ x3_workCount ∧ x3_workCount ≤ 7)) (h_x3_years : (1 ≤ x3_years ∧ x3_years ≤ 30)) (h_x3_lines : (LnOk x3_lines)) (h_x3_goods : (GdOk x3_goods)) (h_x3_works : (WkOk x3_works)) (h_x3_change : (AI 0 99 x3_change)) (h_x3_coin : (AI 0 9 x3_coin)) (h_x4_lineCount : (0 ≤ x4_lineCount ∧ x4_lineCount ≤ 20)) (h_x4_goodsCount : (0 ≤ x4_goodsCount ∧ x4_goodsCount ≤ 8)) (h_x4_workCount : (0 ≤ x4_workCount ∧ x4_workCount ≤ 7)) (h_x4_years : (1 ≤ x4_years ∧ x4_years ≤ 30)) (h_x4_lines : (LnOk x4_lines)) (h_x4_goods : (GdOk x4_goods)) (h_x4_works : (WkOk x4_works)) (h_x4_change : (AI 0 99 x4_change)) (h_x4_coin : (AI 0 9 x4_coin)) (hf : ∀ k, k < x4_workCount.toNatClampNeg → Wf1 (ro 5 x4_works) x4_lineCount k) (hk : Kn (FrS x4_lineCount (ro 7 x4_lines) x4_change x4_coin (ro 3 x4_goods) x4_goodsCount (ro 5 x4_works) x4_workCount) x4_knownFree x4_isKnown) : Sf (fX0_bestOf n x0_gained (x1_left, x1_earned, x1_turnCost, x1_turnWayless) (x2_edgeA, x2_edgeB, x2_edgeCost, x2_edgeLine, x2_change, x2_away, x2_steps, x2_nodes, x2_stepCount, x2_open, x2_openCount, x2_seen, x2_edgeCount, x2_aim) (x3_lineCount, x3_goodsCount, x3_workCount, x3_years, x3_lines, x3_goods, x3_works, x3_change, x3_coin, x3_knownFree, x3_isKnown) (x4_lineCount, x4_goodsCount, x4_workCount, x4_years, x4_lines, x4_goods, x4_works, x4_change, x4_coin, x4_knownFree, x4_isKnown)) (fun r => FwQ (FrS x4_lineCount (ro 7 x4_lines) x4_change x4_coin (ro 3 x4_goods) x4_goodsCount (ro 5 x4_works) x4_workCount) x4_lineCount x4_lines x4_change r.2.2.2) := by
  unfold fX0_bestOf
  dsimp only [u4, u14, u11]
  refine Sf.bind (Sf.and (sX0_totalOf hn h_x2_edgeA h_x2_edgeB h_x2_edgeLine h_x2_steps h_x2_nodes h_x2_stepCount h_x2_open h_x2_openCount h_x2_edgeCount h_x3_lineCount h_x3_goodsCount h_x3_workCount h_x3_years h_x3_lines h_x3_goods h_x3_works h_x3_change h_x3_coin h_x4_lineCount h_x4_goodsCount h_x4_workCount h_x4_years h_x4_lines h_x4_goods h_x4_works h_x4_change h_x4_coin) (totalOfC (x0_gained := x0_gained) (x1_left := x1_left) (x1_earned := x1_earned) (x1_turnCost := x1_turnCost) (x1_turnWayless := x1_turnWayless) hn h_x2_edgeA h_x2_edgeB h_x2_edgeLine h_x2_steps h_x2_nodes h_x2_stepCount h_x2_open h_x2_openCount h_x2_edgeCount h_x3_lineCount h_x3_goodsCount h_x3_workCount h_x3_years h_x3_lines h_x3_goods h_x3_works h_x3_change h_x3_coin h_x4_lineCount h_x4_goodsCount h_x4_workCount h_x4_years h_x4_lines h_x4_goods h_x4_works h_x4_change h_x4_coin hf hk)) ?_
  rintro ⟨v1, ⟨g3, g4, g5, g6, g7, g8, g9, g10⟩, ⟨g12, g13, g14, g15, g16, g17, g18, g19, g20, g21⟩, ⟨g23, g24, g25, g26, g27⟩⟩ ⟨⟨b1, b2, b3, b4, b5, b6, b7, b8, b9, b10, b11, b12, b13, b14, b15, b16⟩, e1, q1, q2, q3, q4⟩
  have q1 : g23 = x4_lineCount := q1
  have q2 : g24 = x4_lines := q2
  have q3 : g25 = x4_change := q3
  have q4 : Kn _ g26 g27 := q4
  try dsimp only [u8, u10, u5]
  rw [q1, q2, q3]
  refine Sf.bind (doneS hn h_x4_works h_x4_workCount) (fun v29 h29 => ?_)
  refine Sf.bind (P := fun r => FwQ (FrS x4_lineCount (ro 7 x4_lines) x4_change x4_coin (ro 3 x4_goods) x4_goodsCount (ro 5 x4_works) x4_workCount) x4_lineCount x4_lines x4_change r.2.2.2.2.2.2.2.2.2.2.2.2.2.2.2.2.2.2.2) ?_ ?_
  · refine Sf.loop26 (fun z32 z33 z34 z35 z36 z37 z38 z39 z40 z41 z42 z43 z44 z45 z46 z47 z48 z49 z50 z51 z52 z53 z54 z55 z56 z57 => 0 ≤ z34 ∧ StB z35 z36 z38 z41 z43 z44 z45 z46 z47 z48 z49 z50 z51 ∧ FwQ (FrS x4_lineCount (ro 7 x4_lines) x4_change x4_coin (ro 3 x4_goods) x4_goodsCount (ro 5 x4_works) x4_workCount) x4_lineCount x4_lines x4_change (z53, z54, z55, z56, z57)) (fun z32 z33 z34 z35 z36 z37 z38 z39 z40 z41 z42 z43 z44 z45 z46 z47 z48 z49 z50 z51 z52 z53 z54 z55 z56 z57 => muUp z34) (fun z32 z33 z34 z35 z36 z37 z38 z39 z40 z41 z42 z43 z44 z45 z46 z47 z48 z49 z50 z51 z52 z53 z54 z55 z56 z57 h => ?_) ?_ (muUp_n hn)
    · obtain ⟨i0, ⟨⟨j1, j2, j3, j4⟩, m1, m2, m3, m4, m5, m6, m7, m8, m9⟩, q1, q2, q3, q4⟩ := h
      have q1 : z53 = x4_lineCount := q1
      have q2 : z54 = x4_lines := q2
      have q3 : z55 = x4_change := q3
      have q4 : Kn _ z56 z57 := q4
      unfold fX0_bestOf_s18
      refine Sf.ite (fun hc => Sf.inr ⟨q1, q2, q3, q4⟩) (fun hc => ?_)
      rw [q1, q2, q3]
      have p0 : 0 ≤ z34 + 1 := by
        have a := Int32.lt_iff_toInt_lt.mp (Int32.not_le.mp hc)
        have b := Int32.toInt_le ((1 : Int32) <<< (x4_workCount &&& 31))
        have mv : Int32.maxValue.toInt = 2147483647 := by decide
        rw [mv] at b
        have z0 : (0 : Int32).toInt = 0 := by decide
        have z1 : (1 : Int32).toInt = 1 := by decide
        have c := Int32.le_iff_toInt_le.mp i0
        refine Int32.le_iff_toInt_le.mpr ?_
        rw [i32_add (by omega) (by omega)]
        omega
      refine Sf.ite (fun hb => ?_) (fun hb => ?_)
      · refine Sf.bind (Sf.and (sX0_totalOf hn j1 j2 j3 h_x2_steps h_x2_nodes h_x2_stepCount h_x2_open h_x2_openCount j4 m1 m2 m3 m4 m5 m6 m7 m8 m9 h_x4_lineCount h_x4_goodsCount h_x4_workCount h_x4_years h_x4_lines h_x4_goods h_x4_works h_x4_change h_x4_coin) (totalOfC (x0_gained := x0_gained) (x1_left := x1_left) (x1_earned := x1_earned) (x1_turnCost := x1_turnCost) (x1_turnWayless := x1_turnWayless) hn j1 j2 j3 h_x2_steps h_x2_nodes h_x2_stepCount h_x2_open h_x2_openCount j4 m1 m2 m3 m4 m5 m6 m7 m8 m9 h_x4_lineCount h_x4_goodsCount h_x4_workCount h_x4_years h_x4_lines h_x4_goods h_x4_works h_x4_change h_x4_coin hf q4)) ?_
        rintro ⟨v83, ⟨g85, g86, g87, g88, g89, g90, g91, g92⟩, ⟨g94, g95, g96, g97, g98, g99, g100, g101, g102, g103⟩, ⟨g105, g106, g107, g108, g109⟩⟩ ⟨⟨b1, b2, b3, b4, b5, b6, b7, b8, b9, b10, b11, b12, b13, b14, b15, b16⟩, e55, r1, r2, r3, r4⟩
        try dsimp only [u8, u10, u5]
        refine Sf.ite (fun hle => ?_) (fun hle => ?_)
        · exact Sf.inl ⟨p0, ⟨⟨b1, b2, b3, b4⟩, b5, b6, b7, b8, b9, b10, b11, b12, b13⟩, r1, r2, r3, r4⟩ (muUp_lt hc)
        · exact Sf.inl ⟨p0, ⟨⟨b1, b2, b3, b4⟩, b5, b6, b7, b8, b9, b10, b11, b12, b13⟩, r1, r2, r3, r4⟩ (muUp_lt hc)
      · exact Sf.inl ⟨p0, ⟨⟨j1, j2, j3, j4⟩, m1, m2, m3, m4, m5, m6, m7, m8, m9⟩, rfl, rfl, rfl, q4⟩ (muUp_lt hc)
    · exact ⟨(show (0 : Int32) ≤ 1 by decide), ⟨⟨b1, b2, b3, b4⟩, b5, b6, b7, b8, b9, b10, b11, b12, b13⟩, rfl, rfl, rfl, q4⟩
  · rintro ⟨w29, w30, w31, w32, w33, w34, w35, w36, w37, w38, w39, w40, w41, w42, w43, w44, w45, w46, w47, w48, w49, w50, w51, w52⟩ h
    exact Sf.ok h
theorem alwaysK {n : Nat} {x0_gained : Nat → Int32} {x1_left : (Nat → Int32)} {x1_earned : (Nat → Int32)} {x1_turnCost : Int32} {x1_turnWayless : Int32} {x2_edgeA : (Nat → Int32)} {x2_edgeB : (Nat → Int32)} {x2_edgeCost : (Nat → Int32)} {x2_edgeLine : (Nat → Int32)} {x2_change : (Nat → Int32)} {x2_away : (Nat → Int32)} {x2_steps : (Nat → Int32)} {x2_nodes : (Nat → Int32)} {x2_stepCount : Int32} {x2_open : (Nat → Int32)} {x2_openCount : Int32} {x2_seen : Int64} {x2_edgeCount : Int32} {x2_aim : Int32} {x3_lineCount : Int32} {x3_goodsCount : Int32} {x3_workCount : Int32} {x3_years : Int32} {x3_lines : (Nat → Int32)} {x3_goods : (Nat → Int32)} {x3_works : (Nat → Int32)} {x3_change : (Nat → Int32)} {x3_coin : (Nat → Int32)} {x3_knownFree : (Nat → Int32)} {x3_isKnown : Int32} {x4_lineCount : Int32} {x4_goodsCount : Int32} {x4_workCount : Int32} {x4_years : Int32} {x4_lines : (Nat → Int32)} {x4_goods : (Nat → Int32)} {x4_works : (Nat → Int32)} {x4_change : (Nat → Int32)} {x4_coin : (Nat → Int32)} {x4_knownFree : (Nat → Int32)} {x4_isKnown : Int32} {p2 : Int32} (hn : 1000000000000 ≤ n) (h_x2_edgeA : (AI 0 35 x2_edgeA)) (h_x2_edgeB : (AI 0 35 x2_edgeB)) (h_x2_edgeLine : (AI 0 19 x2_edgeLine)) (h_x2_steps : (AI 0 22 x2_steps)) (h_x2_nodes : (AI 0 35 x2_nodes)) (h_x2_stepCount : (0 ≤ x2_stepCount ∧ x2_stepCount ≤ 36)) (h_x2_open : (AI 0 35 x2_open)) (h_x2_openCount : (0 ≤ x2_openCount ∧ x2_openCount ≤ 36)) (h_x2_edgeCount : (0 ≤ x2_edgeCount ∧ x2_edgeCount ≤ 60)) (h_x3_lineCount : (0 ≤ x3_lineCount ∧ x3_lineCount ≤ 20)) (h_x3_goodsCount : (0 ≤ x3_goodsCount ∧ x3_goodsCount ≤ 8)) (h_x3_workCount : (0 ≤ x3_workCount ∧ x3_workCount ≤ 7)) (h_x3_years : (1 ≤ x3_years ∧ x3_years ≤ 30)) (h_x3_lines : (LnOk x3_lines)) (h_x3_goods : (GdOk x3_goods)) (h_x3_works : (WkOk x3_works)) (h_x3_change : (AI 0 99 x3_change)) (h_x3_coin : (AI 0 9 x3_coin)) (h_x4_lineCount : (0 ≤ x4_lineCount ∧ x4_lineCount ≤ 20)) (h_x4_goodsCount : (0 ≤ x4_goodsCount ∧ x4_goodsCount ≤ 8)) (h_x4_workCount : (0 ≤ x4_workCount ∧ x4_workCount ≤ 7)) (h_x4_years : (1 ≤ x4_years ∧ x4_years ≤ 30)) (h_x4_lines : (LnOk x4_lines)) (h_x4_goods : (GdOk x4_goods)) (h_x4_works : (WkOk x4_works)) (h_x4_change : (AI 0 99 x4_change)) (h_x4_coin : (AI 0 9 x4_coin)) (hf : ∀ k, k < x4_workCount.toNatClampNeg → Wf1 (ro 5 x4_works) x4_lineCount k) (hk : Kn (FrS x4_lineCount (ro 7 x4_lines) x4_change x4_coin (ro 3 x4_goods) x4_goodsCount (ro 5 x4_works) x4_workCount) x4_knownFree x4_isKnown) : Sf (fX0_alwaysCostsMore n x0_gained (x1_left, x1_earned, x1_turnCost, x1_turnWayless) (x2_edgeA, x2_edgeB, x2_edgeCost, x2_edgeLine, x2_change, x2_away, x2_steps, x2_nodes, x2_stepCount, x2_open, x2_openCount, x2_seen, x2_edgeCount, x2_aim) (x3_lineCount, x3_goodsCount, x3_workCount, x3_years, x3_lines, x3_goods, x3_works, x3_change, x3_coin, x3_knownFree, x3_isKnown) (x4_lineCount, x4_goodsCount, x4_workCount, x4_years, x4_lines, x4_goods, x4_works, x4_change, x4_coin, x4_knownFree, x4_isKnown) p2) (fun r => FwQ (FrS x4_lineCount (ro 7 x4_lines) x4_change x4_coin (ro 3 x4_goods) x4_goodsCount (ro 5 x4_works) x4_workCount) x4_lineCount x4_lines x4_change r.2.2.2) := by
  unfold fX0_alwaysCostsMore
  dsimp only [u4, u14, u11]
  refine Sf.bind (doneS hn h_x4_works h_x4_workCount) (fun v1 h1 => ?_)
  refine Sf.someb (fun t3 _ => ?_)
  refine Sf.bindS (P := fun r => FwQ (FrS x4_lineCount (ro 7 x4_lines) x4_change x4_coin (ro 3 x4_goods) x4_goodsCount (ro 5 x4_works) x4_workCount) x4_lineCount x4_lines x4_change r.2.2.2.2.2.2.2.2.2.2.2.2.2.2.2.2.2.2) (P' := fun r => FwQ (FrS x4_lineCount (ro 7 x4_lines) x4_change x4_coin (ro 3 x4_goods) x4_goodsCount (ro 5 x4_works) x4_workCount) x4_lineCount x4_lines x4_change r.2.2.2.2.2.2.2.2.2.2.2.2.2.2.2.2.2.2) ?_ ?_ ?_
  · refine Sf.loop24 (fun z5 z6 z7 z8 z9 z10 z11 z12 z13 z14 z15 z16 z17 z18 z19 z20 z21 z22 z23 z24 z25 z26 z27 z28 => 0 ≤ z5 ∧ StB z6 z7 z9 z12 z14 z15 z16 z17 z18 z19 z20 z21 z22 ∧ FwQ (FrS x4_lineCount (ro 7 x4_lines) x4_change x4_coin (ro 3 x4_goods) x4_goodsCount (ro 5 x4_works) x4_workCount) x4_lineCount x4_lines x4_change (z24, z25, z26, z27, z28)) (fun z5 z6 z7 z8 z9 z10 z11 z12 z13 z14 z15 z16 z17 z18 z19 z20 z21 z22 z23 z24 z25 z26 z27 z28 => muUp z5) (fun z5 z6 z7 z8 z9 z10 z11 z12 z13 z14 z15 z16 z17 z18 z19 z20 z21 z22 z23 z24 z25 z26 z27 z28 h => ?_) ?_ (muUp_n hn)
    · obtain ⟨i0, ⟨⟨j1, j2, j3, j4⟩, m1, m2, m3, m4, m5, m6, m7, m8, m9⟩, q1, q2, q3, q4⟩ := h
      have q1 : z24 = x4_lineCount := q1
      have q2 : z25 = x4_lines := q2
      have q3 : z26 = x4_change := q3
      have q4 : Kn _ z27 z28 := q4
      unfold fX0_alwaysCostsMore_s12
      refine Sf.ite (fun hc => Sf.inr ⟨q1, q2, q3, q4⟩) (fun hc => ?_)
      rw [q1, q2, q3]
      have p0 : 0 ≤ z5 + 1 := by
        have a := Int32.lt_iff_toInt_lt.mp (Int32.not_le.mp hc)
        have b := Int32.toInt_le ((1 : Int32) <<< (x4_workCount &&& 31))
        have mv : Int32.maxValue.toInt = 2147483647 := by decide
        rw [mv] at b
        have z0 : (0 : Int32).toInt = 0 := by decide
        have z1 : (1 : Int32).toInt = 1 := by decide
        have c := Int32.le_iff_toInt_le.mp i0
        refine Int32.le_iff_toInt_le.mpr ?_
        rw [i32_add (by omega) (by omega)]
        omega
      refine Sf.ite (fun hb => ?_) (fun hb => ?_)
      · refine Sf.bind (Sf.and (sX0_totalOf hn j1 j2 j3 h_x2_steps h_x2_nodes h_x2_stepCount h_x2_open h_x2_openCount j4 m1 m2 m3 m4 m5 m6 m7 m8 m9 h_x4_lineCount h_x4_goodsCount h_x4_workCount h_x4_years h_x4_lines h_x4_goods h_x4_works h_x4_change h_x4_coin) (totalOfC (x0_gained := x0_gained) (x1_left := x1_left) (x1_earned := x1_earned) (x1_turnCost := x1_turnCost) (x1_turnWayless := x1_turnWayless) hn j1 j2 j3 h_x2_steps h_x2_nodes h_x2_stepCount h_x2_open h_x2_openCount j4 m1 m2 m3 m4 m5 m6 m7 m8 m9 h_x4_lineCount h_x4_goodsCount h_x4_workCount h_x4_years h_x4_lines h_x4_goods h_x4_works h_x4_change h_x4_coin hf q4)) ?_
        rintro ⟨v76, ⟨g78, g79, g80, g81, g82, g83, g84, g85⟩, ⟨g87, g88, g89, g90, g91, g92, g93, g94, g95, g96⟩, ⟨g98, g99, g100, g101, g102⟩⟩ ⟨⟨b1, b2, b3, b4, b5, b6, b7, b8, b9, b10, b11, b12, b13, b14, b15, b16⟩, e55, r1, r2, r3, r4⟩
        have r1 : g98 = x4_lineCount := r1
        have r2 : g99 = x4_lines := r2
        have r3 : g100 = x4_change := r3
        have r4 : Kn _ g101 g102 := r4
        try dsimp only [u8, u10, u5]
        rw [r1, r2, r3]
        refine Sf.bind (Sf.and (sX0_totalOf hn b1 b2 b3 h_x2_steps h_x2_nodes h_x2_stepCount h_x2_open h_x2_openCount b4 b5 b6 b7 b8 b9 b10 b11 b12 b13 h_x4_lineCount h_x4_goodsCount h_x4_workCount h_x4_years h_x4_lines h_x4_goods h_x4_works h_x4_change h_x4_coin) (totalOfC (x0_gained := x0_gained) (x1_left := x1_left) (x1_earned := x1_earned) (x1_turnCost := x1_turnCost) (x1_turnWayless := x1_turnWayless) hn b1 b2 b3 h_x2_steps h_x2_nodes h_x2_stepCount h_x2_open h_x2_openCount b4 b5 b6 b7 b8 b9 b10 b11 b12 b13 h_x4_lineCount h_x4_goodsCount h_x4_workCount h_x4_years h_x4_lines h_x4_goods h_x4_works h_x4_change h_x4_coin hf r4)) ?_
        rintro ⟨v104, ⟨g106, g107, g108, g109, g110, g111, g112, g113⟩, ⟨g115, g116, g117, g118, g119, g120, g121, g122, g123, g124⟩, ⟨g126, g127, g128, g129, g130⟩⟩ ⟨⟨c1, c2, c3, c4, c5, c6, c7, c8, c9, c10, c11, c12, c13, c14, c15, c16⟩, e56, s1, s2, s3, s4⟩
        try dsimp only [u8, u10, u5]
        refine Sf.ite (fun hle => ?_) (fun hle => ?_)
        · exact Sf.inl ⟨p0, ⟨⟨c1, c2, c3, c4⟩, c5, c6, c7, c8, c9, c10, c11, c12, c13⟩, s1, s2, s3, s4⟩ (muUp_lt hc)
        · exact Sf.inr ⟨s1, s2, s3, s4⟩
      · exact Sf.inl ⟨p0, ⟨⟨j1, j2, j3, j4⟩, m1, m2, m3, m4, m5, m6, m7, m8, m9⟩, rfl, rfl, rfl, q4⟩ (muUp_lt hc)
    · exact ⟨(show (0 : Int32) ≤ 0 by decide), ⟨⟨h_x2_edgeA, h_x2_edgeB, h_x2_edgeLine, h_x2_edgeCount⟩, h_x3_lineCount, h_x3_goodsCount, h_x3_workCount, h_x3_years, h_x3_lines, h_x3_goods, h_x3_works, h_x3_change, h_x3_coin⟩, rfl, rfl, rfl, hk⟩
  · rintro ⟨w30, w31, w32, w33, w34, w35, w36, w37, w38, w39, w40, w41, w42, w43, w44, w45, w46, w47, w48, w49, w50, w51, w52⟩ h
    exact Sf.ok h
  · rintro ⟨w30, w31, w32, w33, w34, w35, w36, w37, w38, w39, w40, w41, w42, w43, w44, w45, w46, w47, w48, w49, w50, w51, w52⟩ h
    exact Sf.ok h
theorem neverOfK {n : Nat} {x0_gained : Nat → Int32} {x1_left : (Nat → Int32)} {x1_earned : (Nat → Int32)} {x1_turnCost : Int32} {x1_turnWayless : Int32} {x2_edgeA : (Nat → Int32)} {x2_edgeB : (Nat → Int32)} {x2_edgeCost : (Nat → Int32)} {x2_edgeLine : (Nat → Int32)} {x2_change : (Nat → Int32)} {x2_away : (Nat → Int32)} {x2_steps : (Nat → Int32)} {x2_nodes : (Nat → Int32)} {x2_stepCount : Int32} {x2_open : (Nat → Int32)} {x2_openCount : Int32} {x2_seen : Int64} {x2_edgeCount : Int32} {x2_aim : Int32} {x3_lineCount : Int32} {x3_goodsCount : Int32} {x3_workCount : Int32} {x3_years : Int32} {x3_lines : (Nat → Int32)} {x3_goods : (Nat → Int32)} {x3_works : (Nat → Int32)} {x3_change : (Nat → Int32)} {x3_coin : (Nat → Int32)} {x3_knownFree : (Nat → Int32)} {x3_isKnown : Int32} {x4_lineCount : Int32} {x4_goodsCount : Int32} {x4_workCount : Int32} {x4_years : Int32} {x4_lines : (Nat → Int32)} {x4_goods : (Nat → Int32)} {x4_works : (Nat → Int32)} {x4_change : (Nat → Int32)} {x4_coin : (Nat → Int32)} {x4_knownFree : (Nat → Int32)} {x4_isKnown : Int32} (hn : 1000000000000 ≤ n) (h_x2_edgeA : (AI 0 35 x2_edgeA)) (h_x2_edgeB : (AI 0 35 x2_edgeB)) (h_x2_edgeLine : (AI 0 19 x2_edgeLine)) (h_x2_steps : (AI 0 22 x2_steps)) (h_x2_nodes : (AI 0 35 x2_nodes)) (h_x2_stepCount : (0 ≤ x2_stepCount ∧ x2_stepCount ≤ 36)) (h_x2_open : (AI 0 35 x2_open)) (h_x2_openCount : (0 ≤ x2_openCount ∧ x2_openCount ≤ 36)) (h_x2_edgeCount : (0 ≤ x2_edgeCount ∧ x2_edgeCount ≤ 60)) (h_x3_lineCount : (0 ≤ x3_lineCount ∧ x3_lineCount ≤ 20)) (h_x3_goodsCount : (0 ≤ x3_goodsCount ∧ x3_goodsCount ≤ 8)) (h_x3_workCount : (0 ≤ x3_workCount ∧ x3_workCount ≤ 7)) (h_x3_years : (1 ≤ x3_years ∧ x3_years ≤ 30)) (h_x3_lines : (LnOk x3_lines)) (h_x3_goods : (GdOk x3_goods)) (h_x3_works : (WkOk x3_works)) (h_x3_change : (AI 0 99 x3_change)) (h_x3_coin : (AI 0 9 x3_coin)) (h_x4_lineCount : (0 ≤ x4_lineCount ∧ x4_lineCount ≤ 20)) (h_x4_goodsCount : (0 ≤ x4_goodsCount ∧ x4_goodsCount ≤ 8)) (h_x4_workCount : (0 ≤ x4_workCount ∧ x4_workCount ≤ 7)) (h_x4_years : (1 ≤ x4_years ∧ x4_years ≤ 30)) (h_x4_lines : (LnOk x4_lines)) (h_x4_goods : (GdOk x4_goods)) (h_x4_works : (WkOk x4_works)) (h_x4_change : (AI 0 99 x4_change)) (h_x4_coin : (AI 0 9 x4_coin)) (hf : ∀ k, k < x4_workCount.toNatClampNeg → Wf1 (ro 5 x4_works) x4_lineCount k) (hk : Kn (FrS x4_lineCount (ro 7 x4_lines) x4_change x4_coin (ro 3 x4_goods) x4_goodsCount (ro 5 x4_works) x4_workCount) x4_knownFree x4_isKnown) : Sf (fX0_neverOf n x0_gained (x1_left, x1_earned, x1_turnCost, x1_turnWayless) (x2_edgeA, x2_edgeB, x2_edgeCost, x2_edgeLine, x2_change, x2_away, x2_steps, x2_nodes, x2_stepCount, x2_open, x2_openCount, x2_seen, x2_edgeCount, x2_aim) (x3_lineCount, x3_goodsCount, x3_workCount, x3_years, x3_lines, x3_goods, x3_works, x3_change, x3_coin, x3_knownFree, x3_isKnown) (x4_lineCount, x4_goodsCount, x4_workCount, x4_years, x4_lines, x4_goods, x4_works, x4_change, x4_coin, x4_knownFree, x4_isKnown)) (fun r => FwQ (FrS x4_lineCount (ro 7 x4_lines) x4_change x4_coin (ro 3 x4_goods) x4_goodsCount (ro 5 x4_works) x4_workCount) x4_lineCount x4_lines x4_change r.2.2.2) := by
  unfold fX0_neverOf
  dsimp only [u4, u14, u11]
  refine Sf.bind (P := fun r => FwQ (FrS x4_lineCount (ro 7 x4_lines) x4_change x4_coin (ro 3 x4_goods) x4_goodsCount (ro 5 x4_works) x4_workCount) x4_lineCount x4_lines x4_change r.2.2.2.2.2.2.2.2.2.2.2.2.2.2.2.2.2.2.2) ?_ ?_
  · refine Sf.loop25 (fun z2 z3 z4 z5 z6 z7 z8 z9 z10 z11 z12 z13 z14 z15 z16 z17 z18 z19 z20 z21 z22 z23 z24 z25 z26 => (0 ≤ z3 ∧ z3 ≤ x4_workCount) ∧ StB z4 z5 z7 z10 z12 z13 z14 z15 z16 z17 z18 z19 z20 ∧ FwQ (FrS x4_lineCount (ro 7 x4_lines) x4_change x4_coin (ro 3 x4_goods) x4_goodsCount (ro 5 x4_works) x4_workCount) x4_lineCount x4_lines x4_change (z22, z23, z24, z25, z26)) (fun z2 z3 z4 z5 z6 z7 z8 z9 z10 z11 z12 z13 z14 z15 z16 z17 z18 z19 z20 z21 z22 z23 z24 z25 z26 => muUp z3) (fun z2 z3 z4 z5 z6 z7 z8 z9 z10 z11 z12 z13 z14 z15 z16 z17 z18 z19 z20 z21 z22 z23 z24 z25 z26 h => ?_) ?_ (muUp_n hn)
    · obtain ⟨i0, ⟨⟨j1, j2, j3, j4⟩, m1, m2, m3, m4, m5, m6, m7, m8, m9⟩, q1, q2, q3, q4⟩ := h
      have q1 : z22 = x4_lineCount := q1
      have q2 : z23 = x4_lines := q2
      have q3 : z24 = x4_change := q3
      have q4 : Kn _ z25 z26 := q4
      unfold fX0_neverOf_s4
      refine Sf.ite (fun hc => Sf.inr ⟨q1, q2, q3, q4⟩) (fun hc => ?_)
      rw [q1, q2, q3]
      obtain ⟨p0, p1, p3⟩ := up1 i0.1 (Int32.le_trans h_x4_workCount.2 (by decide)) hc
      have hz1 : z3 + 1 ≤ x4_workCount := by clear q4 hk hf; grind
      have hz6 : 0 ≤ z3 ∧ z3 ≤ 6 := ⟨i0.1, by clear q4 hk hf; grind⟩
      refine Sf.bind (isDoneS h_x4_works hz6) (fun v52 e52 => ?_)
      refine Sf.ite (fun hv => ?_) (fun hv => ?_)
      · refine Sf.bind (Sf.and (sX0_alwaysCostsMore hn j1 j2 j3 h_x2_steps h_x2_nodes h_x2_stepCount h_x2_open h_x2_openCount j4 m1 m2 m3 m4 m5 m6 m7 m8 m9 h_x4_lineCount h_x4_goodsCount h_x4_workCount h_x4_years h_x4_lines h_x4_goods h_x4_works h_x4_change h_x4_coin) (alwaysK (x0_gained := x0_gained) (x1_left := x1_left) (x1_earned := x1_earned) (x1_turnCost := x1_turnCost) (x1_turnWayless := x1_turnWayless) hn j1 j2 j3 h_x2_steps h_x2_nodes h_x2_stepCount h_x2_open h_x2_openCount j4 m1 m2 m3 m4 m5 m6 m7 m8 m9 h_x4_lineCount h_x4_goodsCount h_x4_workCount h_x4_years h_x4_lines h_x4_goods h_x4_works h_x4_change h_x4_coin hf q4)) ?_
        rintro ⟨v54, ⟨g56, g57, g58, g59, g60, g61, g62, g63⟩, ⟨g65, g66, g67, g68, g69, g70, g71, g72, g73, g74⟩, ⟨g76, g77, g78, g79, g80⟩⟩ ⟨⟨b1, b2, b3, b4, b5, b6, b7, b8, b9, b10, b11, b12, b13, b14, b15, b16⟩, r1, r2, r3, r4⟩
        try dsimp only [u8, u10, u5]
        refine Sf.ite (fun hle => ?_) (fun hle => ?_)
        · exact Sf.inl ⟨⟨p0, hz1⟩, ⟨⟨b1, b2, b3, b4⟩, b5, b6, b7, b8, b9, b10, b11, b12, b13⟩, r1, r2, r3, r4⟩ (muUp_lt hc)
        · refine Sf.someb (fun t82 _ => ?_)
          exact Sf.inl ⟨⟨p0, hz1⟩, ⟨⟨b1, b2, b3, b4⟩, b5, b6, b7, b8, b9, b10, b11, b12, b13⟩, r1, r2, r3, r4⟩ (muUp_lt hc)
      · exact Sf.inl ⟨⟨p0, hz1⟩, ⟨⟨j1, j2, j3, j4⟩, m1, m2, m3, m4, m5, m6, m7, m8, m9⟩, rfl, rfl, rfl, q4⟩ (muUp_lt hc)
    · exact ⟨⟨(show (0 : Int32) ≤ 0 by decide), h_x4_workCount.1⟩, ⟨⟨h_x2_edgeA, h_x2_edgeB, h_x2_edgeLine, h_x2_edgeCount⟩, h_x3_lineCount, h_x3_goodsCount, h_x3_workCount, h_x3_years, h_x3_lines, h_x3_goods, h_x3_works, h_x3_change, h_x3_coin⟩, rfl, rfl, rfl, hk⟩
  · rintro ⟨w29, w30, w31, w32, w33, w34, w35, w36, w37, w38, w39, w40, w41, w42, w43, w44, w45, w46, w47, w48, w49, w50, w51, w52⟩ h
    exact Sf.ok h

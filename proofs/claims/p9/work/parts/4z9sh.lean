/-! worth and first: the class's and the reference's are one function of the land -/
noncomputable def WoA (A : Ab) (coins : Nat → Int32) (good : Nat → Nat → Int32) (G : Int32) (work : Nat → Nat → Int32) (yr : Int32) (k : Nat) : Int32 := yr * (FrA A coins good G - FrA (doA work k A) coins good G) - work k 3
theorem WoA_congr {A B : Ab} {coins coins' : Nat → Int32} {good good' : Nat → Nat → Int32} {G : Int32} {work work' : Nat → Nat → Int32} {yr : Int32} {k : Nat} (h : AbEq A B) (h0 : 0 ≤ A.1 ∧ A.1 ≤ 20) (hco : ∀ w, w < 3 → coins w = coins' w) (hg : ∀ g, g < G.toNatClampNeg → ∀ c, c < 3 → good g c = good' g c) (hw : ∀ c, c < 5 → work k c = work' k c) (hf : Wf1 work A.1 k) : WoA A coins good G work yr k = WoA B coins' good' G work' yr k := by
  unfold WoA
  rw [FrA_congr h hco hg, FrA_congr (doA_congr h (fun c hc => hw c (by omega)) hf h0) hco hg, hw 3 (by decide)]
theorem worthInC {n : Nat} {x0_gained : Nat → Int32} {x1_left : (Nat → Int32)} {x1_earned : (Nat → Int32)} {x1_turnCost : Int32} {x1_turnWayless : Int32} {x2_edgeA : (Nat → Int32)} {x2_edgeB : (Nat → Int32)} {x2_edgeCost : (Nat → Int32)} {x2_edgeLine : (Nat → Int32)} {x2_change : (Nat → Int32)} {x2_away : (Nat → Int32)} {x2_steps : (Nat → Int32)} {x2_nodes : (Nat → Int32)} {x2_stepCount : Int32} {x2_open : (Nat → Int32)} {x2_openCount : Int32} {x2_seen : Int64} {x2_edgeCount : Int32} {x2_aim : Int32} {x3_lineCount : Int32} {x3_goodsCount : Int32} {x3_workCount : Int32} {x3_years : Int32} {x3_lines : (Nat → Int32)} {x3_goods : (Nat → Int32)} {x3_works : (Nat → Int32)} {x3_change : (Nat → Int32)} {x3_coin : (Nat → Int32)} {x3_knownFree : (Nat → Int32)} {x3_isKnown : Int32} {x4_lineCount : Int32} {x4_goodsCount : Int32} {x4_workCount : Int32} {x4_years : Int32} {x4_lines : (Nat → Int32)} {x4_goods : (Nat → Int32)} {x4_works : (Nat → Int32)} {x4_change : (Nat → Int32)} {x4_coin : (Nat → Int32)} {x4_knownFree : (Nat → Int32)} {x4_isKnown : Int32} {p2 p3 : Int32} (hn : 1000000000000 ≤ n) (h_x2_edgeA : (AI 0 35 x2_edgeA)) (h_x2_edgeB : (AI 0 35 x2_edgeB)) (h_x2_edgeLine : (AI 0 19 x2_edgeLine)) (h_x2_steps : (AI 0 22 x2_steps)) (h_x2_nodes : (AI 0 35 x2_nodes)) (h_x2_stepCount : (0 ≤ x2_stepCount ∧ x2_stepCount ≤ 36)) (h_x2_open : (AI 0 35 x2_open)) (h_x2_openCount : (0 ≤ x2_openCount ∧ x2_openCount ≤ 36)) (h_x2_edgeCount : (0 ≤ x2_edgeCount ∧ x2_edgeCount ≤ 60)) (h_x3_lineCount : (0 ≤ x3_lineCount ∧ x3_lineCount ≤ 20)) (h_x3_goodsCount : (0 ≤ x3_goodsCount ∧ x3_goodsCount ≤ 8)) (h_x3_workCount : (0 ≤ x3_workCount ∧ x3_workCount ≤ 7)) (h_x3_years : (1 ≤ x3_years ∧ x3_years ≤ 30)) (h_x3_lines : (LnOk x3_lines)) (h_x3_goods : (GdOk x3_goods)) (h_x3_works : (WkOk x3_works)) (h_x3_change : (AI 0 99 x3_change)) (h_x3_coin : (AI 0 9 x3_coin)) (h_x4_lineCount : (0 ≤ x4_lineCount ∧ x4_lineCount ≤ 20)) (h_x4_goodsCount : (0 ≤ x4_goodsCount ∧ x4_goodsCount ≤ 8)) (h_x4_workCount : (0 ≤ x4_workCount ∧ x4_workCount ≤ 7)) (h_x4_years : (1 ≤ x4_years ∧ x4_years ≤ 30)) (h_x4_lines : (LnOk x4_lines)) (h_x4_goods : (GdOk x4_goods)) (h_x4_works : (WkOk x4_works)) (h_x4_change : (AI 0 99 x4_change)) (h_x4_coin : (AI 0 9 x4_coin)) (hf : ∀ k, k < x4_workCount.toNatClampNeg → Wf1 (ro 5 x4_works) x4_lineCount k) (hk : Kn (FrS x4_lineCount (ro 7 x4_lines) x4_change x4_coin (ro 3 x4_goods) x4_goodsCount (ro 5 x4_works) x4_workCount) x4_knownFree x4_isKnown) (hp : 0 ≤ p2 ∧ p2 < x4_workCount) (hd : ro 5 x4_works p2.toNatClampNeg 4 = 0) : Sf (fX0_worthIn n x0_gained (x1_left, x1_earned, x1_turnCost, x1_turnWayless) (x2_edgeA, x2_edgeB, x2_edgeCost, x2_edgeLine, x2_change, x2_away, x2_steps, x2_nodes, x2_stepCount, x2_open, x2_openCount, x2_seen, x2_edgeCount, x2_aim) (x3_lineCount, x3_goodsCount, x3_workCount, x3_years, x3_lines, x3_goods, x3_works, x3_change, x3_coin, x3_knownFree, x3_isKnown) (x4_lineCount, x4_goodsCount, x4_workCount, x4_years, x4_lines, x4_goods, x4_works, x4_change, x4_coin, x4_knownFree, x4_isKnown) p2 p3) (fun r => r.1 = WoA (x4_lineCount, ro 7 x4_lines, x4_change) x4_coin (ro 3 x4_goods) x4_goodsCount (ro 5 x4_works) p3 p2.toNatClampNeg ∧ FwQ (FrS x4_lineCount (ro 7 x4_lines) x4_change x4_coin (ro 3 x4_goods) x4_goodsCount (ro 5 x4_works) x4_workCount) x4_lineCount x4_lines x4_change r.2.2.2) := by
  have hp6 : 0 ≤ p2 ∧ p2 ≤ 6 := by clear hk hf hd; grind
  have hpn : p2.toNatClampNeg < x4_workCount.toNatClampNeg := by
    have a := i32_cl hp.1
    have b := i32_cl h_x4_workCount.1
    have c := Int32.lt_iff_toInt_lt.mp hp.2
    omega
  have hw7 : x4_workCount.toNatClampNeg ≤ 7 := by
    have b := i32_cl h_x4_workCount.1
    have c := (i32_b h_x4_workCount).2
    have e : (7 : Int32).toInt = 7 := by decide
    omega
  unfold fX0_worthIn
  dsimp only [u4, u14, u11]
  refine Sf.bind (Sf.and (sX0_freeWith hn h_x2_edgeA h_x2_edgeB h_x2_edgeLine h_x2_steps h_x2_nodes h_x2_stepCount h_x2_open h_x2_openCount h_x2_edgeCount h_x3_lineCount h_x3_goodsCount h_x3_workCount h_x3_years h_x3_lines h_x3_goods h_x3_works h_x3_change h_x3_coin h_x4_lineCount h_x4_goodsCount h_x4_workCount h_x4_years h_x4_lines h_x4_goods h_x4_works h_x4_change h_x4_coin) (freeWithC (x0_gained := x0_gained) (x1_left := x1_left) (x1_earned := x1_earned) (x1_turnCost := x1_turnCost) (x1_turnWayless := x1_turnWayless) hn h_x2_edgeA h_x2_edgeB h_x2_edgeLine h_x2_steps h_x2_nodes h_x2_stepCount h_x2_open h_x2_openCount h_x2_edgeCount h_x3_lineCount h_x3_goodsCount h_x3_workCount h_x3_years h_x3_lines h_x3_goods h_x3_works h_x3_change h_x3_coin h_x4_lineCount h_x4_goodsCount h_x4_workCount h_x4_years h_x4_lines h_x4_goods h_x4_works h_x4_change h_x4_coin hf hk)) ?_
  rintro ⟨v1, ⟨g3, g4, g5, g6, g7, g8, g9, g10⟩, ⟨g12, g13, g14, g15, g16, g17, g18, g19, g20, g21⟩, ⟨g23, g24, g25, g26, g27⟩⟩ ⟨⟨b1, b2, b3, b4, b5, b6, b7, b8, b9, b10, b11, b12, b13, b14, b15, b16⟩, ⟨s, hs, e1⟩, q1, q2, q3, q4⟩
  have e1 : v1 = _ := e1
  have q1 : g23 = x4_lineCount := q1
  have q2 : g24 = x4_lines := q2
  have q3 : g25 = x4_change := q3
  have q4 : Kn _ g26 g27 := q4
  try dsimp only [u8, u10, u5]
  rw [q1, q2, q3]
  refine Sf.bind (Sf.and (sX0_freeWith hn b1 b2 b3 h_x2_steps h_x2_nodes h_x2_stepCount h_x2_open h_x2_openCount b4 b5 b6 b7 b8 b9 b10 b11 b12 b13 h_x4_lineCount h_x4_goodsCount h_x4_workCount h_x4_years h_x4_lines h_x4_goods h_x4_works h_x4_change h_x4_coin) (freeWithC (x0_gained := x0_gained) (x1_left := x1_left) (x1_earned := x1_earned) (x1_turnCost := x1_turnCost) (x1_turnWayless := x1_turnWayless) hn b1 b2 b3 h_x2_steps h_x2_nodes h_x2_stepCount h_x2_open h_x2_openCount b4 b5 b6 b7 b8 b9 b10 b11 b12 b13 h_x4_lineCount h_x4_goodsCount h_x4_workCount h_x4_years h_x4_lines h_x4_goods h_x4_works h_x4_change h_x4_coin hf q4)) ?_
  rintro ⟨v29, ⟨g31, g32, g33, g34, g35, g36, g37, g38⟩, ⟨g40, g41, g42, g43, g44, g45, g46, g47, g48, g49⟩, ⟨g51, g52, g53, g54, g55⟩⟩ ⟨⟨c1, c2, c3, c4, c5, c6, c7, c8, c9, c10, c11, c12, c13, c14, c15, c16⟩, ⟨s', hs', e29⟩, r1, r2, r3, r4⟩
  have e29 : v29 = _ := e29
  try dsimp only [u8, u10, u5]
  refine Sf.bind (ofWorkV h_x4_works hp6 (by decide)) (fun v57 e57 => ?_)
  have e57 : v57 = ro 5 x4_works p2.toNatClampNeg 3 := e57
  refine Sf.ok ⟨?_, r1, r2, r3, r4⟩
  show p3 * (v1 - v29) - v57 = _
  have ep : Int32.ofNat p2.toNatClampNeg = p2 := Int32.ofNat_toNatClampNeg p2 hp.1
  have f1 : v1 = FrA (x4_lineCount, ro 7 x4_lines, x4_change) x4_coin (ro 3 x4_goods) x4_goodsCount := by
    rw [e1]
    unfold FrS
    rw [doS_none _ (fun k hk' => by rw [hs k hk', tq_zero]; rfl)]
  have f29 : v29 = FrA (doA (ro 5 x4_works) p2.toNatClampNeg (x4_lineCount, ro 7 x4_lines, x4_change)) x4_coin (ro 3 x4_goods) x4_goodsCount := by
    rw [e29]
    unfold FrS
    rw [doS_one _ hpn (fun k hk' => ?_)]
    rw [hs' k hk', ← ep, tq_shl (by omega) k (by omega), ep]
    by_cases hkp : k = p2.toNatClampNeg
    · rw [hkp, hd]
      simp
    · rw [decide_eq_false hkp]
      rfl
  rw [f1, f29, e57]
  rfl
/-- the first of the works that are worth most -/
def frW (w : Nat → Int32) (work : Nat → Nat → Int32) : Nat → Int32 × Int32
  | 0 => (-1, 0)
  | k + 1 => if work k 4 = 0 ∧ ¬ w k ≤ (frW w work k).2 then (Int32.ofNat k, w k) else frW w work k
theorem frW_pos (w : Nat → Int32) (work : Nat → Nat → Int32) : ∀ K : Nat, 0 ≤ (frW w work K).2
  | 0 => (show (0 : Int32) ≤ 0 by decide)
  | K + 1 => by
    have ih := frW_pos w work K
    show 0 ≤ (if work K 4 = 0 ∧ ¬ w K ≤ (frW w work K).2 then (Int32.ofNat K, w K) else frW w work K).2
    by_cases h : work K 4 = 0 ∧ ¬ w K ≤ (frW w work K).2
    · rw [if_pos h]
      exact Int32.le_of_lt (Int32.lt_of_le_of_lt ih (Int32.not_le.mp h.2))
    · rw [if_neg h]
      exact ih
theorem frW_congr {w w' : Nat → Int32} {work work' : Nat → Nat → Int32} : ∀ K : Nat, (∀ k, k < K → w k = w' k) → (∀ k, k < K → work k 4 = work' k 4) → frW w work K = frW w' work' K
  | 0, _, _ => rfl
  | K + 1, h, h' => by
    show (if work K 4 = 0 ∧ ¬ w K ≤ (frW w work K).2 then (Int32.ofNat K, w K) else frW w work K) = (if work' K 4 = 0 ∧ ¬ w' K ≤ (frW w' work' K).2 then (Int32.ofNat K, w' K) else frW w' work' K)
    rw [frW_congr K (fun k hk => h k (by omega)) (fun k hk => h' k (by omega)), h K (by omega), h' K (by omega)]
/-- FIRST, said of the land alone -/
noncomputable def FirA (A : Ab) (coins : Nat → Int32) (good : Nat → Nat → Int32) (G : Int32) (work : Nat → Nat → Int32) (W yr : Int32) : Int32 := (frW (WoA A coins good G work yr) work W.toNatClampNeg).1
theorem FirA_congr {A B : Ab} {coins coins' : Nat → Int32} {good good' : Nat → Nat → Int32} {G : Int32} {work work' : Nat → Nat → Int32} {W yr : Int32} (h : AbEq A B) (h0 : 0 ≤ A.1 ∧ A.1 ≤ 20) (hco : ∀ w, w < 3 → coins w = coins' w) (hg : ∀ g, g < G.toNatClampNeg → ∀ c, c < 3 → good g c = good' g c) (hw : ∀ k, k < W.toNatClampNeg → ∀ c, c < 5 → work k c = work' k c) (hf : ∀ k, k < W.toNatClampNeg → Wf1 work A.1 k) : FirA A coins good G work W yr = FirA B coins' good' G work' W yr := by
  unfold FirA
  rw [frW_congr _ (fun k hk => WoA_congr h h0 hco hg (hw k hk) (hf k hk)) (fun k hk => hw k hk 4 (by decide))]
theorem firstOfC {n : Nat} {x0_gained : Nat → Int32} {x1_left : (Nat → Int32)} {x1_earned : (Nat → Int32)} {x1_turnCost : Int32} {x1_turnWayless : Int32} {x2_edgeA : (Nat → Int32)} {x2_edgeB : (Nat → Int32)} {x2_edgeCost : (Nat → Int32)} {x2_edgeLine : (Nat → Int32)} {x2_change : (Nat → Int32)} {x2_away : (Nat → Int32)} {x2_steps : (Nat → Int32)} {x2_nodes : (Nat → Int32)} {x2_stepCount : Int32} {x2_open : (Nat → Int32)} {x2_openCount : Int32} {x2_seen : Int64} {x2_edgeCount : Int32} {x2_aim : Int32} {x3_lineCount : Int32} {x3_goodsCount : Int32} {x3_workCount : Int32} {x3_years : Int32} {x3_lines : (Nat → Int32)} {x3_goods : (Nat → Int32)} {x3_works : (Nat → Int32)} {x3_change : (Nat → Int32)} {x3_coin : (Nat → Int32)} {x3_knownFree : (Nat → Int32)} {x3_isKnown : Int32} {x4_lineCount : Int32} {x4_goodsCount : Int32} {x4_workCount : Int32} {x4_years : Int32} {x4_lines : (Nat → Int32)} {x4_goods : (Nat → Int32)} {x4_works : (Nat → Int32)} {x4_change : (Nat → Int32)} {x4_coin : (Nat → Int32)} {x4_knownFree : (Nat → Int32)} {x4_isKnown : Int32} (hn : 1000000000000 ≤ n) (h_x2_edgeA : (AI 0 35 x2_edgeA)) (h_x2_edgeB : (AI 0 35 x2_edgeB)) (h_x2_edgeLine : (AI 0 19 x2_edgeLine)) (h_x2_steps : (AI 0 22 x2_steps)) (h_x2_nodes : (AI 0 35 x2_nodes)) (h_x2_stepCount : (0 ≤ x2_stepCount ∧ x2_stepCount ≤ 36)) (h_x2_open : (AI 0 35 x2_open)) (h_x2_openCount : (0 ≤ x2_openCount ∧ x2_openCount ≤ 36)) (h_x2_edgeCount : (0 ≤ x2_edgeCount ∧ x2_edgeCount ≤ 60)) (h_x3_lineCount : (0 ≤ x3_lineCount ∧ x3_lineCount ≤ 20)) (h_x3_goodsCount : (0 ≤ x3_goodsCount ∧ x3_goodsCount ≤ 8)) (h_x3_workCount : (0 ≤ x3_workCount ∧ x3_workCount ≤ 7)) (h_x3_years : (1 ≤ x3_years ∧ x3_years ≤ 30)) (h_x3_lines : (LnOk x3_lines)) (h_x3_goods : (GdOk x3_goods)) (h_x3_works : (WkOk x3_works)) (h_x3_change : (AI 0 99 x3_change)) (h_x3_coin : (AI 0 9 x3_coin)) (h_x4_lineCount : (0 ≤ x4_lineCount ∧ x4_lineCount ≤ 20)) (h_x4_goodsCount : (0 ≤ x4_goodsCount ∧ x4_goodsCount ≤ 8)) (h_x4_workCount : (0 ≤ x4_workCount ∧ x4_workCount ≤ 7)) (h_x4_years : (1 ≤ x4_years ∧ x4_years ≤ 30)) (h_x4_lines : (LnOk x4_lines)) (h_x4_goods : (GdOk x4_goods)) (h_x4_works : (WkOk x4_works)) (h_x4_change : (AI 0 99 x4_change)) (h_x4_coin : (AI 0 9 x4_coin)) (hf : ∀ k, k < x4_workCount.toNatClampNeg → Wf1 (ro 5 x4_works) x4_lineCount k) (hk : Kn (FrS x4_lineCount (ro 7 x4_lines) x4_change x4_coin (ro 3 x4_goods) x4_goodsCount (ro 5 x4_works) x4_workCount) x4_knownFree x4_isKnown) : Sf (fX0_firstOf n x0_gained (x1_left, x1_earned, x1_turnCost, x1_turnWayless) (x2_edgeA, x2_edgeB, x2_edgeCost, x2_edgeLine, x2_change, x2_away, x2_steps, x2_nodes, x2_stepCount, x2_open, x2_openCount, x2_seen, x2_edgeCount, x2_aim) (x3_lineCount, x3_goodsCount, x3_workCount, x3_years, x3_lines, x3_goods, x3_works, x3_change, x3_coin, x3_knownFree, x3_isKnown) (x4_lineCount, x4_goodsCount, x4_workCount, x4_years, x4_lines, x4_goods, x4_works, x4_change, x4_coin, x4_knownFree, x4_isKnown)) (fun r => r.1 = FirA (x4_lineCount, ro 7 x4_lines, x4_change) x4_coin (ro 3 x4_goods) x4_goodsCount (ro 5 x4_works) x4_workCount x4_years ∧ FwQ (FrS x4_lineCount (ro 7 x4_lines) x4_change x4_coin (ro 3 x4_goods) x4_goodsCount (ro 5 x4_works) x4_workCount) x4_lineCount x4_lines x4_change r.2.2.2) := by
  unfold fX0_firstOf
  dsimp only [u4, u14, u11]
  refine Sf.bind (P := fun r => r.1 = FirA (x4_lineCount, ro 7 x4_lines, x4_change) x4_coin (ro 3 x4_goods) x4_goodsCount (ro 5 x4_works) x4_workCount x4_years ∧ FwQ (FrS x4_lineCount (ro 7 x4_lines) x4_change x4_coin (ro 3 x4_goods) x4_goodsCount (ro 5 x4_works) x4_workCount) x4_lineCount x4_lines x4_change r.2.2.2.2.2.2.2.2.2.2.2.2.2.2.2.2.2.2.2) ?_ ?_
  · refine Sf.loop26 (fun z2 z3 z4 z5 z6 z7 z8 z9 z10 z11 z12 z13 z14 z15 z16 z17 z18 z19 z20 z21 z22 z23 z24 z25 z26 z27 => (0 ≤ z4 ∧ z4 ≤ x4_workCount) ∧ (z2, z3) = frW (WoA (x4_lineCount, ro 7 x4_lines, x4_change) x4_coin (ro 3 x4_goods) x4_goodsCount (ro 5 x4_works) x4_years) (ro 5 x4_works) z4.toNatClampNeg ∧ (AI 0 35 z5 ∧ AI 0 35 z6 ∧ AI 0 19 z8 ∧ (0 ≤ z11 ∧ z11 ≤ 60)) ∧ ((0 ≤ z13 ∧ z13 ≤ 20) ∧ (0 ≤ z14 ∧ z14 ≤ 8) ∧ (0 ≤ z15 ∧ z15 ≤ 7) ∧ (1 ≤ z16 ∧ z16 ≤ 30) ∧ LnOk z17 ∧ GdOk z18 ∧ WkOk z19 ∧ AI 0 99 z20 ∧ AI 0 9 z21) ∧ FwQ (FrS x4_lineCount (ro 7 x4_lines) x4_change x4_coin (ro 3 x4_goods) x4_goodsCount (ro 5 x4_works) x4_workCount) x4_lineCount x4_lines x4_change (z23, z24, z25, z26, z27)) (fun z2 z3 z4 z5 z6 z7 z8 z9 z10 z11 z12 z13 z14 z15 z16 z17 z18 z19 z20 z21 z22 z23 z24 z25 z26 z27 => muUp z4) (fun z2 z3 z4 z5 z6 z7 z8 z9 z10 z11 z12 z13 z14 z15 z16 z17 z18 z19 z20 z21 z22 z23 z24 z25 z26 z27 h => ?_) ?_ (muUp_n hn)
    · obtain ⟨i0, i1, ⟨j1, j2, j3, j4⟩, ⟨m1, m2, m3, m4, m5, m6, m7, m8, m9⟩, q1, q2, q3, q4⟩ := h
      have q1 : z23 = x4_lineCount := q1
      have q2 : z24 = x4_lines := q2
      have q3 : z25 = x4_change := q3
      have q4 : Kn _ z26 z27 := q4
      unfold fX0_firstOf_s7
      refine Sf.ite (fun hc => ?_) (fun hc => ?_)
      · have e : z4 = x4_workCount := Int32.le_antisymm i0.2 hc
        rw [e] at i1
        refine Sf.inr ⟨?_, q1, q2, q3, q4⟩
        show z2 = _
        unfold FirA
        rw [← i1]
      obtain ⟨p0, p1, p3⟩ := up1 i0.1 (Int32.le_trans h_x4_workCount.2 (by decide)) hc
      have hz1 : z4 + 1 ≤ x4_workCount := by clear i1 q4 hk hf; grind
      have hz6 : 0 ≤ z4 ∧ z4 ≤ 6 := ⟨i0.1, by clear i1 q4 hk hf; grind⟩
      have ez : Int32.ofNat z4.toNatClampNeg = z4 := Int32.ofNat_toNatClampNeg z4 i0.1
      have nx : frW (WoA (x4_lineCount, ro 7 x4_lines, x4_change) x4_coin (ro 3 x4_goods) x4_goodsCount (ro 5 x4_works) x4_years) (ro 5 x4_works) (z4 + 1).toNatClampNeg = if ro 5 x4_works z4.toNatClampNeg 4 = 0 ∧ ¬ WoA (x4_lineCount, ro 7 x4_lines, x4_change) x4_coin (ro 3 x4_goods) x4_goodsCount (ro 5 x4_works) x4_years z4.toNatClampNeg ≤ z3 then (z4, WoA (x4_lineCount, ro 7 x4_lines, x4_change) x4_coin (ro 3 x4_goods) x4_goodsCount (ro 5 x4_works) x4_years z4.toNatClampNeg) else (z2, z3) := by
        rw [p1]
        show (if ro 5 x4_works z4.toNatClampNeg 4 = 0 ∧ ¬ WoA (x4_lineCount, ro 7 x4_lines, x4_change) x4_coin (ro 3 x4_goods) x4_goodsCount (ro 5 x4_works) x4_years z4.toNatClampNeg ≤ (frW (WoA (x4_lineCount, ro 7 x4_lines, x4_change) x4_coin (ro 3 x4_goods) x4_goodsCount (ro 5 x4_works) x4_years) (ro 5 x4_works) z4.toNatClampNeg).2 then (Int32.ofNat z4.toNatClampNeg, _) else frW (WoA (x4_lineCount, ro 7 x4_lines, x4_change) x4_coin (ro 3 x4_goods) x4_goodsCount (ro 5 x4_works) x4_years) (ro 5 x4_works) z4.toNatClampNeg) = _
        rw [← i1, ez]
      rw [q1, q2, q3]
      refine Sf.bind (isDoneS h_x4_works hz6) (fun v53 e53 => ?_)
      refine Sf.ite (fun hv => ?_) (fun hv => ?_)
      · have hd : ro 5 x4_works z4.toNatClampNeg 4 = 0 := by
          refine Classical.byContradiction fun hn' => ?_
          rw [if_neg hn'] at e53
          rw [e53] at hv
          exact absurd hv (by decide)
        refine Sf.bind (Sf.and (sX0_worthIn hn j1 j2 j3 h_x2_steps h_x2_nodes h_x2_stepCount h_x2_open h_x2_openCount j4 m1 m2 m3 m4 m5 m6 m7 m8 m9 h_x4_lineCount h_x4_goodsCount h_x4_workCount h_x4_years h_x4_lines h_x4_goods h_x4_works h_x4_change h_x4_coin hz6) (worthInC (x0_gained := x0_gained) (x1_left := x1_left) (x1_earned := x1_earned) (x1_turnCost := x1_turnCost) (x1_turnWayless := x1_turnWayless) hn j1 j2 j3 h_x2_steps h_x2_nodes h_x2_stepCount h_x2_open h_x2_openCount j4 m1 m2 m3 m4 m5 m6 m7 m8 m9 h_x4_lineCount h_x4_goodsCount h_x4_workCount h_x4_years h_x4_lines h_x4_goods h_x4_works h_x4_change h_x4_coin hf q4 ⟨i0.1, p3⟩ hd)) ?_
        rintro ⟨v55, ⟨g57, g58, g59, g60, g61, g62, g63, g64⟩, ⟨g66, g67, g68, g69, g70, g71, g72, g73, g74, g75⟩, ⟨g77, g78, g79, g80, g81⟩⟩ ⟨⟨b1, b2, b3, b4, b5, b6, b7, b8, b9, b10, b11, b12, b13, b14, b15, b16⟩, e55, r1, r2, r3, r4⟩
        have e55 : v55 = _ := e55
        rw [← e55] at nx
        try dsimp only [u8, u10, u5]
        refine Sf.ite (fun hle => ?_) (fun hle => ?_)
        · rw [if_neg (fun hh => hh.2 hle)] at nx
          exact Sf.inl ⟨⟨p0, hz1⟩, nx.symm, ⟨b1, b2, b3, b4⟩, ⟨b5, b6, b7, b8, b9, b10, b11, b12, b13⟩, r1, r2, r3, r4⟩ (muUp_lt hc)
        · rw [if_pos ⟨hd, hle⟩] at nx
          exact Sf.inl ⟨⟨p0, hz1⟩, nx.symm, ⟨b1, b2, b3, b4⟩, ⟨b5, b6, b7, b8, b9, b10, b11, b12, b13⟩, r1, r2, r3, r4⟩ (muUp_lt hc)
      · have hd : ro 5 x4_works z4.toNatClampNeg 4 ≠ 0 := by
          intro hn'
          rw [if_pos hn'] at e53
          exact hv e53
        rw [if_neg (fun hh => hd hh.1)] at nx
        exact Sf.inl ⟨⟨p0, hz1⟩, nx.symm, ⟨j1, j2, j3, j4⟩, ⟨m1, m2, m3, m4, m5, m6, m7, m8, m9⟩, rfl, rfl, rfl, q4⟩ (muUp_lt hc)
    · exact ⟨⟨(show (0 : Int32) ≤ 0 by decide), h_x4_workCount.1⟩, rfl, ⟨h_x2_edgeA, h_x2_edgeB, h_x2_edgeLine, h_x2_edgeCount⟩, ⟨h_x3_lineCount, h_x3_goodsCount, h_x3_workCount, h_x3_years, h_x3_lines, h_x3_goods, h_x3_works, h_x3_change, h_x3_coin⟩, rfl, rfl, rfl, hk⟩
  · rintro ⟨w29, w30, w31, w32, w33, w34, w35, w36, w37, w38, w39, w40, w41, w42, w43, w44, w45, w46, w47, w48, w49, w50, w51, w52⟩ h
    exact Sf.ok h

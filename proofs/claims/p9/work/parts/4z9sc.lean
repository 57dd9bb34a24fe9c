/-! the class's freeBy: by places, and yet the same sum -/
theorem ixg {z c : Int32} (hz : 0 ≤ z ∧ z < 8) (hc : 0 ≤ c ∧ c < 3) : (0 ≤ z * 3 + c ∧ z * 3 + c < 24) ∧ (z * 3 + c).toNatClampNeg = 3 * z.toNatClampNeg + c.toNatClampNeg := by
  obtain ⟨⟨a, b⟩, e⟩ := ix3' (p := z) (w := c) ⟨hz.1, Int32.le_trans (Int32.le_of_lt hz.2) (by decide)⟩ hc
  refine ⟨⟨a, ?_⟩, e⟩
  have p := i32_cl a
  have q := i32_cl hz.1
  have r := i32_cl hc.1
  have s := Int32.lt_iff_toInt_lt.mp hz.2
  have t := Int32.lt_iff_toInt_lt.mp hc.2
  have e8 : (8 : Int32).toInt = 8 := by decide
  have e3 : (3 : Int32).toInt = 3 := by decide
  have e24 : (24 : Int32).toInt = 24 := by decide
  refine Int32.lt_iff_toInt_lt.mpr ?_
  omega
theorem ofGoodsV {x2_lineCount : Int32} {x2_goodsCount : Int32} {x2_workCount : Int32} {x2_years : Int32} {x2_lines : (Nat → Int32)} {x2_goods : (Nat → Int32)} {x2_works : (Nat → Int32)} {x2_change : (Nat → Int32)} {x2_coin : (Nat → Int32)} {x2_knownFree : (Nat → Int32)} {x2_isKnown : Int32} {z c : Int32} (hz : 0 ≤ z ∧ z < 8) (hc : 0 ≤ c ∧ c < 3) : Sf (fX1_ofGoods (x2_lineCount, x2_goodsCount, x2_workCount, x2_years, x2_lines, x2_goods, x2_works, x2_change, x2_coin, x2_knownFree, x2_isKnown) z c) (fun r => r = x2_goods (3 * z.toNatClampNeg + c.toNatClampNeg)) := by
  unfold fX1_ofGoods
  dsimp only [u11]
  obtain ⟨hi, he⟩ := ixg hz hc
  refine Sf.rdb 24 rfl hi (fun v e => ?_)
  rw [he] at e
  exact Sf.ok e
theorem costS {n : Nat} {x1_edgeA : (Nat → Int32)} {x1_edgeB : (Nat → Int32)} {x1_edgeCost : (Nat → Int32)} {x1_edgeLine : (Nat → Int32)} {x1_change : (Nat → Int32)} {x1_away : (Nat → Int32)} {x1_steps : (Nat → Int32)} {x1_nodes : (Nat → Int32)} {x1_stepCount : Int32} {x1_open : (Nat → Int32)} {x1_openCount : Int32} {x1_seen : Int64} {x1_edgeCount : Int32} {x1_aim : Int32} {p1 : Int32} (hn : 1000000000000 ≤ n) (hp : 0 ≤ p1 ∧ p1 ≤ 11) : Sf (fX5_costFrom n (x1_edgeA, x1_edgeB, x1_edgeCost, x1_edgeLine, x1_change, x1_away, x1_steps, x1_nodes, x1_stepCount, x1_open, x1_openCount, x1_seen, x1_edgeCount, x1_aim) p1) (fun r => ∃ m, Ls 1000000 x1_away p1.toNatClampNeg m ∧ r = if 1000000 ≤ m then (-1) else m) := by
  unfold fX5_costFrom
  dsimp only [u14]
  refine Sf.bind (costL hn hp) ?_
  intro m h
  refine Sf.ite (fun hc => ?_) (fun hc => ?_)
  · exact Sf.ok ⟨m, h, by rw [if_pos hc]⟩
  · exact Sf.ok ⟨m, h, by rw [if_neg hc]⟩
/-- the goods that go to one place -/
def byP (f : Nat → Int32) (to : Nat → Nat) (P g : Nat) : Int32 := if to g = P then f g else 0
def upP (f : Nat → Int32) (to : Nat → Nat) (P g : Nat) : Int32 := if to g < P then f g else 0
theorem upP_next (f : Nat → Int32) (to : Nat → Nat) (P K : Nat) : sm (upP f to P) K + sm (byP f to P) K = sm (upP f to (P + 1)) K := by
  rw [sm_add]
  refine sm_congr K (fun g _ => ?_)
  unfold upP byP
  by_cases h1 : to g < P
  · rw [if_pos h1, if_neg (by omega), if_pos (by omega)]
    exact Int32.add_zero _
  · rw [if_neg h1]
    by_cases h2 : to g = P
    · rw [if_pos h2, if_pos (by omega)]
      exact Int32.zero_add _
    · rw [if_neg h2, if_neg (by omega)]
      exact Int32.zero_add _
theorem upP_all (f : Nat → Int32) (to : Nat → Nat) (P K : Nat) (h : ∀ g, g < K → to g < P) : sm (upP f to P) K = sm f K :=
  sm_congr K (fun g hg => by unfold upP; rw [if_pos (h g hg)])
theorem upP_none (f : Nat → Int32) (to : Nat → Nat) : ∀ K : Nat, sm (upP f to 0) K = 0
  | 0 => rfl
  | K + 1 => by
    show sm (upP f to 0) K + upP f to 0 K = 0
    rw [upP_none f to K]
    unfold upP
    rw [if_neg (Nat.not_lt_zero _)]
    rfl
/-- the two lands are alike, as FREE asks of them -/
def LaF (lc gc : Int32) (lines goods chg coin : Nat → Int32) (line good : Nat → Nat → Int32) (changes coins : Nat → Int32) : Prop :=
  (∀ l, l < lc.toNatClampNeg → ∀ c, c < 6 → line l c = lines (7 * l + c)) ∧ (∀ g, g < gc.toNatClampNeg → ∀ c, c < 3 → good g c = goods (3 * g + c)) ∧ (∀ p, p < 12 → changes p = chg p) ∧ (∀ w, w < 3 → coins w = coin w)
def AwT (Tq : Nat → Nat → Int32) (aw : Nat → Int32) (am : Int32) : Prop := ∀ p : Int32, 0 ≤ p ∧ p ≤ 11 → am = p → ∀ v, v < 36 → aw v = Tq p.toNatClampNeg v
theorem freeByT {n : Nat} {x0_left : (Nat → Int32)} {x0_earned : (Nat → Int32)} {x0_turnCost : Int32} {x0_turnWayless : Int32} {x1_edgeA : (Nat → Int32)} {x1_edgeB : (Nat → Int32)} {x1_edgeCost : (Nat → Int32)} {x1_edgeLine : (Nat → Int32)} {x1_change : (Nat → Int32)} {x1_away : (Nat → Int32)} {x1_steps : (Nat → Int32)} {x1_nodes : (Nat → Int32)} {x1_stepCount : Int32} {x1_open : (Nat → Int32)} {x1_openCount : Int32} {x1_seen : Int64} {x1_edgeCount : Int32} {x1_aim : Int32} {x2_lineCount : Int32} {x2_goodsCount : Int32} {x2_workCount : Int32} {x2_years : Int32} {x2_lines : (Nat → Int32)} {x2_goods : (Nat → Int32)} {x2_works : (Nat → Int32)} {x2_change : (Nat → Int32)} {x2_coin : (Nat → Int32)} {x2_knownFree : (Nat → Int32)} {x2_isKnown : Int32} {p2 : Int32} (hn : 1000000000000 ≤ n) (h_x1_edgeA : (AI 0 35 x1_edgeA)) (h_x1_edgeB : (AI 0 35 x1_edgeB)) (h_x1_edgeLine : (AI 0 19 x1_edgeLine)) (h_x1_steps : (AI 0 22 x1_steps)) (h_x1_nodes : (AI 0 35 x1_nodes)) (h_x1_stepCount : (0 ≤ x1_stepCount ∧ x1_stepCount ≤ 36)) (h_x1_open : (AI 0 35 x1_open)) (h_x1_openCount : (0 ≤ x1_openCount ∧ x1_openCount ≤ 36)) (h_x1_edgeCount : (0 ≤ x1_edgeCount ∧ x1_edgeCount ≤ 60)) (h_x2_lineCount : (0 ≤ x2_lineCount ∧ x2_lineCount ≤ 20)) (h_x2_goodsCount : (0 ≤ x2_goodsCount ∧ x2_goodsCount ≤ 8)) (h_x2_workCount : (0 ≤ x2_workCount ∧ x2_workCount ≤ 7)) (h_x2_years : (1 ≤ x2_years ∧ x2_years ≤ 30)) (h_x2_lines : (LnOk x2_lines)) (h_x2_goods : (GdOk x2_goods)) (h_x2_works : (WkOk x2_works)) (h_x2_change : (AI 0 99 x2_change)) (h_x2_coin : (AI 0 9 x2_coin)) {line good : Nat → Nat → Int32} {changes coins : Nat → Int32} {Tq : Nat → Nat → Int32} (ha : LaF x2_lineCount x2_goodsCount x2_lines x2_goods x2_change x2_coin line good changes coins) (hb : ∀ l, l < 20 → (tq p2 l = true ↔ (l < x2_lineCount.toNatClampNeg ∧ line l 6 = 0))) (hT : Tz (EdL x2_lineCount.toNatClampNeg line changes coins) Tq) : Sf (fX4_freeBy n (x0_left, x0_earned, x0_turnCost, x0_turnWayless) (x1_edgeA, x1_edgeB, x1_edgeCost, x1_edgeLine, x1_change, x1_away, x1_steps, x1_nodes, x1_stepCount, x1_open, x1_openCount, x1_seen, x1_edgeCount, x1_aim) (x2_lineCount, x2_goodsCount, x2_workCount, x2_years, x2_lines, x2_goods, x2_works, x2_change, x2_coin, x2_knownFree, x2_isKnown) p2) (fun r => r.1 = FreeF Tq good x2_goodsCount.toNatClampNeg) := by
  obtain ⟨ha1, ha2, ha3, ha4⟩ := ha
  unfold fX4_freeBy
  dsimp only [u4, u14, u11]
  refine Sf.bind (prepS hn h_x2_lines h_x2_coin h_x2_lineCount h_x1_edgeA h_x1_edgeB) ?_
  rintro ⟨g2, g3, g4, g5, g6, g7, g8⟩ ⟨q1, q2, q3, q4, q5, q6, q7⟩
  have q1 : g8 = (-1) := q1
  have q2 : AI 0 35 g2 := q2
  have q3 : AI 0 35 g3 := q3
  have q4 : 0 ≤ g7 ∧ g7 ≤ 60 := q4
  have q5 : ∀ e, e < g7.toNatClampNeg → 0 ≤ g4 e ∧ g4 e ≤ 999 := q5
  have q6 : ∀ k, k < 12 → g6 k = x2_change k := q6
  have q7 : EgOk x2_lines x2_coin p2 (fun l _ => l < x2_lineCount.toNatClampNeg) g2 g3 g4 g7.toNatClampNeg := q7
  have hL20 : x2_lineCount.toNatClampNeg ≤ 20 := by
    have a := i32_cl h_x2_lineCount.1
    have b := (i32_b h_x2_lineCount).2
    have e : (20 : Int32).toInt = 20 := by decide
    omega
  have hE : EdC g7.toNatClampNeg g2 g3 g4 g6 = EdL x2_lineCount.toNatClampNeg line changes coins := by
    funext u v c
    exact propext (EdC_Ed q7 hb hL20 ha1 ha4 (fun p hp => by rw [ha3 p hp, q6 p hp]) (fun l _ => by decide) u v c)
  have hC12 : C12 g6 := fun p hp => by rw [q6 p hp]; exact h_x2_change p
  try dsimp only [u7]
  have hto : ∀ g, g < x2_goodsCount.toNatClampNeg → (good g 1).toNatClampNeg < 12 ∧ (good g 0).toNatClampNeg < 12 := by
    intro g hg
    have b := fun c => h_x2_goods (3 * g + c)
    constructor
    · rw [ha2 g hg 1 (by decide)]
      refine p_of ?_
      have := b 1
      rw [show (3 * g + 1) % 3 = 1 by omega] at this
      exact this
    · rw [ha2 g hg 0 (by decide)]
      refine p_of ?_
      have := b 0
      rw [show (3 * g + 0) % 3 = 0 by omega] at this
      exact this
  have hG8 : x2_goodsCount ≤ 1000 := Int32.le_trans h_x2_goodsCount.2 (by decide)
  refine Sf.bind (P := fun r : Int32 × (Nat → Int32) × Int32 => r.1 = FreeF Tq good x2_goodsCount.toNatClampNeg) ?_ ?_
  · refine Sf.loop4 (fun (z11 z12 : Int32) (z13 : Nat → Int32) (z14 : Int32) => (0 ≤ z12 ∧ z12 ≤ 12) ∧ AwT Tq z13 z14 ∧ z11 = sm (upP (tm Tq good) (fun g => (good g 1).toNatClampNeg) z12.toNatClampNeg) x2_goodsCount.toNatClampNeg) (fun z11 z12 z13 z14 => muUp z12) (fun z11 z12 z13 z14 h => ?_) (show (0 ≤ (0 : Int32) ∧ (0 : Int32) ≤ 12) ∧ AwT Tq x1_away g8 ∧ (0 : Int32) = sm (upP (tm Tq good) (fun g => (good g 1).toNatClampNeg) (0 : Int32).toNatClampNeg) x2_goodsCount.toNatClampNeg from ⟨⟨by decide, by decide⟩, fun p hp e => ?_, (upP_none _ _ _).symm⟩) (muUp_n hn)
    · obtain ⟨⟨h0, h1⟩, h2, h3⟩ := h
      unfold fX4_freeBy_s14
      refine Sf.ite (fun hc => ?_) (fun hc => ?_)
      · refine Sf.inr (show z11 = FreeF Tq good x2_goodsCount.toNatClampNeg from ?_)
        have e : z12 = 12 := Int32.le_antisymm h1 hc
        rw [h3, e]
        exact upP_all _ _ _ _ (fun g hg => (hto g hg).1)
      · obtain ⟨u1, u2, u3⟩ := up1 h0 (B := 12) (by decide) hc
        have hz12 : 0 ≤ z12 ∧ z12 ≤ 11 := ⟨h0, by clear h3 hT hE; grind⟩
        refine Sf.bind (P := fun r : Int32 × (Nat → Int32) × Int32 => AwT Tq r.2.1 r.2.2 ∧ r.1 = z11 + sm (byP (tm Tq good) (fun g => (good g 1).toNatClampNeg) z12.toNatClampNeg) x2_goodsCount.toNatClampNeg) ?_ ?_
        · refine Sf.loop4 (fun (z20 z21 : Int32) (z22 : Nat → Int32) (z23 : Int32) => (0 ≤ z21 ∧ z21 ≤ x2_goodsCount) ∧ AwT Tq z22 z23 ∧ z20 = z11 + sm (byP (tm Tq good) (fun g => (good g 1).toNatClampNeg) z12.toNatClampNeg) z21.toNatClampNeg) (fun z20 z21 z22 z23 => muUp z21) (fun z20 z21 z22 z23 h => ?_) (show (0 ≤ (0 : Int32) ∧ (0 : Int32) ≤ x2_goodsCount) ∧ AwT Tq z13 z14 ∧ z11 = z11 + sm (byP (tm Tq good) (fun g => (good g 1).toNatClampNeg) z12.toNatClampNeg) (0 : Int32).toNatClampNeg from ⟨⟨by decide, h_x2_goodsCount.1⟩, h2, (Int32.add_zero z11).symm⟩) (muUp_n hn)
          obtain ⟨⟨i0, i1⟩, i2, i3⟩ := h
          unfold fX4_freeBy_s24
          refine Sf.ite (fun hd => ?_) (fun hd => ?_)
          · have e : z21 = x2_goodsCount := Int32.le_antisymm i1 hd
            exact Sf.inr (show AwT Tq z22 z23 ∧ z20 = z11 + sm (byP (tm Tq good) (fun g => (good g 1).toNatClampNeg) z12.toNatClampNeg) x2_goodsCount.toNatClampNeg from ⟨i2, by rw [i3, e]⟩)
          · obtain ⟨v1, v2, v3⟩ := up1 i0 hG8 hd
            have hz : 0 ≤ z21 ∧ z21 < 8 := ⟨i0, Int32.lt_of_lt_of_le v3 h_x2_goodsCount.2⟩
            have hz1 : z21 + 1 ≤ x2_goodsCount := by clear h3 i3 hT hE; grind
            have hgn : z21.toNatClampNeg < x2_goodsCount.toNatClampNeg := by
              have a := i32_cl i0
              have b := i32_cl h_x2_goodsCount.1
              have c := Int32.lt_iff_toInt_lt.mp v3
              omega
            have nx : sm (byP (tm Tq good) (fun g => (good g 1).toNatClampNeg) z12.toNatClampNeg) (z21 + 1).toNatClampNeg = sm (byP (tm Tq good) (fun g => (good g 1).toNatClampNeg) z12.toNatClampNeg) z21.toNatClampNeg + byP (tm Tq good) (fun g => (good g 1).toNatClampNeg) z12.toNatClampNeg z21.toNatClampNeg := by
              rw [v2]
              rfl
            refine Sf.bind (ofGoodsV hz (c := 1) ⟨by decide, by decide⟩) ?_
            intro v28 e28
            have e28 : v28 = good z21.toNatClampNeg 1 := by rw [e28, ha2 _ hgn 1 (by decide)]; rfl
            refine Sf.ite (fun hs => ?_) (fun hs => ?_)
            · have hto1 : (good z21.toNatClampNeg 1).toNatClampNeg = z12.toNatClampNeg := by rw [← e28, hs]
              have hTF := hT z12.toNatClampNeg (p_of hz12)
              refine Sf.bind (aimS hn q2 q3 q4 q5 hC12 hz12 (T := Tq z12.toNatClampNeg) (by rw [hE]; exact hTF) (fun e => i2 z12 hz12 e)) ?_
              rintro ⟨g30, g31⟩ ⟨r1, r2⟩
              have r1 : ∀ v, v < 36 → g30 v = Tq z12.toNatClampNeg v := r1
              have r2 : g31 = z12 := r2
              have hAw : AwT Tq g30 g31 := by
                intro p hp e v hv
                rw [r1 v hv, ← e, r2]
              try dsimp only [u2]
              refine Sf.bind (ofGoodsV hz (c := 0) ⟨by decide, by decide⟩) ?_
              intro v33 e33
              have e33 : v33 = good z21.toNatClampNeg 0 := by rw [e33, ha2 _ hgn 0 (by decide)]; rfl
              have h33 : 0 ≤ v33 ∧ v33 ≤ 11 := by
                rw [e33, ha2 _ hgn 0 (by decide)]
                have := h_x2_goods (3 * z21.toNatClampNeg + 0)
                rw [show (3 * z21.toNatClampNeg + 0) % 3 = 0 by omega] at this
                exact this
              refine Sf.bind (costS hn h33) ?_
              rintro v35 ⟨m, hm, e35⟩
              have hcst := cst_Ls hTF.1 (p_of h33) (Ls_congr (p_of h33) r1 hm)
              refine Sf.bind (ofGoodsV hz (c := 2) ⟨by decide, by decide⟩) ?_
              intro v37 e37
              have e37 : v37 = good z21.toNatClampNeg 2 := by rw [e37, ha2 _ hgn 2 (by decide)]; rfl
              have key : ∀ x : Int32, cst (Tq z12.toNatClampNeg) v33.toNatClampNeg = x → z20 + v37 * x = z11 + sm (byP (tm Tq good) (fun g => (good g 1).toNatClampNeg) z12.toNatClampNeg) (z21 + 1).toNatClampNeg := by
                intro x hx
                rw [nx, ← Int32.add_assoc, ← i3, ← hx]
                unfold byP
                rw [if_pos hto1]
                unfold tm
                rw [hto1, e37, e33]
              have hmpos : 0 ≤ m := by
                rcases hm.2.2 with e | ⟨w, hw, e⟩
                · rw [e]; decide
                · have h36 : 3 * v33.toNatClampNeg + w < 36 := by have := p_of h33; omega
                  have hx : 0 ≤ g30 (3 * v33.toNatClampNeg + w) := by rw [r1 _ h36]; exact (hTF.1 _ h36).1
                  rw [e]
                  exact hx
              refine Sf.ite (fun ht => ?_) (fun ht => ?_)
              · have hc1 : 1000000 ≤ m := by
                  refine Classical.byContradiction fun hn' => ?_
                  rw [if_neg hn'] at e35
                  rw [← e35, ht] at hmpos
                  exact absurd hmpos (by decide)
                rw [if_neg (Int32.not_lt.mpr hc1)] at hcst
                exact Sf.inl (show (0 ≤ z21 + 1 ∧ z21 + 1 ≤ x2_goodsCount) ∧ AwT Tq g30 g31 ∧ z20 + v37 * 999 = z11 + sm (byP (tm Tq good) (fun g => (good g 1).toNatClampNeg) z12.toNatClampNeg) (z21 + 1).toNatClampNeg from ⟨⟨v1, hz1⟩, hAw, key _ hcst⟩) (muUp_lt hd)
              · have hc1 : ¬ 1000000 ≤ m := by
                  intro hn'
                  rw [if_pos hn'] at e35
                  exact ht e35
                rw [if_neg hc1] at e35
                rw [if_pos (Int32.not_le.mp hc1), ← e35] at hcst
                exact Sf.inl (show (0 ≤ z21 + 1 ∧ z21 + 1 ≤ x2_goodsCount) ∧ AwT Tq g30 g31 ∧ z20 + v37 * v35 = z11 + sm (byP (tm Tq good) (fun g => (good g 1).toNatClampNeg) z12.toNatClampNeg) (z21 + 1).toNatClampNeg from ⟨⟨v1, hz1⟩, hAw, key _ hcst⟩) (muUp_lt hd)
            · have hto1 : ¬ (good z21.toNatClampNeg 1).toNatClampNeg = z12.toNatClampNeg := by
                rw [← e28]
                intro hh
                refine hs (Int32.toInt_inj.mp ?_)
                have h28 : 0 ≤ v28 := by
                  rw [e28, ha2 _ hgn 1 (by decide)]
                  exact (h_x2_goods _).1
                have a := i32_cl h28
                have b := i32_cl h0
                omega
              refine Sf.inl (show (0 ≤ z21 + 1 ∧ z21 + 1 ≤ x2_goodsCount) ∧ AwT Tq z22 z23 ∧ z20 = z11 + sm (byP (tm Tq good) (fun g => (good g 1).toNatClampNeg) z12.toNatClampNeg) (z21 + 1).toNatClampNeg from ⟨⟨v1, hz1⟩, i2, ?_⟩) (muUp_lt hd)
              rw [nx, i3]
              unfold byP
              rw [if_neg hto1, Int32.add_zero]
        · rintro ⟨w25, w26, w27⟩ ⟨k1, k2⟩
          have k2 : w25 = z11 + sm (byP (tm Tq good) (fun g => (good g 1).toNatClampNeg) z12.toNatClampNeg) x2_goodsCount.toNatClampNeg := k2
          try dsimp only [u3]
          refine Sf.inl (show (0 ≤ z12 + 1 ∧ z12 + 1 ≤ 12) ∧ AwT Tq w26 w27 ∧ w25 = sm (upP (tm Tq good) (fun g => (good g 1).toNatClampNeg) (z12 + 1).toNatClampNeg) x2_goodsCount.toNatClampNeg from ⟨⟨u1, by clear k2 h3 hT hE; grind⟩, k1, ?_⟩) (muUp_lt hc)
          rw [k2, h3, u2, upP_next]
    · rw [q1] at e
      rw [← e] at hp
      exact absurd hp.1 (by decide)
  · rintro ⟨w16, w17, w18⟩ h
    exact Sf.ok h

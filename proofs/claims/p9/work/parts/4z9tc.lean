/-! work, washed -/
theorem six {q : Int32} (h : 0 ≤ q ∧ q ≤ 5) : q = 0 ∨ q = 1 ∨ q = 2 ∨ q = 3 ∨ q = 4 ∨ q = 5 := by grind
abbrev Und (p q : Int32) : Prop := q = 0 ∨ p = q ∨ (q = 1 ∧ p = 2) ∨ (q = 4 ∧ p = 5)
abbrev UndZ (z q : Int32) : Prop := (z = 0 ∧ q = 0) ∨ ((1 ≤ z ∧ z ≤ 5) ∧ Und z q)
abbrev UndD (z2 z3 : Int32) : Prop := (z2 = -1 ∧ z3 ≤ 4) ∨ (z2 = 0 ∧ z3 ≤ 3) ∨ ((z2 = 1 ∨ z2 = 4 ∨ z2 = 3) ∧ z3 ≤ 2) ∨ ((z2 = 2 ∨ z2 = 5) ∧ z3 ≤ 0)
theorem UndZ_next {z q : Int32} (hz : 0 ≤ z ∧ z ≤ 5) (hq : 0 ≤ q ∧ q ≤ 5) (hne : ¬ z = q) : UndZ (ABV z.toNatClampNeg) q ↔ UndZ z q := by
  rcases six hz with rfl | rfl | rfl | rfl | rfl | rfl <;> rcases six hq with rfl | rfl | rfl | rfl | rfl | rfl <;> first | exact absurd rfl hne | decide
theorem isUnderC {n : Nat} {p q : Int32} (hn : 1000000000000 ≤ n) (hp : 1 ≤ p ∧ p ≤ 5) (hq : 0 ≤ q ∧ q ≤ 5) : Sf (fX6_isUnder n p q) (fun r => (r = 1 ∧ Und p q) ∨ (r = 0 ∧ ¬ Und p q)) := by
  unfold fX6_isUnder
  refine Sf.bindS (P := fun _ => Und p q) (P' := fun _ => ¬ Und p q) ?_ (fun _ h => Sf.ok (Or.inl ⟨rfl, h⟩)) (fun _ h => Sf.ok (Or.inr ⟨rfl, h⟩))
  have hz0 : UndZ p q ↔ Und p q := ⟨fun h => by
    rcases h with h | h
    · rw [h.1] at hp; exact absurd hp.1 (by decide)
    · exact h.2, fun h => Or.inr ⟨hp, h⟩⟩
  refine Sf.loop2 (fun (z2 z3 : Int32) => (UndZ z2 q ↔ Und p q) ∧ 0 ≤ z3 ∧ UndD z2 z3) (fun z2 z3 => muUp z3) (fun z2 z3 h => ?_) (show (UndZ p q ↔ Und p q) ∧ 0 ≤ (0 : Int32) ∧ UndD p 0 from ⟨hz0, by decide, ?_⟩) (muUp_n hn)
  · obtain ⟨h1, h2, h3⟩ := h
    unfold fX6_isUnder_s4
    refine Sf.ite (fun hc => ?_) (fun hc => ?_)
    · exfalso
      unfold UndD at h3
      clear h1 hz0
      grind
    refine Sf.bind sX6_within (fun v5 h5 => ?_)
    refine Sf.ite (fun hv => ?_) (fun hv => ?_)
    · refine Sf.inr (show ¬ Und p q from fun hu => ?_)
      have hno := gd0 h5 hv
      rcases h1.mpr hu with h | h
      · exact hno (by rw [h.1]; decide)
      · exact hno ⟨Int32.le_trans (by decide) h.1.1, h.1.2⟩
    have hz := gd1 h5 hv
    refine Sf.ite (fun he => ?_) (fun he => ?_)
    · refine Sf.inr (show Und p q from h1.mp ?_)
      rw [← he]
      rcases six hz with rfl | rfl | rfl | rfl | rfl | rfl <;> decide
    refine Sf.rdb 6 rfl ⟨hz.1, Int32.lt_of_le_of_lt hz.2 (by decide)⟩ (fun v7 e7 => ?_)
    refine Sf.inl (show (UndZ v7 q ↔ Und p q) ∧ 0 ≤ z3 + 1 ∧ UndD v7 (z3 + 1) from ⟨?_, by clear h1 hz0 h3; grind, ?_⟩) (muUp_lt hc)
    · rw [e7, UndZ_next hz hq he]
      exact h1
    · rw [e7]
      unfold UndD at h3 ⊢
      clear h1 hz0
      rcases six hz with rfl | rfl | rfl | rfl | rfl | rfl
      · rw [show ABV (0 : Int32).toNatClampNeg = -1 from rfl]; grind
      · rw [show ABV (1 : Int32).toNatClampNeg = 0 from rfl]; grind
      · rw [show ABV (2 : Int32).toNatClampNeg = 1 from rfl]; grind
      · rw [show ABV (3 : Int32).toNatClampNeg = 0 from rfl]; grind
      · rw [show ABV (4 : Int32).toNatClampNeg = 0 from rfl]; grind
      · rw [show ABV (5 : Int32).toNatClampNeg = 4 from rfl]; grind
  · unfold UndD
    clear hz0
    rcases six ⟨Int32.le_trans (by decide) hp.1, hp.2⟩ with rfl | rfl | rfl | rfl | rfl | rfl <;> decide
def VA (lc k a : Int32) : Prop := (k = 1 ∨ k = 2 → 0 ≤ a ∧ a < lc) ∧ (¬ (k = 1 ∨ k = 2) → 0 ≤ a ∧ a ≤ 11)
def VB (k a b : Int32) : Prop := (k = 1 ∨ k = 2 → 0 ≤ b ∧ b ≤ 2) ∧ (k = 3 → 0 ≤ b ∧ b ≤ 99) ∧ (¬ (k = 1 ∨ k = 2) ∧ ¬ k = 3 → (0 ≤ b ∧ b ≤ 11) ∧ ¬ b = a)
def V3 (lc k a b : Int32) : Prop := (1 ≤ k ∧ k ≤ 5) ∧ VA lc k a ∧ VB k a b
theorem greatA {x0_lineCount : Int32} {x0_goodsCount : Int32} {x0_workCount : Int32} {x0_years : Int32} {x0_lines : (Nat → Int32)} {x0_goods : (Nat → Int32)} {x0_works : (Nat → Int32)} {x0_change : (Nat → Int32)} {x0_coin : (Nat → Int32)} {x0_knownFree : (Nat → Int32)} {x0_isKnown : Int32} {k : Int32} : Sf (fX1_greatestA (x0_lineCount, x0_goodsCount, x0_workCount, x0_years, x0_lines, x0_goods, x0_works, x0_change, x0_coin, x0_knownFree, x0_isKnown) k) (fun r => r = if k = 1 ∨ k = 2 then x0_lineCount - 1 else 11) := by
  unfold fX1_greatestA
  dsimp only [u11]
  refine Sf.ite (fun h => Sf.ok (by rw [if_pos (Or.inl h)])) (fun h => Sf.ite (fun h2 => Sf.ok (by rw [if_pos (Or.inr h2)])) (fun h2 => Sf.ok (by rw [if_neg]; rintro (e | e); exact h e; exact h2 e)))
theorem greatB {k : Int32} : Sf (fX1_greatestB k) (fun r => r = if k = 1 ∨ k = 2 then 2 else if k = 3 then 99 else 11) := by
  unfold fX1_greatestB
  refine Sf.ite (fun h => Sf.ok (by rw [if_pos (Or.inl h)])) (fun h => Sf.ite (fun h2 => Sf.ok (by rw [if_pos (Or.inr h2)])) (fun h2 => ?_))
  rw [if_neg (show ¬ (k = 1 ∨ k = 2) by rintro (e | e); exact h e; exact h2 e)]
  exact Sf.ite (fun h3 => Sf.ok (by rw [if_pos h3])) (fun h3 => Sf.ok (by rw [if_neg h3]))
theorem gA_iff {lc k a : Int32} (hl : 0 ≤ lc ∧ lc ≤ 20) : (0 ≤ a ∧ a ≤ (if k = 1 ∨ k = 2 then lc - 1 else 11)) ↔ VA lc k a := by
  unfold VA
  by_cases h : k = 1 ∨ k = 2
  · rw [if_pos h]
    constructor
    · intro hh
      exact ⟨fun _ => ⟨hh.1, by clear h; grind⟩, fun hn => absurd h hn⟩
    · intro hh
      have := hh.1 h
      exact ⟨this.1, by clear h hh; grind⟩
  · rw [if_neg h]
    exact ⟨fun hh => ⟨fun hn => absurd hn h, fun _ => hh⟩, fun hh => hh.2 h⟩
theorem gB_iff {k a b : Int32} : ((0 ≤ b ∧ b ≤ (if k = 1 ∨ k = 2 then 2 else if k = 3 then 99 else 11)) ∧ (¬ (k = 1 ∨ k = 2) ∧ ¬ k = 3 → ¬ b = a)) ↔ VB k a b := by
  unfold VB
  by_cases h : k = 1 ∨ k = 2
  · rw [if_pos h]
    have h3 : ¬ k = 3 := by rintro rfl; rcases h with h | h <;> exact absurd h (by decide)
    exact ⟨fun hh => ⟨fun _ => hh.1, fun e => absurd e h3, fun e => absurd h e.1⟩, fun hh => ⟨hh.1 h, fun e => absurd h e.1⟩⟩
  · rw [if_neg h]
    by_cases h3 : k = 3
    · rw [if_pos h3]
      exact ⟨fun hh => ⟨fun e => absurd e h, fun _ => hh.1, fun e => absurd h3 e.2⟩, fun hh => ⟨hh.2.1 h3, fun e => absurd h3 e.2⟩⟩
    · rw [if_neg h3]
      exact ⟨fun hh => ⟨fun e => absurd e h, fun e => absurd e h3, fun e => ⟨hh.1, hh.2 e⟩⟩, fun hh => ⟨(hh.2.2 ⟨h, h3⟩).1, fun e => (hh.2.2 e).2⟩⟩
theorem allowS {n : Nat} {x0_lineCount : Int32} {x0_goodsCount : Int32} {x0_workCount : Int32} {x0_years : Int32} {x0_lines : (Nat → Int32)} {x0_goods : (Nat → Int32)} {x0_works : (Nat → Int32)} {x0_change : (Nat → Int32)} {x0_coin : (Nat → Int32)} {x0_knownFree : (Nat → Int32)} {x0_isKnown : Int32} {k a b : Int32} (hn : 1000000000000 ≤ n) (hl : 0 ≤ x0_lineCount ∧ x0_lineCount ≤ 20) : Sf (fX1_allowsWork n (x0_lineCount, x0_goodsCount, x0_workCount, x0_years, x0_lines, x0_goods, x0_works, x0_change, x0_coin, x0_knownFree, x0_isKnown) k a b) (fun r => (r = 0 ∧ ¬ V3 x0_lineCount k a b) ∨ (¬ r = 0 ∧ V3 x0_lineCount k a b)) := by
  unfold fX1_allowsWork
  dsimp only [u11]
  refine Sf.bind sX6_within (fun v1 h1 => Sf.ite (fun hz => Sf.ok (Or.inl ⟨rfl, fun V => gd0 h1 hz V.1⟩)) (fun hz => ?_))
  have hk := gd1 h1 hz
  have j : (¬ (k = 1 ∨ k = 2) ∧ ¬ k = 3 → ¬ b = a) → Sf (fX1_allowsWork_j24 k a b x0_lineCount x0_goodsCount x0_workCount x0_years x0_lines x0_goods x0_works x0_change x0_coin x0_knownFree x0_isKnown) (fun r => (r = 0 ∧ ¬ V3 x0_lineCount k a b) ∨ (¬ r = 0 ∧ V3 x0_lineCount k a b)) := by
    intro hne
    unfold fX1_allowsWork_j24
    refine Sf.bind greatA (fun v5 e5 => ?_)
    refine Sf.bind sX6_within (fun v7 h7 => Sf.ite (fun hz => Sf.ok (Or.inl ⟨rfl, fun V => gd0 h7 hz (by rw [e5]; exact (gA_iff hl).mpr V.2.1)⟩)) (fun hz => ?_))
    have c7 := gd1 h7 hz
    rw [e5] at c7
    refine Sf.bind greatB (fun v9 e9 => ?_)
    refine Sf.bind sX6_within (fun v11 h11 => Sf.ite (fun hz => Sf.ok (Or.inl ⟨rfl, fun V => gd0 h11 hz (by rw [e9]; exact (gB_iff.mpr V.2.2).1)⟩)) (fun hz => ?_))
    have c11 := gd1 h11 hz
    rw [e9] at c11
    exact Sf.ok (Or.inr ⟨by decide, hk, (gA_iff hl).mp c7, gB_iff.mp ⟨c11, hne⟩⟩)
  have u4 : Und k 4 ↔ (¬ (k = 1 ∨ k = 2) ∧ ¬ k = 3) := by
    clear j
    rcases six ⟨Int32.le_trans (by decide) hk.1, hk.2⟩ with rfl | rfl | rfl | rfl | rfl | rfl
    · exact absurd hk.1 (by decide)
    all_goals decide
  refine Sf.bind (isUnderC hn hk (by decide)) (fun v3 h3 => ?_)
  refine Sf.ite (fun hv => ?_) (fun hv => ?_)
  · refine j (fun h => ?_)
    rcases h3 with h3 | h3
    · rw [h3.1] at hv; exact absurd hv (by decide)
    · exact absurd (u4.mpr h) h3.2
  · have hu : Und k 4 := by
      rcases h3 with h3 | h3
      · exact h3.2
      · exact absurd h3.1 hv
    refine Sf.ite (fun he => Sf.ok (Or.inl ⟨rfl, fun V => (V.2.2.2.2 (u4.mp hu)).2 he.symm⟩)) (fun he => j (fun _ e => he e.symm))
theorem addWorkS {x0_lineCount : Int32} {x0_goodsCount : Int32} {x0_workCount : Int32} {x0_years : Int32} {x0_lines : (Nat → Int32)} {x0_goods : (Nat → Int32)} {x0_works : (Nat → Int32)} {x0_change : (Nat → Int32)} {x0_coin : (Nat → Int32)} {x0_knownFree : (Nat → Int32)} {x0_isKnown : Int32} {p1 p2 p3 p4 : Int32} (hL : 0 ≤ x0_workCount ∧ x0_workCount < 7) : Sf (fX1_addWork (x0_lineCount, x0_goodsCount, x0_workCount, x0_years, x0_lines, x0_goods, x0_works, x0_change, x0_coin, x0_knownFree, x0_isKnown) p1 p2 p3 p4) (fun r => r.1 = x0_workCount + 1 ∧ r.2.2 = 0 ∧ AddR 5 (ro 5 x0_works) (ro 5 r.2.1) x0_workCount.toNatClampNeg [p1, p2, p3, p4, 0]) := by
  unfold fX1_addWork
  dsimp only [u11]
  rw [if_pos hL.2]
  have ix : ∀ c : Int32, 0 ≤ c ∧ c < 5 → (0 ≤ x0_workCount * 5 + c ∧ x0_workCount * 5 + c < 35) ∧ (x0_workCount * 5 + c).toNatClampNeg = 5 * x0_workCount.toNatClampNeg + c.toNatClampNeg := by
    intro c hc
    have e := ixm (p := x0_workCount) (m := 5) (c := c) ⟨hL.1, Int32.le_trans (Int32.le_of_lt hL.2) (by decide)⟩ (by decide) ⟨hc.1, Int32.le_trans (Int32.le_of_lt hc.2) (by decide)⟩
    refine ⟨by clear e; grind, ?_⟩
    rw [e, show (5 : Int32).toNatClampNeg = 5 from rfl, Nat.mul_comm]
  refine Sf.wrb 35 rfl (ix 0 (by decide)).1 (fun f1 e1 => ?_)
  refine Sf.wrb 35 rfl (ix 1 (by decide)).1 (fun f2 e2 => ?_)
  refine Sf.wrb 35 rfl (ix 2 (by decide)).1 (fun f3 e3 => ?_)
  refine Sf.wrb 35 rfl (ix 3 (by decide)).1 (fun f4 e4 => ?_)
  refine Sf.wrb 35 rfl (ix 4 (by decide)).1 (fun f5 e5 => ?_)
  rw [(ix 0 (by decide)).2, show (0 : Int32).toNatClampNeg = 0 from rfl] at e1
  rw [(ix 1 (by decide)).2, show (1 : Int32).toNatClampNeg = 1 from rfl] at e2
  rw [(ix 2 (by decide)).2, show (2 : Int32).toNatClampNeg = 2 from rfl] at e3
  rw [(ix 3 (by decide)).2, show (3 : Int32).toNatClampNeg = 3 from rfl] at e4
  rw [(ix 4 (by decide)).2, show (4 : Int32).toNatClampNeg = 4 from rfl] at e5
  refine Sf.ok ⟨rfl, rfl, fun l hl c hc => ?_, fun c hc => ?_⟩
  · show ro 5 f5 l c = _
    rw [ro_eq hc, ro_eq hc, e5, va_ne _ _ (by omega), e4, va_ne _ _ (by omega), e3, va_ne _ _ (by omega), e2, va_ne _ _ (by omega), e1, va_ne _ _ (by omega)]
  · show ro 5 f5 _ c = _
    rw [ro_eq hc, e5, e4, e3, e2, e1]
    rcases (show c = 0 ∨ c = 1 ∨ c = 2 ∨ c = 3 ∨ c = 4 by omega) with rfl | rfl | rfl | rfl | rfl
    · rw [va_ne _ _ (by omega), va_ne _ _ (by omega), va_ne _ _ (by omega), va_ne _ _ (by omega), va_eq]; rfl
    · rw [va_ne _ _ (by omega), va_ne _ _ (by omega), va_ne _ _ (by omega), va_eq]; rfl
    · rw [va_ne _ _ (by omega), va_ne _ _ (by omega), va_eq]; rfl
    · rw [va_ne _ _ (by omega), va_eq]; rfl
    · rw [va_eq]; rfl
def VWork (lc p1 p2 p3 p4 : Int32) : Prop := V3 lc p1 p2 p3 ∧ (0 ≤ p4 ∧ p4 ≤ 9999)
theorem workC {n : Nat} {x0_refused : (Nat → Int32)} {x0_isKept : Int32} {x0_gone : Int32} {x0_spent : Int32} {x1_lineCount : Int32} {x1_goodsCount : Int32} {x1_workCount : Int32} {x1_years : Int32} {x1_lines : (Nat → Int32)} {x1_goods : (Nat → Int32)} {x1_works : (Nat → Int32)} {x1_change : (Nat → Int32)} {x1_coin : (Nat → Int32)} {x1_knownFree : (Nat → Int32)} {x1_isKnown : Int32} {p1 p2 p3 p4 : Int32} (hn : 1000000000000 ≤ n) (h_x1_lineCount : 0 ≤ x1_lineCount ∧ x1_lineCount ≤ 20) (h_x1_workCount : 0 ≤ x1_workCount ∧ x1_workCount ≤ 7) : Sf (fX6_work n (x0_refused, x0_isKept, x0_gone, x0_spent) (x1_lineCount, x1_goodsCount, x1_workCount, x1_years, x1_lines, x1_goods, x1_works, x1_change, x1_coin, x1_knownFree, x1_isKnown) p1 p2 p3 p4) (fun r => AQ (VWork x1_lineCount p1 p2 p3 p4) (7 ≤ x1_workCount) r.1 (V3 x1_lineCount p1 p2 p3 ∧ r.1 = x1_workCount ∧ r.2.2.1 = x1_workCount + 1 ∧ r.2.2.2.2 = 0 ∧ AddR 5 (ro 5 x1_works) (ro 5 r.2.2.2.1) x1_workCount.toNatClampNeg [p1, p2, p3, p4, 0]) (r.2.2.1 = x1_workCount ∧ r.2.2.2.1 = x1_works ∧ r.2.2.2.2 = x1_isKnown)) := by
  unfold fX6_work
  dsimp only [u4, u11]
  have no : ¬ VWork x1_lineCount p1 p2 p3 p4 → Sf ((fX6_refuse (x0_refused, x0_isKept, x0_gone, x0_spent) (-2)).bind (u2 fun v g => some (v, g, x1_workCount, x1_works, x1_isKnown))) (fun r => AQ (VWork x1_lineCount p1 p2 p3 p4) (7 ≤ x1_workCount) r.1 (V3 x1_lineCount p1 p2 p3 ∧ r.1 = x1_workCount ∧ r.2.2.1 = x1_workCount + 1 ∧ r.2.2.2.2 = 0 ∧ AddR 5 (ro 5 x1_works) (ro 5 r.2.2.2.1) x1_workCount.toNatClampNeg [p1, p2, p3, p4, 0]) (r.2.2.1 = x1_workCount ∧ r.2.2.2.1 = x1_works ∧ r.2.2.2.2 = x1_isKnown)) := by
    intro hV
    refine Sf.bind refC ?_
    rintro ⟨v, g⟩ e
    exact Sf.ok (Or.inr (Or.inr ⟨hV, e, rfl, rfl, rfl⟩))
  refine Sf.bind (allowS hn h_x1_lineCount) (fun v1 h1 => Sf.ite (fun hz => no (fun V => ?_)) (fun hz => ?_))
  · rcases h1 with h1 | h1
    · exact h1.2 V.1
    · exact h1.1 hz
  have c1 : V3 x1_lineCount p1 p2 p3 := by
    rcases h1 with h1 | h1
    · exact absurd h1.1 hz
    · exact h1.2
  refine Sf.bind sX6_within (fun v6 h6 => Sf.ite (fun hz => no (fun V => gd0 h6 hz V.2)) (fun hz => ?_))
  have V : VWork x1_lineCount p1 p2 p3 p4 := ⟨c1, gd1 h6 hz⟩
  refine Sf.ite (fun hl => ?_) (fun hl => ?_)
  · refine Sf.bind (addWorkS ⟨h_x1_workCount.1, hl⟩) ?_
    rintro ⟨g31, g32, g33⟩ ⟨e1, e2, e3⟩
    have e1 : g31 = x1_workCount + 1 := e1
    refine Sf.ok (Or.inl ⟨V, Int32.not_le.mpr hl, c1, ?_, e1, e2, e3⟩)
    show g31 - 1 = x1_workCount
    rw [e1]
    grind
  · refine Sf.bind refC ?_
    rintro ⟨v, g⟩ e
    exact Sf.ok (Or.inr (Or.inl ⟨V, Int32.not_lt.mp hl, e, rfl, rfl, rfl⟩))
theorem mbF {x0_shelf : (Nat → Int32)} {x0_rowSort : (Nat → Int32)} {x0_rowSize : (Nat → Int32)} {x0_rows : (Nat → Nat → Int64)} {x0_moved : (Nat → Int64)} {x0_shown : (Nat → Int32)} {x0_tape : (Nat → Int32)} {x0_tapeSize : Int32} {x0_refused : (Nat → Int32)} {x0_lines : Int32} {x0_line : (Nat → Nat → Int32)} {x0_changes : (Nat → Int32)} {x0_coins : (Nat → Int32)} {x0_goods : Int32} {x0_good : (Nat → Nat → Int32)} {x0_works : Int32} {x0_work : (Nat → Nat → Int32)} {x0_years : Int32} {x0_gone : Int32} {x0_spent : Int32} {x0_at : Int32} {x0_token : Int32} {x0_from : Int32} {x0_figures : Int64} {x0_fault : Int32} {x0_numbers : (Nat → Int32)} {x0_statements : Int32} {x0_left : (Nat → Int32)} {x0_far : (Nat → Int32)} {x0_tons : Int32} {x0_way : (Nat → Int32)} {x0_steps : Int32} {x0_met : Int64} {x0_queue : (Nat → Int32)} {x0_totals : (Nat → Int32)} {k a : Int32} (h_x0_shelf : (AI 0 2 x0_shelf)) (h_x0_rowSize : (AI 0 40 x0_rowSize)) (h_x0_tapeSize : (0 ≤ x0_tapeSize ∧ x0_tapeSize ≤ 250)) (h_x0_lines : (0 ≤ x0_lines ∧ x0_lines ≤ 20)) (h_x0_line : (LnM x0_line)) (h_x0_changes : (AI 0 99 x0_changes)) (h_x0_coins : (AI 0 9 x0_coins)) (h_x0_goods : (0 ≤ x0_goods ∧ x0_goods ≤ 8)) (h_x0_good : (GdM x0_good)) (h_x0_works : (0 ≤ x0_works ∧ x0_works ≤ 7)) (h_x0_work : (WkM x0_work)) (h_x0_years : (1 ≤ x0_years ∧ x0_years ≤ 30)) (h_x0_from : (0 ≤ x0_from ∧ x0_from ≤ 250)) (h_x0_far : (AI 0 1000000000 x0_far)) (h_x0_way : (AI 0 22 x0_way)) (h_x0_steps : (0 ≤ x0_steps ∧ x0_steps ≤ 37)) (h_x0_queue : (AI 0 35 x0_queue)) : Sf (fX7_mayBeFirst (x0_shelf, x0_rowSort, x0_rowSize, x0_rows, x0_moved, x0_shown, x0_tape, x0_tapeSize, x0_refused, x0_lines, x0_line, x0_changes, x0_coins, x0_goods, x0_good, x0_works, x0_work, x0_years, x0_gone, x0_spent, x0_at, x0_token, x0_from, x0_figures, x0_fault, x0_numbers, x0_statements, x0_left, x0_far, x0_tons, x0_way, x0_steps, x0_met, x0_queue, x0_totals) k a) (fun r => (r = 0 ∧ ¬ VA x0_lines k a) ∨ (¬ r = 0 ∧ VA x0_lines k a)) := by
  have jl : (k = 1 ∨ k = 2) → Sf ((fX7_isLine (x0_shelf, x0_rowSort, x0_rowSize, x0_rows, x0_moved, x0_shown, x0_tape, x0_tapeSize, x0_refused, x0_lines, x0_line, x0_changes, x0_coins, x0_goods, x0_good, x0_works, x0_work, x0_years, x0_gone, x0_spent, x0_at, x0_token, x0_from, x0_figures, x0_fault, x0_numbers, x0_statements, x0_left, x0_far, x0_tons, x0_way, x0_steps, x0_met, x0_queue, x0_totals) a).bind (fun v1 => (zb v1).bind fun v3 => some v3)) (fun r => (r = 0 ∧ ¬ VA x0_lines k a) ∨ (¬ r = 0 ∧ VA x0_lines k a)) := by
    intro hk
    refine Sf.bind (sX7_isLine h_x0_shelf h_x0_rowSize h_x0_tapeSize h_x0_lines h_x0_line h_x0_changes h_x0_coins h_x0_goods h_x0_good h_x0_works h_x0_work h_x0_years h_x0_from h_x0_far h_x0_way h_x0_steps h_x0_queue) (fun v1 h1 => ?_)
    refine Sf.zbb (by rcases h1 with h | h; exact Or.inr h.1; exact Or.inl h.1) (fun r e => Sf.ok ?_)
    rw [e]
    rcases h1 with h | h
    · exact Or.inr ⟨by rw [h.1]; decide, fun _ => h.2, fun hn => absurd hk hn⟩
    · exact Or.inl ⟨h.1, fun V => h.2 (V.1 hk)⟩
  unfold fX7_mayBeFirst
  dsimp only [u35]
  refine Sf.ite (fun h => jl (Or.inl h)) (fun h => Sf.ite (fun h2 => jl (Or.inr h2)) (fun h2 => ?_))
  have hk : ¬ (k = 1 ∨ k = 2) := by rintro (e | e); exact h e; exact h2 e
  refine Sf.bind sX7_isPlace (fun v1 h1 => ?_)
  refine Sf.zbb (by rcases h1 with h | h; exact Or.inr h.1; exact Or.inl h.1) (fun r e => Sf.ok ?_)
  rw [e]
  by_cases hz : v1 = 0
  · exact Or.inl ⟨hz, fun V => gd0 h1 hz (V.2 hk)⟩
  · exact Or.inr ⟨hz, fun e => absurd e hk, fun _ => gd1 h1 hz⟩
theorem mbS {k a b : Int32} : Sf (fX7_mayBeSecond k a b) (fun r => (r = 0 ∧ ¬ VB k a b) ∨ (¬ r = 0 ∧ VB k a b)) := by
  have jl : (k = 1 ∨ k = 2) → Sf (fX7_mayBeSecond_j10 b) (fun r => (r = 0 ∧ ¬ VB k a b) ∨ (¬ r = 0 ∧ VB k a b)) := by
    intro hk
    have h3 : ¬ k = 3 := by rintro rfl; rcases hk with h | h <;> exact absurd h (by decide)
    unfold fX7_mayBeSecond_j10
    refine Sf.bind (s_inq b 0 2 (by decide) (by decide)) (fun v1 h1 => ?_)
    refine Sf.zbb (by rcases h1 with h | h; exact Or.inr h.1; exact Or.inl h.1) (fun r e => Sf.ok ?_)
    rw [e]
    by_cases hz : v1 = 0
    · exact Or.inl ⟨hz, fun V => gd0 h1 hz (V.1 hk)⟩
    · exact Or.inr ⟨hz, fun _ => gd1 h1 hz, fun e => absurd e h3, fun e => absurd hk e.1⟩
  unfold fX7_mayBeSecond
  refine Sf.ite (fun h => jl (Or.inl h)) (fun h => Sf.ite (fun h2 => jl (Or.inr h2)) (fun h2 => ?_))
  have hk : ¬ (k = 1 ∨ k = 2) := by rintro (e | e); exact h e; exact h2 e
  refine Sf.ite (fun h3 => ?_) (fun h3 => ?_)
  · refine Sf.bind (s_inq b 0 99 (by decide) (by decide)) (fun v1 h1 => ?_)
    refine Sf.zbb (by rcases h1 with h | h; exact Or.inr h.1; exact Or.inl h.1) (fun r e => Sf.ok ?_)
    rw [e]
    by_cases hz : v1 = 0
    · exact Or.inl ⟨hz, fun V => gd0 h1 hz (V.2.1 h3)⟩
    · exact Or.inr ⟨hz, fun e => absurd e hk, fun _ => gd1 h1 hz, fun e => absurd h3 e.2⟩
  · refine Sf.bind sX7_isPlace (fun v1 h1 => Sf.ite (fun hz => Sf.ok (Or.inl ⟨rfl, fun V => gd0 h1 hz (V.2.2 ⟨hk, h3⟩).1⟩)) (fun hz => ?_))
    exact Sf.ite (fun he => Sf.ok (Or.inl ⟨rfl, fun V => (V.2.2 ⟨hk, h3⟩).2 he⟩)) (fun he => Sf.ok (Or.inr ⟨by decide, fun e => absurd e hk, fun e => absurd e h3, fun _ => ⟨gd1 h1 hz, he⟩⟩))
theorem workR {x0_shelf : (Nat → Int32)} {x0_rowSort : (Nat → Int32)} {x0_rowSize : (Nat → Int32)} {x0_rows : (Nat → Nat → Int64)} {x0_moved : (Nat → Int64)} {x0_shown : (Nat → Int32)} {x0_tape : (Nat → Int32)} {x0_tapeSize : Int32} {x0_refused : (Nat → Int32)} {x0_lines : Int32} {x0_line : (Nat → Nat → Int32)} {x0_changes : (Nat → Int32)} {x0_coins : (Nat → Int32)} {x0_goods : Int32} {x0_good : (Nat → Nat → Int32)} {x0_works : Int32} {x0_work : (Nat → Nat → Int32)} {x0_years : Int32} {x0_gone : Int32} {x0_spent : Int32} {x0_at : Int32} {x0_token : Int32} {x0_from : Int32} {x0_figures : Int64} {x0_fault : Int32} {x0_numbers : (Nat → Int32)} {x0_statements : Int32} {x0_left : (Nat → Int32)} {x0_far : (Nat → Int32)} {x0_tons : Int32} {x0_way : (Nat → Int32)} {x0_steps : Int32} {x0_met : Int64} {x0_queue : (Nat → Int32)} {x0_totals : (Nat → Int32)} {p1 p2 p3 p4 : Int32} (h_x0_shelf : (AI 0 2 x0_shelf)) (h_x0_rowSize : (AI 0 40 x0_rowSize)) (h_x0_tapeSize : (0 ≤ x0_tapeSize ∧ x0_tapeSize ≤ 250)) (h_x0_lines : (0 ≤ x0_lines ∧ x0_lines ≤ 20)) (h_x0_line : (LnM x0_line)) (h_x0_changes : (AI 0 99 x0_changes)) (h_x0_coins : (AI 0 9 x0_coins)) (h_x0_goods : (0 ≤ x0_goods ∧ x0_goods ≤ 8)) (h_x0_good : (GdM x0_good)) (h_x0_works : (0 ≤ x0_works ∧ x0_works ≤ 7)) (h_x0_work : (WkM x0_work)) (h_x0_years : (1 ≤ x0_years ∧ x0_years ≤ 30)) (h_x0_from : (0 ≤ x0_from ∧ x0_from ≤ 250)) (h_x0_far : (AI 0 1000000000 x0_far)) (h_x0_way : (AI 0 22 x0_way)) (h_x0_steps : (0 ≤ x0_steps ∧ x0_steps ≤ 37)) (h_x0_queue : (AI 0 35 x0_queue)) : Sf (fX7_work (x0_shelf, x0_rowSort, x0_rowSize, x0_rows, x0_moved, x0_shown, x0_tape, x0_tapeSize, x0_refused, x0_lines, x0_line, x0_changes, x0_coins, x0_goods, x0_good, x0_works, x0_work, x0_years, x0_gone, x0_spent, x0_at, x0_token, x0_from, x0_figures, x0_fault, x0_numbers, x0_statements, x0_left, x0_far, x0_tons, x0_way, x0_steps, x0_met, x0_queue, x0_totals) p1 p2 p3 p4) (fun r => AQ (VWork x0_lines p1 p2 p3 p4) (7 ≤ x0_works) r.1 (r.1 = x0_works ∧ r.2.2.1 = x0_works + 1 ∧ AddR 5 x0_work r.2.2.2 x0_works.toNatClampNeg [p1, p2, p3, p4, 0]) (r.2.2.1 = x0_works ∧ r.2.2.2 = x0_work)) := by
  unfold fX7_work
  dsimp only [u35]
  have no : ¬ VWork x0_lines p1 p2 p3 p4 → Sf ((fX7_refuse (x0_shelf, x0_rowSort, x0_rowSize, x0_rows, x0_moved, x0_shown, x0_tape, x0_tapeSize, x0_refused, x0_lines, x0_line, x0_changes, x0_coins, x0_goods, x0_good, x0_works, x0_work, x0_years, x0_gone, x0_spent, x0_at, x0_token, x0_from, x0_figures, x0_fault, x0_numbers, x0_statements, x0_left, x0_far, x0_tons, x0_way, x0_steps, x0_met, x0_queue, x0_totals) (-2)).bind (u2 fun v g => some (v, g, x0_works, x0_work))) (fun r => AQ (VWork x0_lines p1 p2 p3 p4) (7 ≤ x0_works) r.1 (r.1 = x0_works ∧ r.2.2.1 = x0_works + 1 ∧ AddR 5 x0_work r.2.2.2 x0_works.toNatClampNeg [p1, p2, p3, p4, 0]) (r.2.2.1 = x0_works ∧ r.2.2.2 = x0_work)) := by
    intro hV
    refine Sf.bind (sX7_refuse h_x0_shelf h_x0_rowSize h_x0_tapeSize h_x0_lines h_x0_line h_x0_changes h_x0_coins h_x0_goods h_x0_good h_x0_works h_x0_work h_x0_years h_x0_from h_x0_far h_x0_way h_x0_steps h_x0_queue (by decide)) ?_
    rintro ⟨v, g⟩ e
    exact Sf.ok (Or.inr (Or.inr ⟨hV, e, rfl, rfl⟩))
  have z0 : ∀ {v : Int32} {P : Prop}, ((v = 0 ∧ ¬ P) ∨ (¬ v = 0 ∧ P)) → v = 0 → ¬ P := by
    intro v P h hz
    rcases h with h | h
    · exact h.2
    · exact absurd hz h.1
  have z1 : ∀ {v : Int32} {P : Prop}, ((v = 0 ∧ ¬ P) ∨ (¬ v = 0 ∧ P)) → ¬ v = 0 → P := by
    intro v P h hz
    rcases h with h | h
    · exact absurd h.1 hz
    · exact h.2
  refine Sf.bind (s_inq p1 1 5 (by decide) (by decide)) (fun v1 h1 => Sf.ite (fun hz => no (fun V => gd0 h1 hz V.1.1)) (fun hz => ?_))
  have c1 := gd1 h1 hz
  refine Sf.bind (mbF h_x0_shelf h_x0_rowSize h_x0_tapeSize h_x0_lines h_x0_line h_x0_changes h_x0_coins h_x0_goods h_x0_good h_x0_works h_x0_work h_x0_years h_x0_from h_x0_far h_x0_way h_x0_steps h_x0_queue) (fun v6 h6 => Sf.ite (fun hz => no (fun V => z0 h6 hz V.1.2.1)) (fun hz => ?_))
  have c2 := z1 h6 hz
  refine Sf.bind mbS (fun v11 h11 => Sf.ite (fun hz => no (fun V => z0 h11 hz V.1.2.2)) (fun hz => ?_))
  have c3 := z1 h11 hz
  refine Sf.bind (s_inq p4 0 9999 (by decide) (by decide)) (fun v14 h14 => Sf.ite (fun hz => no (fun V => gd0 h14 hz V.2)) (fun hz => ?_))
  have V : VWork x0_lines p1 p2 p3 p4 := ⟨⟨c1, c2, c3⟩, gd1 h14 hz⟩
  refine Sf.ite (fun hl => ?_) (fun hl => ?_)
  · refine Sf.bind (sX7_refuse h_x0_shelf h_x0_rowSize h_x0_tapeSize h_x0_lines h_x0_line h_x0_changes h_x0_coins h_x0_goods h_x0_good h_x0_works h_x0_work h_x0_years h_x0_from h_x0_far h_x0_way h_x0_steps h_x0_queue (by decide)) ?_
    rintro ⟨v, g⟩ e
    exact Sf.ok (Or.inr (Or.inl ⟨V, by rw [hl]; decide, e, rfl, rfl⟩))
  · have hL : 0 ≤ x0_works ∧ x0_works < 7 := ⟨h_x0_works.1, by clear no z0 z1 V c2 c3 h6 h11; grind⟩
    refine Sf.ckb 7 rfl hL (fun q18 e18 _ => ?_)
    refine Sf.wrb 5 rfl (by decide) (fun f19 e19 => ?_)
    refine Sf.wrb 5 rfl (by decide) (fun f20 e20 => ?_)
    refine Sf.wrb 5 rfl (by decide) (fun f21 e21 => ?_)
    refine Sf.wrb 5 rfl (by decide) (fun f22 e22 => ?_)
    refine Sf.wrb 5 rfl (by decide) (fun f23 e23 => ?_)
    rw [va_eq] at e20 e21 e22 e23
    refine Sf.ok (Or.inl ⟨V, Int32.not_le.mpr hL.2, rfl, rfl, fun l hl' c hc => ?_, fun c hc => ?_⟩)
    · rw [← e18] at hl'
      show va_up (va_up (va_up (va_up (va_up x0_work _ f19) _ f20) _ f21) _ f22) _ f23 l c = _
      rw [va_ne _ _ hl', va_ne _ _ hl', va_ne _ _ hl', va_ne _ _ hl', va_ne _ _ hl']
    · show va_up (va_up (va_up (va_up (va_up x0_work _ f19) _ f20) _ f21) _ f22) _ f23 _ c = _
      rw [← e18, va_eq, e23, e22, e21, e20, e19]
      rcases (show c = 0 ∨ c = 1 ∨ c = 2 ∨ c = 3 ∨ c = 4 by omega) with rfl | rfl | rfl | rfl | rfl <;> rfl
theorem Wf1_of {lc k a b x y : Int32} {f : Nat → Nat → Int32} {K : Nat} (h : V3 lc k a b) (hf : ∀ c, c < 5 → f K c = ([k, a, b, x, y] : List Int32).getD c 0) : Wf1 f lc K := by
  have e0 : f K 0 = k := hf 0 (by decide)
  have e1 : f K 1 = a := hf 1 (by decide)
  unfold Wf1
  rw [e0, e1]
  obtain ⟨h1, ⟨h2, h3⟩, h4⟩ := h
  refine ⟨h1, ?_, fun e => (h2 e).2, fun e => (h3 ?_).2⟩
  · by_cases e : k = 1 ∨ k = 2
    · exact (h2 e).1
    · exact (h3 e).1
  · rw [e]; decide
theorem dWork {n : Nat} {x0_refused : (Nat → Int32)} {x0_isKept : Int32} {x0_gone : Int32} {x0_spent : Int32} {x1_lineCount : Int32} {x1_goodsCount : Int32} {x1_workCount : Int32} {x1_years : Int32} {x1_lines : (Nat → Int32)} {x1_goods : (Nat → Int32)} {x1_works : (Nat → Int32)} {x1_change : (Nat → Int32)} {x1_coin : (Nat → Int32)} {x1_knownFree : (Nat → Int32)} {x1_isKnown : Int32} {m_shelf : (Nat → Int32)} {m_rowSort : (Nat → Int32)} {m_rowSize : (Nat → Int32)} {m_rows : (Nat → Nat → Int64)} {m_moved : (Nat → Int64)} {m_shown : (Nat → Int32)} {m_tape : (Nat → Int32)} {m_tapeSize : Int32} {m_refused : (Nat → Int32)} {m_lines : Int32} {m_line : (Nat → Nat → Int32)} {m_changes : (Nat → Int32)} {m_coins : (Nat → Int32)} {m_goods : Int32} {m_good : (Nat → Nat → Int32)} {m_works : Int32} {m_work : (Nat → Nat → Int32)} {m_years : Int32} {m_gone : Int32} {m_spent : Int32} {m_at : Int32} {m_token : Int32} {m_from : Int32} {m_figures : Int64} {m_fault : Int32} {m_numbers : (Nat → Int32)} {m_statements : Int32} {m_left : (Nat → Int32)} {m_far : (Nat → Int32)} {m_tons : Int32} {m_way : (Nat → Int32)} {m_steps : Int32} {m_met : Int64} {m_queue : (Nat → Int32)} {m_totals : (Nat → Int32)} {p1 p2 p3 p4 er e1 e3 fr f1 : Int32} {e0 e2 f0 : Nat → Int32} {f2 : Nat → Nat → Int32} (hn : 1000000000000 ≤ n) (h_x1_lineCount : (0 ≤ x1_lineCount ∧ x1_lineCount ≤ 20)) (h_x1_goodsCount : (0 ≤ x1_goodsCount ∧ x1_goodsCount ≤ 8)) (h_x1_workCount : (0 ≤ x1_workCount ∧ x1_workCount ≤ 7)) (h_x1_years : (1 ≤ x1_years ∧ x1_years ≤ 30)) (h_x1_lines : (LnOk x1_lines)) (h_x1_goods : (GdOk x1_goods)) (h_x1_works : (WkOk x1_works)) (h_x1_change : (AI 0 99 x1_change)) (h_x1_coin : (AI 0 9 x1_coin)) (h_m_shelf : (AI 0 2 m_shelf)) (h_m_rowSize : (AI 0 40 m_rowSize)) (h_m_tapeSize : (0 ≤ m_tapeSize ∧ m_tapeSize ≤ 250)) (h_m_lines : (0 ≤ m_lines ∧ m_lines ≤ 20)) (h_m_line : (LnM m_line)) (h_m_changes : (AI 0 99 m_changes)) (h_m_coins : (AI 0 9 m_coins)) (h_m_goods : (0 ≤ m_goods ∧ m_goods ≤ 8)) (h_m_good : (GdM m_good)) (h_m_works : (0 ≤ m_works ∧ m_works ≤ 7)) (h_m_work : (WkM m_work)) (h_m_years : (1 ≤ m_years ∧ m_years ≤ 30)) (h_m_from : (0 ≤ m_from ∧ m_from ≤ 250)) (h_m_far : (AI 0 1000000000 m_far)) (h_m_way : (AI 0 22 m_way)) (h_m_steps : (0 ≤ m_steps ∧ m_steps ≤ 37)) (h_m_queue : (AI 0 35 m_queue)) (hA : (LaD x1_lineCount x1_goodsCount x1_workCount x1_years x1_lines x1_goods x1_works x1_change x1_coin m_lines m_line m_changes m_coins m_goods m_good m_works m_work m_years)) (hk : Kn (FrS x1_lineCount (ro 7 x1_lines) x1_change x1_coin (ro 3 x1_goods) x1_goodsCount (ro 5 x1_works) x1_workCount) x1_knownFree x1_isKnown) (eqA : fX6_work n (x0_refused, x0_isKept, x0_gone, x0_spent) (x1_lineCount, x1_goodsCount, x1_workCount, x1_years, x1_lines, x1_goods, x1_works, x1_change, x1_coin, x1_knownFree, x1_isKnown) p1 p2 p3 p4 = some (er, e0, e1, e2, e3)) (eqB : fX7_work (m_shelf, m_rowSort, m_rowSize, m_rows, m_moved, m_shown, m_tape, m_tapeSize, m_refused, m_lines, m_line, m_changes, m_coins, m_goods, m_good, m_works, m_work, m_years, m_gone, m_spent, m_at, m_token, m_from, m_figures, m_fault, m_numbers, m_statements, m_left, m_far, m_tons, m_way, m_steps, m_met, m_queue, m_totals) p1 p2 p3 p4 = some (fr, f0, f1, f2)) : er = fr ∧ (LaD x1_lineCount x1_goodsCount e1 x1_years x1_lines x1_goods e2 x1_change x1_coin m_lines m_line m_changes m_coins m_goods m_good f1 f2 m_years) ∧ Kn (FrS x1_lineCount (ro 7 x1_lines) x1_change x1_coin (ro 3 x1_goods) x1_goodsCount (ro 5 e2) e1) x1_knownFree e3 := by
  have a := (workC hn h_x1_lineCount h_x1_workCount).at eqA
  have b := (workR h_m_shelf h_m_rowSize h_m_tapeSize h_m_lines h_m_line h_m_changes h_m_coins h_m_goods h_m_good h_m_works h_m_work h_m_years h_m_from h_m_far h_m_way h_m_steps h_m_queue).at eqB
  obtain ⟨⟨z1, z2, z3, z4⟩, z5, z6, z7, z8, z9, z10⟩ := hA
  subst z1 z3
  rcases AQ_eq Iff.rfl a b with ⟨⟨a0, a1, a2, a3, a4⟩, b1, b2, b3⟩ | ⟨e, ⟨a1, a2, a3⟩, b1, b2⟩
  · have a2 : e1 = x1_workCount + 1 := a2
    have b2 : f1 = x1_workCount + 1 := b2
    have a3 : e3 = 0 := a3
    subst a2 b2 a3
    have h20 : ¬ (20 : Int32) ≤ x1_workCount := fun h => absurd (Int32.le_trans h h_x1_workCount.2) (by decide)
    refine ⟨a1.trans b1.symm, ⟨⟨rfl, z2, rfl, z4⟩, z5, z6, AddR.alike h_x1_workCount.1 h20 a4 b3 z7, z8, z9, fun k hk' => ?_⟩, Or.inl rfl⟩
    rw [(up1 h_x1_workCount.1 (B := 20) (by decide) h20).2.1] at hk'
    by_cases e : k = x1_workCount.toNatClampNeg
    · rw [e]
      exact Wf1_of a0 a4.2
    · exact (z10 k (by omega)).congr (fun c hc => (a4.1 k e c (by omega)).symm)
  · have a1 : e1 = x1_workCount := a1
    have a2 : e2 = x1_works := a2
    have a3 : e3 = x1_isKnown := a3
    have b1 : f1 = x1_workCount := b1
    have b2 : f2 = m_work := b2
    subst a1 a2 a3 b2
    exact ⟨e, ⟨⟨rfl, z2, b1.symm, z4⟩, z5, z6, z7, z8, z9, z10⟩, hk⟩

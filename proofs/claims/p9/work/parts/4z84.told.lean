theorem lgc_lt (x y : Int64) : lg_cmp x y < 0 ↔ x < y := by
  unfold lg_cmp
  by_cases h1 : x > y
  · rw [if_pos h1]
    constructor
    · intro h; exact absurd h (by decide)
    · intro h; exact absurd (Int64.lt_iff_toInt_lt.mp h) (by have := Int64.lt_iff_toInt_lt.mp h1; omega)
  · rw [if_neg h1]
    by_cases h2 : x = y
    · rw [if_pos h2]
      subst h2
      constructor
      · intro h; exact absurd h (by decide)
      · intro h; exact absurd h h1
    · rw [if_neg h2]
      constructor
      · intro _
        apply Int64.lt_iff_toInt_lt.mpr
        have h3 : ¬ y.toInt < x.toInt := fun h => h1 (Int64.lt_iff_toInt_lt.mpr h)
        have h4 : x.toInt ≠ y.toInt := fun h => h2 (Int64.toInt_inj.mp h)
        omega
      · intro _; decide
theorem lgc_gt (x y : Int64) : 0 < lg_cmp x y ↔ y < x := by
  unfold lg_cmp
  by_cases h1 : x > y
  · rw [if_pos h1]
    exact ⟨fun _ => h1, fun _ => by decide⟩
  · rw [if_neg h1]
    by_cases h2 : x = y
    · rw [if_pos h2]
      exact ⟨fun h => absurd h (by decide), fun h => absurd h h1⟩
    · rw [if_neg h2]
      exact ⟨fun h => absurd h (by decide), fun h => absurd h h1⟩
theorem i64_lt (a b : Int32) : a.toInt64 < b.toInt64 ↔ a < b := by rw [Int64.lt_iff_toInt_lt, Int32.lt_iff_toInt_lt, Int32.toInt_toInt64, Int32.toInt_toInt64]
theorem inw (p a b : Int32) : fX7_in p.toInt64 a.toInt64 b.toInt64 = fX6_within p a b := by
  unfold fX7_in fX6_within
  simp only [lgc_lt, lgc_gt, i64_lt]
theorem s_inq (p a b : Int32) {A B : Int64} (hA : a.toInt64 = A) (hB : b.toInt64 = B) : Sf (fX7_in p.toInt64 A B) (fun r => (r = 1 ∧ a ≤ p ∧ p ≤ b) ∨ (r = 0 ∧ (p < a ∨ b < p))) := by
  subst hA; subst hB
  rw [inw]
  exact sX6_within
theorem i64_small {p : Int64} {b : Int32} (h0 : ¬ p < 0) (h1 : p < b.toInt64) : 0 ≤ p.toInt32 ∧ p.toInt32 < b := by
  have a := Int64.not_lt.mp h0
  have a := Int64.le_iff_toInt_le.mp a
  have c := Int64.lt_iff_toInt_lt.mp h1
  rw [Int32.toInt_toInt64] at c
  have z : (0 : Int64).toInt = 0 := by decide
  rw [z] at a
  have hb : b.toInt < 2147483648 := Int32.toInt_lt b
  have e : p.toInt32.toInt = p.toInt := by
    rw [Int64.toInt_toInt32]
    exact bm (by omega) (by omega)
  have z2 : (0 : Int32).toInt = 0 := by decide
  refine ⟨Int32.le_iff_toInt_le.mpr (by rw [e, z2]; exact a), Int32.lt_iff_toInt_lt.mpr (by rw [e]; exact c)⟩
theorem sX0_workTold {x0_lineCount x0_goodsCount x0_workCount x0_years : Int32} {x0_lines x0_goods x0_works x0_change x0_coin x0_knownFree : Nat → Int32} {x0_isKnown : Int32} {p1 : Int64} (b2 : 0 ≤ x0_workCount ∧ x0_workCount ≤ 7) (hw : WkOk x0_works) :
    Sf (fX0_workTold (x0_lineCount, x0_goodsCount, x0_workCount, x0_years, x0_lines, x0_goods, x0_works, x0_change, x0_coin, x0_knownFree, x0_isKnown) p1) (fun r => (-1) ≤ r ∧ r ≤ 6) := by
  unfold fX0_workTold
  have m1 : ((-1) : Int32) ≤ (-1) ∧ ((-1) : Int32) ≤ 6 := by decide
  refine Sf.ite (fun hc => Sf.ok m1) (fun hc => Sf.ite (fun hc2 => Sf.ok m1) (fun hc2 => ?_))
  have h1 : ¬ p1 < 0 := fun h => hc ((lgc_lt _ _).mpr h)
  have h2 : p1 < x0_workCount.toInt64 := (lgc_lt _ _).mp (Int32.not_le.mp hc2)
  have h3 := i64_small h1 h2
  clear hc hc2 h1 h2
  refine Sf.bind (P := fun _ => True) ?_ (fun v1 _ => Sf.ite (fun _ => Sf.ok (show (-1) ≤ p1.toInt32 ∧ p1.toInt32 ≤ 6 by grind)) (fun _ => Sf.ok m1))
  unfold fX1_isDone
  refine Sf.bind (s_ofWork hw (by grind) (by decide)) (fun v _ => Sf.ite (fun _ => Sf.ok trivial) (fun _ => Sf.ok trivial))

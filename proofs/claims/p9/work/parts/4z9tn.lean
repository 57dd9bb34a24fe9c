/-! work, told on the tape -/
theorem numNo {n : Nat} {x0_bytes : (Nat → Int32)} {x0_size : Int32} {x0_start : Int32} {x0_end : Int32} {x0_token : Int32} {x0_value : Int32} {lo hi : Int32} (h : ¬ (x0_token = 2 ∧ (lo ≤ x0_value ∧ x0_value ≤ hi))) : fX3_number n (x0_bytes, x0_size, x0_start, x0_end, x0_token, x0_value) lo hi = some (-1, x0_start, x0_end, x0_token, x0_value) := by
  unfold fX3_number
  dsimp only [u6]
  by_cases ht : x0_token = 2
  · rw [if_pos ht]
    obtain ⟨r, e, hr⟩ := sX6_within (p0 := x0_value) (p1 := lo) (p2 := hi)
    have h0 : r = 0 := by
      rcases hr with hr | hr
      · exact absurd ⟨ht, hr.2⟩ h
      · exact hr.1
    rw [e, h0]
    rfl
  · rw [if_neg ht]
theorem numOk {n m1 : Nat} {x0_bytes : (Nat → Int32)} {x0_size : Int32} {x0_start : Int32} {x0_end : Int32} {x0_token : Int32} {x0_value : Int32} {m_shelf : (Nat → Int32)} {m_rowSort : (Nat → Int32)} {m_rowSize : (Nat → Int32)} {m_rows : (Nat → Nat → Int64)} {m_moved : (Nat → Int64)} {m_shown : (Nat → Int32)} {m_refused : (Nat → Int32)} {m_lines : Int32} {m_line : (Nat → Nat → Int32)} {m_changes : (Nat → Int32)} {m_coins : (Nat → Int32)} {m_goods : Int32} {m_good : (Nat → Nat → Int32)} {m_works : Int32} {m_work : (Nat → Nat → Int32)} {m_years : Int32} {m_gone : Int32} {m_spent : Int32} {m_fault : Int32} {m_numbers : (Nat → Int32)} {m_statements : Int32} {m_left : (Nat → Int32)} {m_far : (Nat → Int32)} {m_tons : Int32} {m_way : (Nat → Int32)} {m_steps : Int32} {m_met : Int64} {m_queue : (Nat → Int32)} {m_totals : (Nat → Int32)} {row : Nat → Int32} {i lo hi lo' hi' M : Int32} (hn : 1000000000000 ≤ n) (hs : 0 ≤ x0_size ∧ x0_size ≤ 250) (hT : TkOk x0_size x0_start x0_end x0_token x0_value) (ht : x0_token = 2) (hv : lo ≤ x0_value ∧ x0_value ≤ hi) (hv' : lo' ≤ x0_value ∧ x0_value ≤ hi') (h0 : 0 ≤ lo) (hM : M.toInt = (m1 : Int)) (hi1 : 0 ≤ i ∧ i < M) : Sf2 (fX3_number n (x0_bytes, x0_size, x0_start, x0_end, x0_token, x0_value) lo hi) (fX7_number n (m_shelf, m_rowSort, m_rowSize, m_rows, m_moved, m_shown, x0_bytes, x0_size, m_refused, m_lines, m_line, m_changes, m_coins, m_goods, m_good, m_works, m_work, m_years, m_gone, m_spent, x0_end, x0_token, x0_start, (figs x0_token x0_value), m_fault, m_numbers, m_statements, m_left, m_far, m_tons, m_way, m_steps, m_met, m_queue, m_totals) m1 row i lo' hi') (fun r q => r.1 = x0_value ∧ q.1 = 1 ∧ q.2.1 = (r.2.2.1, r.2.2.2.1, r.2.1, figs r.2.2.2.1 r.2.2.2.2, m_fault) ∧ q.2.2 = va_up row i.toNatClampNeg x0_value ∧ TkOk x0_size r.2.1 r.2.2.1 r.2.2.2.1 r.2.2.2.2 ∧ x0_end ≤ r.2.1) := by
  have hvn : ¬ x0_value = -1 := by
    intro e
    rw [e] at hv
    exact absurd (Int32.le_trans h0 hv.1) (by decide)
  have ef : figs x0_token x0_value = x0_value.toInt64 := by
    unfold figs fg
    rw [if_pos ht, if_neg hvn]
  have w1 : ∀ a b : Int32, a ≤ x0_value ∧ x0_value ≤ b → fX6_within x0_value a b = some 1 := by
    intro a b h
    unfold fX6_within
    rw [if_neg (Int32.not_lt.mpr h.1), if_neg (Int32.not_lt.mpr h.2)]
  unfold fX3_number fX7_number
  dsimp only [u35, u6]
  rw [if_pos ht, if_pos ht, w1 lo hi hv, ef, inw, w1 lo' hi' hv']
  simp only [Option.bind_some]
  rw [if_neg (show ¬ (1 : Int32) = 0 by decide), if_neg (show ¬ (1 : Int32) = 0 by decide)]
  refine Sf2.r (P := fun f => f = va_up row i.toNatClampNeg x0_value.toInt64.toInt32) (Sf.wrP hM hi1) (fun f7 e7 => ?_)
  rw [Int32.toInt32_toInt64] at e7
  refine Sf2.bind (lookNext hn hs ⟨Int32.le_trans hT.1.1 hT.1.2, hT.2.1⟩ rfl rfl rfl) ?_
  rintro ⟨g3, g4, g5, g6⟩ ⟨h8, h9, h10, h11⟩ ⟨eq, ok, le⟩
  cases eq
  exact Sf2.ok ⟨rfl, rfl, rfl, e7, ok, le⟩
/-- a figure of at most two digits, as the reference tests it -/
theorem in99 {t v : Int32} (ht : t = 2) (hv : v = -1 ∨ (0 ≤ v ∧ v ≤ 999)) : ∃ r, fX7_in (figs t v) (0 : Int64) (99 : Int64) = some r ∧ ((¬ r = 0 ∧ (0 ≤ v ∧ v ≤ 99) ∧ (figs t v).toInt32 = v) ∨ (r = 0 ∧ ¬ (0 ≤ v ∧ v ≤ 99))) := by
  obtain ⟨r, _, e2, h⟩ := fg_in (lo := 0) (hi := 99) hv (by decide) (by decide)
  have ef : figs t v = (fg v).toInt64 := if_pos ht
  have e0 : ((0 : Int32).toInt64) = (0 : Int64) := by decide
  have e99 : ((99 : Int32).toInt64) = (99 : Int64) := by decide
  rw [e0, e99] at e2
  refine ⟨r, by rw [ef]; exact e2, ?_⟩
  obtain ⟨r', e1', e2', _⟩ := fg_in (lo := 0) (hi := 99) hv (by decide) (by decide)
  rw [e0, e99, e2] at e2'
  cases e2'
  obtain ⟨r2, e3, h3⟩ := sX6_within (p0 := v) (p1 := 0) (p2 := 99)
  rw [e1'] at e3
  cases e3
  rcases h3 with h3 | h3
  · refine Or.inl ⟨by rw [h3.1]; decide, h3.2, ?_⟩
    rcases h with h | h
    · rw [h] at h3; exact absurd h3.1 (by decide)
    · rw [ef, h.2.2, Int32.toInt32_toInt64]
  · exact Or.inr ⟨h3.1, gd0 (Or.inr h3) h3.1⟩
theorem mbF0 {x0_shelf : (Nat → Int32)} {x0_rowSort : (Nat → Int32)} {x0_rowSize : (Nat → Int32)} {x0_rows : (Nat → Nat → Int64)} {x0_moved : (Nat → Int64)} {x0_shown : (Nat → Int32)} {x0_tape : (Nat → Int32)} {x0_tapeSize : Int32} {x0_refused : (Nat → Int32)} {x0_lines : Int32} {x0_line : (Nat → Nat → Int32)} {x0_changes : (Nat → Int32)} {x0_coins : (Nat → Int32)} {x0_goods : Int32} {x0_good : (Nat → Nat → Int32)} {x0_works : Int32} {x0_work : (Nat → Nat → Int32)} {x0_years : Int32} {x0_gone : Int32} {x0_spent : Int32} {x0_at : Int32} {x0_token : Int32} {x0_from : Int32} {x0_figures : Int64} {x0_fault : Int32} {x0_numbers : (Nat → Int32)} {x0_statements : Int32} {x0_left : (Nat → Int32)} {x0_far : (Nat → Int32)} {x0_tons : Int32} {x0_way : (Nat → Int32)} {x0_steps : Int32} {x0_met : Int64} {x0_queue : (Nat → Int32)} {x0_totals : (Nat → Int32)} {k a : Int32} (hl : 0 ≤ x0_lines ∧ x0_lines ≤ 20) : Sf (fX7_mayBeFirst (x0_shelf, x0_rowSort, x0_rowSize, x0_rows, x0_moved, x0_shown, x0_tape, x0_tapeSize, x0_refused, x0_lines, x0_line, x0_changes, x0_coins, x0_goods, x0_good, x0_works, x0_work, x0_years, x0_gone, x0_spent, x0_at, x0_token, x0_from, x0_figures, x0_fault, x0_numbers, x0_statements, x0_left, x0_far, x0_tons, x0_way, x0_steps, x0_met, x0_queue, x0_totals) k a) (fun r => (r = 0 ∧ ¬ VA x0_lines k a) ∨ (¬ r = 0 ∧ VA x0_lines k a)) := by
  have isl : Sf (fX7_isLine (x0_shelf, x0_rowSort, x0_rowSize, x0_rows, x0_moved, x0_shown, x0_tape, x0_tapeSize, x0_refused, x0_lines, x0_line, x0_changes, x0_coins, x0_goods, x0_good, x0_works, x0_work, x0_years, x0_gone, x0_spent, x0_at, x0_token, x0_from, x0_figures, x0_fault, x0_numbers, x0_statements, x0_left, x0_far, x0_tons, x0_way, x0_steps, x0_met, x0_queue, x0_totals) a) (fun r => (r = 1 ∧ 0 ≤ a ∧ a ≤ x0_lines - 1) ∨ (r = 0 ∧ (a < 0 ∨ x0_lines - 1 < a))) := by
    unfold fX7_isLine
    dsimp only [u35]
    refine Sf.bind (s_inq a 0 (x0_lines - 1) (by decide) rfl) (fun v h => ?_)
    exact Sf.zbb (by rcases h with h | h; exact Or.inr h.1; exact Or.inl h.1) (fun r e => Sf.ok (by rw [e]; exact h))
  have jl : (k = 1 ∨ k = 2) → Sf ((fX7_isLine (x0_shelf, x0_rowSort, x0_rowSize, x0_rows, x0_moved, x0_shown, x0_tape, x0_tapeSize, x0_refused, x0_lines, x0_line, x0_changes, x0_coins, x0_goods, x0_good, x0_works, x0_work, x0_years, x0_gone, x0_spent, x0_at, x0_token, x0_from, x0_figures, x0_fault, x0_numbers, x0_statements, x0_left, x0_far, x0_tons, x0_way, x0_steps, x0_met, x0_queue, x0_totals) a).bind (fun v1 => (zb v1).bind fun v3 => some v3)) (fun r => (r = 0 ∧ ¬ VA x0_lines k a) ∨ (¬ r = 0 ∧ VA x0_lines k a)) := by
    intro hk
    refine Sf.bind isl (fun v1 h1 => ?_)
    refine Sf.zbb (by rcases h1 with h | h; exact Or.inr h.1; exact Or.inl h.1) (fun r e => Sf.ok ?_)
    rw [e]
    have g := gA_iff (lc := x0_lines) (k := k) (a := a) hl
    rw [if_pos hk] at g
    by_cases hz : v1 = 0
    · exact Or.inl ⟨hz, fun V => gd0 h1 hz (g.mpr V)⟩
    · exact Or.inr ⟨hz, g.mp (gd1 h1 hz)⟩
  unfold fX7_mayBeFirst
  dsimp only [u35]
  refine Sf.ite (fun h => jl (Or.inl h)) (fun h => Sf.ite (fun h2 => jl (Or.inr h2)) (fun h2 => ?_))
  have hk : ¬ (k = 1 ∨ k = 2) := by rintro (e | e); exact h e; exact h2 e
  refine Sf.bind sX7_isPlace (fun v1 h1 => ?_)
  refine Sf.zbb (by rcases h1 with h | h; exact Or.inr h.1; exact Or.inl h.1) (fun r e => Sf.ok ?_)
  rw [e]
  by_cases hz : v1 = 0
  · exact Or.inl ⟨hz, fun V => gd0 h1 hz (V.2 hk)⟩
  · exact Or.inr ⟨hz, fun e => absurd e hk, fun _ => gd1 h1 hz⟩

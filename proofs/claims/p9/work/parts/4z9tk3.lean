/-! numbers into the other rows -/
theorem numN2 {n : Nat} {x0_bytes : (Nat → Int32)} {x0_size : Int32} {x0_start : Int32} {x0_end : Int32} {x0_token : Int32} {x0_value : Int32} {m_shelf : (Nat → Int32)} {m_rowSort : (Nat → Int32)} {m_rowSize : (Nat → Int32)} {m_rows : (Nat → Nat → Int64)} {m_moved : (Nat → Int64)} {m_shown : (Nat → Int32)} {m_refused : (Nat → Int32)} {m_lines : Int32} {m_line : (Nat → Nat → Int32)} {m_changes : (Nat → Int32)} {m_coins : (Nat → Int32)} {m_goods : Int32} {m_good : (Nat → Nat → Int32)} {m_works : Int32} {m_work : (Nat → Nat → Int32)} {m_years : Int32} {m_gone : Int32} {m_spent : Int32} {m_fault : Int32} {m_numbers : (Nat → Int32)} {m_statements : Int32} {m_left : (Nat → Int32)} {m_far : (Nat → Int32)} {m_tons : Int32} {m_way : (Nat → Int32)} {m_steps : Int32} {m_met : Int64} {m_queue : (Nat → Int32)} {m_totals : (Nat → Int32)} {i lo hi : Int32} (hn : 1000000000000 ≤ n) (hs : 0 ≤ x0_size ∧ x0_size ≤ 250) (hT : TkOk x0_size x0_start x0_end x0_token x0_value) (hlo : 0 ≤ lo) (hhi : hi ≤ 999) (hi' : 0 ≤ i ∧ i < 2) : Sf2 (fX3_number n (x0_bytes, x0_size, x0_start, x0_end, x0_token, x0_value) lo hi) (fX7_numberN n (m_shelf, m_rowSort, m_rowSize, m_rows, m_moved, m_shown, x0_bytes, x0_size, m_refused, m_lines, m_line, m_changes, m_coins, m_goods, m_good, m_works, m_work, m_years, m_gone, m_spent, x0_end, x0_token, x0_start, (figs x0_token x0_value), m_fault, m_numbers, m_statements, m_left, m_far, m_tons, m_way, m_steps, m_met, m_queue, m_totals) i lo hi) (fun r q => NmR x0_size x0_start x0_end x0_token x0_value lo hi r q.1 (q.2.1, q.2.2.1, q.2.2.2.1, q.2.2.2.2.1, q.2.2.2.2.2.1) m_fault ∧ (q.1 = 0 ∨ q.2.2.2.2.2.2 = va_up m_numbers i.toNatClampNeg r.1)) := by
  unfold fX3_number fX7_numberN
  dsimp only [u35, u6]
  have bad : Sf2 (some ((-1 : Int32), x0_start, x0_end, x0_token, x0_value)) ((fX7_wrong (m_shelf, m_rowSort, m_rowSize, m_rows, m_moved, m_shown, x0_bytes, x0_size, m_refused, m_lines, m_line, m_changes, m_coins, m_goods, m_good, m_works, m_work, m_years, m_gone, m_spent, x0_end, x0_token, x0_start, (figs x0_token x0_value), m_fault, m_numbers, m_statements, m_left, m_far, m_tons, m_way, m_steps, m_met, m_queue, m_totals)).bind (u2 fun v1 g2 => (zb v1).bind fun v4 => some (v4, (x0_end, x0_token, x0_start, (figs x0_token x0_value), g2, m_numbers)))) (fun r q => NmR x0_size x0_start x0_end x0_token x0_value lo hi r q.1 (q.2.1, q.2.2.1, q.2.2.2.1, q.2.2.2.2.1, q.2.2.2.2.2.1) m_fault ∧ (q.1 = 0 ∨ q.2.2.2.2.2.2 = va_up m_numbers i.toNatClampNeg r.1)) := ⟨_, _, rfl, rfl, Or.inl ⟨rfl, rfl, rfl⟩, Or.inl rfl⟩
  refine Sf2.ite Iff.rfl (fun ht => ?_) (fun ht => bad)
  obtain ⟨r, e1, e2, h⟩ := fg_in (hT.2.2.1 ht) hlo hhi
  have ef : figs x0_token x0_value = (fg x0_value).toInt64 := if_pos ht
  rw [e1, ef, e2]
  show Sf2 (if r = 0 then _ else _) (if r = 0 then _ else _) _
  refine Sf2.ite Iff.rfl (fun hr => ?_) (fun hr => ?_)
  · rw [← ef]
    exact bad
  · obtain ⟨_, hv, ev⟩ : r = 1 ∧ (lo ≤ x0_value ∧ x0_value ≤ hi) ∧ fg x0_value = x0_value := by
      rcases h with h | h
      · exact absurd h hr
      · exact h
    rw [ev]
    refine Sf2.r (P := fun f => f = va_up m_numbers i.toNatClampNeg x0_value.toInt64.toInt32) (Sf.wrP (M := 2) rfl hi') (fun f7 e7 => ?_)
    rw [Int32.toInt32_toInt64] at e7
    refine Sf2.bind (lookNext hn hs ⟨Int32.le_trans hT.1.1 hT.1.2, hT.2.1⟩ rfl rfl rfl) ?_
    rintro ⟨g3, g4, g5, g6⟩ ⟨h8, h9, h10, h11⟩ ⟨eq, ok, le⟩
    cases eq
    exact Sf2.ok ⟨Or.inr ⟨hv, ht, rfl, rfl, rfl, ok, le⟩, Or.inr e7⟩
theorem numC2 {n : Nat} {x0_bytes : (Nat → Int32)} {x0_size : Int32} {x0_start : Int32} {x0_end : Int32} {x0_token : Int32} {x0_value : Int32} {m_shelf : (Nat → Int32)} {m_rowSort : (Nat → Int32)} {m_rowSize : (Nat → Int32)} {m_rows : (Nat → Nat → Int64)} {m_moved : (Nat → Int64)} {m_shown : (Nat → Int32)} {m_refused : (Nat → Int32)} {m_lines : Int32} {m_line : (Nat → Nat → Int32)} {m_changes : (Nat → Int32)} {m_coins : (Nat → Int32)} {m_goods : Int32} {m_good : (Nat → Nat → Int32)} {m_works : Int32} {m_work : (Nat → Nat → Int32)} {m_years : Int32} {m_gone : Int32} {m_spent : Int32} {m_fault : Int32} {m_numbers : (Nat → Int32)} {m_statements : Int32} {m_left : (Nat → Int32)} {m_far : (Nat → Int32)} {m_tons : Int32} {m_way : (Nat → Int32)} {m_steps : Int32} {m_met : Int64} {m_queue : (Nat → Int32)} {m_totals : (Nat → Int32)} {i lo hi : Int32} (hn : 1000000000000 ≤ n) (hs : 0 ≤ x0_size ∧ x0_size ≤ 250) (hT : TkOk x0_size x0_start x0_end x0_token x0_value) (hlo : 0 ≤ lo) (hhi : hi ≤ 999) (hi' : 0 ≤ i ∧ i < 12) : Sf2 (fX3_number n (x0_bytes, x0_size, x0_start, x0_end, x0_token, x0_value) lo hi) (fX7_numberC n (m_shelf, m_rowSort, m_rowSize, m_rows, m_moved, m_shown, x0_bytes, x0_size, m_refused, m_lines, m_line, m_changes, m_coins, m_goods, m_good, m_works, m_work, m_years, m_gone, m_spent, x0_end, x0_token, x0_start, (figs x0_token x0_value), m_fault, m_numbers, m_statements, m_left, m_far, m_tons, m_way, m_steps, m_met, m_queue, m_totals) i lo hi) (fun r q => NmR x0_size x0_start x0_end x0_token x0_value lo hi r q.1 q.2.2 m_fault ∧ (q.1 = 0 ∨ q.2.1 = va_up m_changes i.toNatClampNeg r.1)) := by
  unfold fX3_number fX7_numberC
  dsimp only [u35, u6]
  have bad : Sf2 (some ((-1 : Int32), x0_start, x0_end, x0_token, x0_value)) ((fX7_wrong (m_shelf, m_rowSort, m_rowSize, m_rows, m_moved, m_shown, x0_bytes, x0_size, m_refused, m_lines, m_line, m_changes, m_coins, m_goods, m_good, m_works, m_work, m_years, m_gone, m_spent, x0_end, x0_token, x0_start, (figs x0_token x0_value), m_fault, m_numbers, m_statements, m_left, m_far, m_tons, m_way, m_steps, m_met, m_queue, m_totals)).bind (u2 fun v1 g2 => (zb v1).bind fun v4 => some (v4, (m_changes, x0_end, x0_token, x0_start, (figs x0_token x0_value), g2)))) (fun r q => NmR x0_size x0_start x0_end x0_token x0_value lo hi r q.1 q.2.2 m_fault ∧ (q.1 = 0 ∨ q.2.1 = va_up m_changes i.toNatClampNeg r.1)) := ⟨_, _, rfl, rfl, Or.inl ⟨rfl, rfl, rfl⟩, Or.inl rfl⟩
  refine Sf2.ite Iff.rfl (fun ht => ?_) (fun ht => bad)
  obtain ⟨r, e1, e2, h⟩ := fg_in (hT.2.2.1 ht) hlo hhi
  have ef : figs x0_token x0_value = (fg x0_value).toInt64 := if_pos ht
  rw [e1, ef, e2]
  show Sf2 (if r = 0 then _ else _) (if r = 0 then _ else _) _
  refine Sf2.ite Iff.rfl (fun hr => ?_) (fun hr => ?_)
  · rw [← ef]
    exact bad
  · obtain ⟨_, hv, ev⟩ : r = 1 ∧ (lo ≤ x0_value ∧ x0_value ≤ hi) ∧ fg x0_value = x0_value := by
      rcases h with h | h
      · exact absurd h hr
      · exact h
    rw [ev]
    refine Sf2.r (P := fun f => f = va_up m_changes i.toNatClampNeg x0_value.toInt64.toInt32) (Sf.wrP (M := 12) rfl hi') (fun f7 e7 => ?_)
    rw [Int32.toInt32_toInt64] at e7
    refine Sf2.bind (lookNext hn hs ⟨Int32.le_trans hT.1.1 hT.1.2, hT.2.1⟩ rfl rfl rfl) ?_
    rintro ⟨g3, g4, g5, g6⟩ ⟨h8, h9, h10, h11⟩ ⟨eq, ok, le⟩
    cases eq
    exact Sf2.ok ⟨Or.inr ⟨hv, ht, rfl, rfl, rfl, ok, le⟩, Or.inr e7⟩
theorem numO2 {n : Nat} {x0_bytes : (Nat → Int32)} {x0_size : Int32} {x0_start : Int32} {x0_end : Int32} {x0_token : Int32} {x0_value : Int32} {m_shelf : (Nat → Int32)} {m_rowSort : (Nat → Int32)} {m_rowSize : (Nat → Int32)} {m_rows : (Nat → Nat → Int64)} {m_moved : (Nat → Int64)} {m_shown : (Nat → Int32)} {m_refused : (Nat → Int32)} {m_lines : Int32} {m_line : (Nat → Nat → Int32)} {m_changes : (Nat → Int32)} {m_coins : (Nat → Int32)} {m_goods : Int32} {m_good : (Nat → Nat → Int32)} {m_works : Int32} {m_work : (Nat → Nat → Int32)} {m_years : Int32} {m_gone : Int32} {m_spent : Int32} {m_fault : Int32} {m_numbers : (Nat → Int32)} {m_statements : Int32} {m_left : (Nat → Int32)} {m_far : (Nat → Int32)} {m_tons : Int32} {m_way : (Nat → Int32)} {m_steps : Int32} {m_met : Int64} {m_queue : (Nat → Int32)} {m_totals : (Nat → Int32)} {i lo hi : Int32} (hn : 1000000000000 ≤ n) (hs : 0 ≤ x0_size ∧ x0_size ≤ 250) (hT : TkOk x0_size x0_start x0_end x0_token x0_value) (hlo : 0 ≤ lo) (hhi : hi ≤ 999) (hi' : 0 ≤ i ∧ i < 3) : Sf2 (fX3_number n (x0_bytes, x0_size, x0_start, x0_end, x0_token, x0_value) lo hi) (fX7_numberO n (m_shelf, m_rowSort, m_rowSize, m_rows, m_moved, m_shown, x0_bytes, x0_size, m_refused, m_lines, m_line, m_changes, m_coins, m_goods, m_good, m_works, m_work, m_years, m_gone, m_spent, x0_end, x0_token, x0_start, (figs x0_token x0_value), m_fault, m_numbers, m_statements, m_left, m_far, m_tons, m_way, m_steps, m_met, m_queue, m_totals) i lo hi) (fun r q => NmR x0_size x0_start x0_end x0_token x0_value lo hi r q.1 q.2.2 m_fault ∧ (q.1 = 0 ∨ q.2.1 = va_up m_coins i.toNatClampNeg r.1)) := by
  unfold fX3_number fX7_numberO
  dsimp only [u35, u6]
  have bad : Sf2 (some ((-1 : Int32), x0_start, x0_end, x0_token, x0_value)) ((fX7_wrong (m_shelf, m_rowSort, m_rowSize, m_rows, m_moved, m_shown, x0_bytes, x0_size, m_refused, m_lines, m_line, m_changes, m_coins, m_goods, m_good, m_works, m_work, m_years, m_gone, m_spent, x0_end, x0_token, x0_start, (figs x0_token x0_value), m_fault, m_numbers, m_statements, m_left, m_far, m_tons, m_way, m_steps, m_met, m_queue, m_totals)).bind (u2 fun v1 g2 => (zb v1).bind fun v4 => some (v4, (m_coins, x0_end, x0_token, x0_start, (figs x0_token x0_value), g2)))) (fun r q => NmR x0_size x0_start x0_end x0_token x0_value lo hi r q.1 q.2.2 m_fault ∧ (q.1 = 0 ∨ q.2.1 = va_up m_coins i.toNatClampNeg r.1)) := ⟨_, _, rfl, rfl, Or.inl ⟨rfl, rfl, rfl⟩, Or.inl rfl⟩
  refine Sf2.ite Iff.rfl (fun ht => ?_) (fun ht => bad)
  obtain ⟨r, e1, e2, h⟩ := fg_in (hT.2.2.1 ht) hlo hhi
  have ef : figs x0_token x0_value = (fg x0_value).toInt64 := if_pos ht
  rw [e1, ef, e2]
  show Sf2 (if r = 0 then _ else _) (if r = 0 then _ else _) _
  refine Sf2.ite Iff.rfl (fun hr => ?_) (fun hr => ?_)
  · rw [← ef]
    exact bad
  · obtain ⟨_, hv, ev⟩ : r = 1 ∧ (lo ≤ x0_value ∧ x0_value ≤ hi) ∧ fg x0_value = x0_value := by
      rcases h with h | h
      · exact absurd h hr
      · exact h
    rw [ev]
    refine Sf2.r (P := fun f => f = va_up m_coins i.toNatClampNeg x0_value.toInt64.toInt32) (Sf.wrP (M := 3) rfl hi') (fun f7 e7 => ?_)
    rw [Int32.toInt32_toInt64] at e7
    refine Sf2.bind (lookNext hn hs ⟨Int32.le_trans hT.1.1 hT.1.2, hT.2.1⟩ rfl rfl rfl) ?_
    rintro ⟨g3, g4, g5, g6⟩ ⟨h8, h9, h10, h11⟩ ⟨eq, ok, le⟩
    cases eq
    exact Sf2.ok ⟨Or.inr ⟨hv, ht, rfl, rfl, rfl, ok, le⟩, Or.inr e7⟩
theorem toldNin {γ δ : Type} {n p p' : Nat} {x0_bytes : (Nat → Int32)} {x0_size : Int32} {x0_start : Int32} {x0_end : Int32} {x0_token : Int32} {x0_value : Int32} {m_shelf : (Nat → Int32)} {m_rowSort : (Nat → Int32)} {m_rowSize : (Nat → Int32)} {m_rows : (Nat → Nat → Int64)} {m_moved : (Nat → Int64)} {m_shown : (Nat → Int32)} {m_refused : (Nat → Int32)} {m_lines : Int32} {m_line : (Nat → Nat → Int32)} {m_changes : (Nat → Int32)} {m_coins : (Nat → Int32)} {m_goods : Int32} {m_good : (Nat → Nat → Int32)} {m_works : Int32} {m_work : (Nat → Nat → Int32)} {m_years : Int32} {m_gone : Int32} {m_spent : Int32} {m_fault : Int32} {m_numbers : (Nat → Int32)} {m_statements : Int32} {m_left : (Nat → Int32)} {m_far : (Nat → Int32)} {m_tons : Int32} {m_way : (Nat → Int32)} {m_steps : Int32} {m_met : Int64} {m_queue : (Nat → Int32)} {m_totals : (Nat → Int32)} {i lo hi v : Int32} {G : Int32 → Int32 → Int32 → Int32 → Int32 → Option γ} {K : Int32 × (Int32 × Int32 × Int32 × Int64 × Int32 × (Nat → Int32)) → Option δ} {S : γ → δ → Prop} (hn : 1000000000000 ≤ n) (hs : 0 ≤ x0_size ∧ x0_size ≤ 250) (hT : TkOk x0_size x0_start x0_end x0_token x0_value) (hlo : 0 ≤ lo) (hhi : hi ≤ 999) (hi' : 0 ≤ i ∧ i < 2) (hl : slen p' = slen p) (hc : schar p' = schar p) (ev : fX3_isWord n (x0_bytes, x0_size, x0_start, x0_end, x0_token, x0_value) p = some v) (hv : ¬ v = 0) (hG : ∀ a b c d f ok q1 q2 q3 q4 q5 row', RdR x0_size x0_end (a, b, c, d, f) ok (q1, q2, q3, q4, q5) m_fault → (ok = 0 ∨ ((lo ≤ a ∧ a ≤ hi) ∧ row' = va_up m_numbers i.toNatClampNeg a)) → Sf2 (G a b c d f) (K (ok, (q1, q2, q3, q4, q5, row'))) S) : Sf2 ((fX3_next n (x0_bytes, x0_size, x0_start, x0_end, x0_token, x0_value)).bind (u4 fun g1 g2 g3 g4 => (fX3_number n (x0_bytes, x0_size, g1, g2, g3, g4) lo hi).bind (u5 fun a b c d f => G a b c d f))) ((fX7_toldN n (m_shelf, m_rowSort, m_rowSize, m_rows, m_moved, m_shown, x0_bytes, x0_size, m_refused, m_lines, m_line, m_changes, m_coins, m_goods, m_good, m_works, m_work, m_years, m_gone, m_spent, x0_end, x0_token, x0_start, (figs x0_token x0_value), m_fault, m_numbers, m_statements, m_left, m_far, m_tons, m_way, m_steps, m_met, m_queue, m_totals) p' i lo hi).bind K) S := by
  unfold fX7_toldN
  dsimp only [u35]
  rw [isWordE hl hc, ev]
  show Sf2 _ ((if v = 0 then _ else _ : Option _).bind K) S
  rw [if_neg hv, Option.bind_assoc]
  refine Sf2.bind (lookNext hn hs ⟨Int32.le_trans hT.1.1 hT.1.2, hT.2.1⟩ rfl rfl rfl) ?_
  rintro ⟨g1, g2, g3, g4⟩ ⟨k1, k2, k3, k4⟩ ⟨eq, ok, le⟩
  cases eq
  try dsimp only [u4]
  rw [Option.bind_assoc]
  refine Sf2.bind (numN2 hn hs ok hlo hhi hi') ?_
  rintro ⟨a, b, c, d, f⟩ ⟨okk, q1, q2, q3, q4, q5, row'⟩ ⟨h1, h2⟩
  have hz : okk = 0 ∨ okk = 1 := by
    rcases h1 with h | h
    · exact Or.inl h.2.1
    · exact Or.inr h.2.2.2.1
  have ez : zb okk = some okk := if_pos hz
  show Sf2 (G a b c d f) (((zb okk).bind _).bind K) S
  rw [ez]
  refine hG a b c d f okk q1 q2 q3 q4 q5 row' (NmR.rd hlo (Int32.le_trans le ok.1.2) h1) ?_
  rcases h2 with h2 | h2
  · exact Or.inl h2
  · rcases h1 with h | h
    · exact Or.inl h.2.1
    · exact Or.inr ⟨h.1, h2⟩

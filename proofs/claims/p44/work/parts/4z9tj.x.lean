section
/-! numbers, words -/
theorem Sf.wrP {α : Type} {N : Nat} {f : Nat → α} {i M : Int32} {x : α} (hM : M.toInt = (N : Int)) (hi : 0 ≤ i ∧ i < M) : Sf (wr N f i x) (fun g => g = va_up f i.toNatClampNeg x) := by
  have h := Sf.wrb (f := f) (x := x) (k := fun g => some g) (Q := fun g => g = va_up f i.toNatClampNeg x) M hM hi (fun g e => Sf.ok e)
  obtain ⟨a, e, p⟩ := h
  cases hw : wr N f i x with
  | none => rw [hw] at e; cases e
  | some b => rw [hw] at e; cases e; exact ⟨_, rfl, p⟩
theorem isWordE {n p p' : Nat} {x0_bytes : (Nat → Int32)} {x0_size : Int32} {x0_start : Int32} {x0_end : Int32} {x0_token : Int32} {x0_value : Int32} {m_shelf : (Nat → Int32)} {m_rowSort : (Nat → Int32)} {m_rowSize : (Nat → Int32)} {m_rows : (Nat → Nat → Int64)} {m_moved : (Nat → Int64)} {m_shown : (Nat → Int32)} {m_tapeSize : Int32} {m_refused : (Nat → Int32)} {m_lines : Int32} {m_line : (Nat → Nat → Int32)} {m_changes : (Nat → Int32)} {m_coins : (Nat → Int32)} {m_goods : Int32} {m_good : (Nat → Nat → Int32)} {m_works : Int32} {m_work : (Nat → Nat → Int32)} {m_years : Int32} {m_gone : Int32} {m_spent : Int32} {m_figures : Int64} {m_fault : Int32} {m_numbers : (Nat → Int32)} {m_statements : Int32} {m_left : (Nat → Int32)} {m_far : (Nat → Int32)} {m_tons : Int32} {m_way : (Nat → Int32)} {m_steps : Int32} {m_met : Int64} {m_queue : (Nat → Int32)} {m_totals : (Nat → Int32)} (hl : slen p' = slen p) (hc : schar p' = schar p) : fX7_isWord n (m_shelf, m_rowSort, m_rowSize, m_rows, m_moved, m_shown, x0_bytes, m_tapeSize, m_refused, m_lines, m_line, m_changes, m_coins, m_goods, m_good, m_works, m_work, m_years, m_gone, m_spent, x0_end, x0_token, x0_start, m_figures, m_fault, m_numbers, m_statements, m_left, m_far, m_tons, m_way, m_steps, m_met, m_queue, m_totals) p' = fX3_isWord n (x0_bytes, x0_size, x0_start, x0_end, x0_token, x0_value) p := by
  unfold fX7_isWord fX3_isWord
  dsimp only [u35, u6]
  have e : fX7_isWord_s28 p' x0_bytes x0_start = fX3_isWord_s28 p x0_bytes x0_start := by
    funext z
    unfold fX7_isWord_s28 fX3_isWord_s28
    rw [hl, hc]
  rw [hl, e]
/-- after a number: the same token on both sides -/
def NmR (sz s e t v lo hi : Int32) (r : Int32 × Int32 × Int32 × Int32 × Int32) (ok : Int32) (q : Int32 × Int32 × Int32 × Int64 × Int32) (flt : Int32) : Prop :=
  (r = (-1, s, e, t, v) ∧ ok = 0 ∧ q = (e, t, s, figs t v, s)) ∨ ((lo ≤ r.1 ∧ r.1 ≤ hi) ∧ t = 2 ∧ r.1 = v ∧ ok = 1 ∧ q = (r.2.2.1, r.2.2.2.1, r.2.1, figs r.2.2.2.1 r.2.2.2.2, flt) ∧ TkOk sz r.2.1 r.2.2.1 r.2.2.2.1 r.2.2.2.2 ∧ e ≤ r.2.1)
theorem fg_in {v lo hi : Int32} (h : v = -1 ∨ (0 ≤ v ∧ v ≤ 999)) (hlo : 0 ≤ lo) (hhi : hi ≤ 999) : ∃ r, fX6_within v lo hi = some r ∧ fX7_in (fg v).toInt64 lo.toInt64 hi.toInt64 = some r ∧ (r = 0 ∨ (r = 1 ∧ (lo ≤ v ∧ v ≤ hi) ∧ fg v = v)) := by
  rw [inw]
  unfold fg
  by_cases e : v = -1
  · rw [if_pos e]
    have a : fX6_within v lo hi = some 0 := by
      unfold fX6_within
      rw [if_pos (by rw [e]; exact Int32.lt_of_lt_of_le (by decide) hlo)]
    have b : fX6_within 100000 lo hi = some 0 := by
      unfold fX6_within
      by_cases c : (100000 : Int32) < lo
      · rw [if_pos c]
      · rw [if_neg c, if_pos (Int32.lt_of_le_of_lt hhi (by decide))]
    exact ⟨0, a, b, Or.inl rfl⟩
  · rw [if_neg e]
    obtain ⟨r, e1, h1⟩ := sX6_within (p0 := v) (p1 := lo) (p2 := hi)
    refine ⟨r, e1, e1, ?_⟩
    rcases h1 with h1 | h1
    · exact Or.inr ⟨h1.1, h1.2, rfl⟩
    · exact Or.inl h1.1
theorem num2 {n m1 : Nat} {x0_bytes : (Nat → Int32)} {x0_size : Int32} {x0_start : Int32} {x0_end : Int32} {x0_token : Int32} {x0_value : Int32} {m_shelf : (Nat → Int32)} {m_rowSort : (Nat → Int32)} {m_rowSize : (Nat → Int32)} {m_rows : (Nat → Nat → Int64)} {m_moved : (Nat → Int64)} {m_shown : (Nat → Int32)} {m_refused : (Nat → Int32)} {m_lines : Int32} {m_line : (Nat → Nat → Int32)} {m_changes : (Nat → Int32)} {m_coins : (Nat → Int32)} {m_goods : Int32} {m_good : (Nat → Nat → Int32)} {m_works : Int32} {m_work : (Nat → Nat → Int32)} {m_years : Int32} {m_gone : Int32} {m_spent : Int32} {m_fault : Int32} {m_numbers : (Nat → Int32)} {m_statements : Int32} {m_left : (Nat → Int32)} {m_far : (Nat → Int32)} {m_tons : Int32} {m_way : (Nat → Int32)} {m_steps : Int32} {m_met : Int64} {m_queue : (Nat → Int32)} {m_totals : (Nat → Int32)} {row : Nat → Int32} {i lo hi M : Int32} (hn : 1000000000000 ≤ n) (hs : 0 ≤ x0_size ∧ x0_size ≤ 250) (hT : TkOk x0_size x0_start x0_end x0_token x0_value) (hlo : 0 ≤ lo) (hhi : hi ≤ 999) (hM : M.toInt = (m1 : Int)) (hi' : 0 ≤ i ∧ i < M) : Sf2 (fX3_number n (x0_bytes, x0_size, x0_start, x0_end, x0_token, x0_value) lo hi) (fX7_number n (m_shelf, m_rowSort, m_rowSize, m_rows, m_moved, m_shown, x0_bytes, x0_size, m_refused, m_lines, m_line, m_changes, m_coins, m_goods, m_good, m_works, m_work, m_years, m_gone, m_spent, x0_end, x0_token, x0_start, (figs x0_token x0_value), m_fault, m_numbers, m_statements, m_left, m_far, m_tons, m_way, m_steps, m_met, m_queue, m_totals) m1 row i lo hi) (fun r q => NmR x0_size x0_start x0_end x0_token x0_value lo hi r q.1 q.2.1 m_fault ∧ (q.1 = 0 ∨ q.2.2 = va_up row i.toNatClampNeg r.1)) := by
  unfold fX3_number fX7_number
  dsimp only [u35, u6]
  have bad : Sf2 (some ((-1 : Int32), x0_start, x0_end, x0_token, x0_value)) ((fX7_wrong (m_shelf, m_rowSort, m_rowSize, m_rows, m_moved, m_shown, x0_bytes, x0_size, m_refused, m_lines, m_line, m_changes, m_coins, m_goods, m_good, m_works, m_work, m_years, m_gone, m_spent, x0_end, x0_token, x0_start, (figs x0_token x0_value), m_fault, m_numbers, m_statements, m_left, m_far, m_tons, m_way, m_steps, m_met, m_queue, m_totals)).bind (u2 fun v1 g2 => (zb v1).bind fun v4 => some (v4, (x0_end, x0_token, x0_start, (figs x0_token x0_value), g2), row))) (fun r q => NmR x0_size x0_start x0_end x0_token x0_value lo hi r q.1 q.2.1 m_fault ∧ (q.1 = 0 ∨ q.2.2 = va_up row i.toNatClampNeg r.1)) := ⟨_, _, rfl, rfl, Or.inl ⟨rfl, rfl, rfl⟩, Or.inl rfl⟩
  refine Sf2.ite Iff.rfl (fun ht => ?_) (fun ht => bad)
  obtain ⟨r, e1, e2, h⟩ := fg_in (hT.2.2.1 ht) hlo hhi
  have ef : figs x0_token x0_value = (fg x0_value).toInt64 := if_pos ht
  rw [e1, ef, e2]
  show Sf2 (if r = 0 then _ else _) (if r = 0 then _ else _) _
  refine Sf2.ite Iff.rfl (fun hr => ?_) (fun hr => ?_)
  · rw [← ef]
    exact bad
  · obtain ⟨_, hv, ev⟩ : r = 1 ∧ (lo ≤ x0_value ∧ x0_value ≤ hi) ∧ fg x0_value = x0_value := by
      rcases h with h | h
      · exact absurd h hr
      · exact h
    rw [ev]
    refine Sf2.r (P := fun f => f = va_up row i.toNatClampNeg x0_value.toInt64.toInt32) (Sf.wrP hM hi') (fun f7 e7 => ?_)
    rw [Int32.toInt32_toInt64] at e7
    refine Sf2.bind (lookNext hn hs ⟨Int32.le_trans hT.1.1 hT.1.2, hT.2.1⟩ rfl rfl rfl) ?_
    rintro ⟨g3, g4, g5, g6⟩ ⟨h8, h9, h10, h11⟩ ⟨eq, ok, le⟩
    cases eq
    exact Sf2.ok ⟨Or.inr ⟨hv, ht, rfl, rfl, rfl, ok, le⟩, Or.inr e7⟩
/-- what a reading of some numbers comes to on both sides: r the class's (value, start, end, token, value here), q the reference's -/
def RdR (sz e0 : Int32) (r : Int32 × Int32 × Int32 × Int32 × Int32) (ok : Int32) (q : Int32 × Int32 × Int32 × Int64 × Int32) (flt : Int32) : Prop :=
  (r.1 = -1 ∧ ok = 0 ∧ q = (r.2.2.1, r.2.2.2.1, r.2.1, figs r.2.2.2.1 r.2.2.2.2, r.2.1)) ∨ (¬ r.1 = -1 ∧ ok = 1 ∧ q = (r.2.2.1, r.2.2.2.1, r.2.1, figs r.2.2.2.1 r.2.2.2.2, flt) ∧ TkOk sz r.2.1 r.2.2.1 r.2.2.2.1 r.2.2.2.2 ∧ e0 ≤ r.2.1)
theorem NmR.rd {sz s e t v lo hi flt ok e0 : Int32} {r : Int32 × Int32 × Int32 × Int32 × Int32} {q : Int32 × Int32 × Int32 × Int64 × Int32} (hlo : 0 ≤ lo) (h0 : e0 ≤ e) (h : NmR sz s e t v lo hi r ok q flt) : RdR sz e0 r ok q flt := by
  rcases h with ⟨h1, h2, h3⟩ | ⟨h1, h2, h3, h4, h5, h6, h7⟩
  · subst h1
    exact Or.inl ⟨rfl, h2, h3⟩
  · refine Or.inr ⟨?_, h4, h5, h6, Int32.le_trans h0 h7⟩
    intro e
    rw [e] at h1
    exact absurd (Int32.le_trans hlo h1.1) (by decide)
/-- a word and a number, where the word stands -/
theorem toldIn {γ δ : Type} {n p p' m1 : Nat} {x0_bytes : (Nat → Int32)} {x0_size : Int32} {x0_start : Int32} {x0_end : Int32} {x0_token : Int32} {x0_value : Int32} {m_shelf : (Nat → Int32)} {m_rowSort : (Nat → Int32)} {m_rowSize : (Nat → Int32)} {m_rows : (Nat → Nat → Int64)} {m_moved : (Nat → Int64)} {m_shown : (Nat → Int32)} {m_refused : (Nat → Int32)} {m_lines : Int32} {m_line : (Nat → Nat → Int32)} {m_changes : (Nat → Int32)} {m_coins : (Nat → Int32)} {m_goods : Int32} {m_good : (Nat → Nat → Int32)} {m_works : Int32} {m_work : (Nat → Nat → Int32)} {m_years : Int32} {m_gone : Int32} {m_spent : Int32} {m_fault : Int32} {m_numbers : (Nat → Int32)} {m_statements : Int32} {m_left : (Nat → Int32)} {m_far : (Nat → Int32)} {m_tons : Int32} {m_way : (Nat → Int32)} {m_steps : Int32} {m_met : Int64} {m_queue : (Nat → Int32)} {m_totals : (Nat → Int32)} {row : Nat → Int32} {i lo hi M v : Int32} {G : Int32 → Int32 → Int32 → Int32 → Int32 → Option γ} {K : Int32 × (Int32 × Int32 × Int32 × Int64 × Int32) × (Nat → Int32) → Option δ} {S : γ → δ → Prop} (hn : 1000000000000 ≤ n) (hs : 0 ≤ x0_size ∧ x0_size ≤ 250) (hT : TkOk x0_size x0_start x0_end x0_token x0_value) (hlo : 0 ≤ lo) (hhi : hi ≤ 999) (hM : M.toInt = (m1 : Int)) (hi' : 0 ≤ i ∧ i < M) (hl : slen p' = slen p) (hc : schar p' = schar p) (ev : fX3_isWord n (x0_bytes, x0_size, x0_start, x0_end, x0_token, x0_value) p = some v) (hv : ¬ v = 0) (hG : ∀ a b c d f ok q row', RdR x0_size x0_end (a, b, c, d, f) ok q m_fault → (ok = 0 ∨ ((lo ≤ a ∧ a ≤ hi) ∧ row' = va_up row i.toNatClampNeg a)) → Sf2 (G a b c d f) (K (ok, q, row')) S) : Sf2 ((fX3_next n (x0_bytes, x0_size, x0_start, x0_end, x0_token, x0_value)).bind (u4 fun g1 g2 g3 g4 => (fX3_number n (x0_bytes, x0_size, g1, g2, g3, g4) lo hi).bind (u5 fun a b c d f => G a b c d f))) ((fX7_told n (m_shelf, m_rowSort, m_rowSize, m_rows, m_moved, m_shown, x0_bytes, x0_size, m_refused, m_lines, m_line, m_changes, m_coins, m_goods, m_good, m_works, m_work, m_years, m_gone, m_spent, x0_end, x0_token, x0_start, (figs x0_token x0_value), m_fault, m_numbers, m_statements, m_left, m_far, m_tons, m_way, m_steps, m_met, m_queue, m_totals) p' m1 row i lo hi).bind K) S := by
  unfold fX7_told
  dsimp only [u35]
  rw [isWordE hl hc, ev]
  show Sf2 _ ((if v = 0 then _ else _ : Option _).bind K) S
  rw [if_neg hv, Option.bind_assoc]
  refine Sf2.bind (lookNext hn hs ⟨Int32.le_trans hT.1.1 hT.1.2, hT.2.1⟩ rfl rfl rfl) ?_
  rintro ⟨g1, g2, g3, g4⟩ ⟨k1, k2, k3, k4⟩ ⟨eq, ok, le⟩
  cases eq
  try dsimp only [u4]
  rw [Option.bind_assoc]
  refine Sf2.bind (num2 hn hs ok hlo hhi hM hi') ?_
  rintro ⟨a, b, c, d, f⟩ ⟨okk, q, row'⟩ ⟨h1, h2⟩
  obtain ⟨q1, q2, q3, q4, q5⟩ := q
  have hz : okk = 0 ∨ okk = 1 := by
    rcases h1 with h | h
    · exact Or.inl h.2.1
    · exact Or.inr h.2.2.2.1
  have ez : zb okk = some okk := if_pos hz
  show Sf2 (G a b c d f) (((zb okk).bind _).bind K) S
  rw [ez]
  refine hG a b c d f okk (q1, q2, q3, q4, q5) row' (NmR.rd hlo (Int32.le_trans le ok.1.2) h1) ?_
  rcases h2 with h2 | h2
  · exact Or.inl h2
  · rcases h1 with h | h
    · exact Or.inl h.2.1
    · exact Or.inr ⟨h.1, h2⟩
/-- a word and a number -/
theorem told2 {γ δ : Type} {n p p' m1 : Nat} {x0_bytes : (Nat → Int32)} {x0_size : Int32} {x0_start : Int32} {x0_end : Int32} {x0_token : Int32} {x0_value : Int32} {m_shelf : (Nat → Int32)} {m_rowSort : (Nat → Int32)} {m_rowSize : (Nat → Int32)} {m_rows : (Nat → Nat → Int64)} {m_moved : (Nat → Int64)} {m_shown : (Nat → Int32)} {m_refused : (Nat → Int32)} {m_lines : Int32} {m_line : (Nat → Nat → Int32)} {m_changes : (Nat → Int32)} {m_coins : (Nat → Int32)} {m_goods : Int32} {m_good : (Nat → Nat → Int32)} {m_works : Int32} {m_work : (Nat → Nat → Int32)} {m_years : Int32} {m_gone : Int32} {m_spent : Int32} {m_fault : Int32} {m_numbers : (Nat → Int32)} {m_statements : Int32} {m_left : (Nat → Int32)} {m_far : (Nat → Int32)} {m_tons : Int32} {m_way : (Nat → Int32)} {m_steps : Int32} {m_met : Int64} {m_queue : (Nat → Int32)} {m_totals : (Nat → Int32)} {row : Nat → Int32} {i lo hi M : Int32} {F0 : Option γ} {G : Int32 → Int32 → Int32 → Int32 → Int32 → Option γ} {K : Int32 × (Int32 × Int32 × Int32 × Int64 × Int32) × (Nat → Int32) → Option δ} {S : γ → δ → Prop} (hn : 1000000000000 ≤ n) (hs : 0 ≤ x0_size ∧ x0_size ≤ 250) (hT : TkOk x0_size x0_start x0_end x0_token x0_value) (hlo : 0 ≤ lo) (hhi : hi ≤ 999) (hM : M.toInt = (m1 : Int)) (hi' : 0 ≤ i ∧ i < M) (hl : slen p' = slen p) (hc : schar p' = schar p) (hw : ∃ v, fX3_isWord n (x0_bytes, x0_size, x0_start, x0_end, x0_token, x0_value) p = some v) (h0 : Sf2 F0 (K (0, (x0_end, x0_token, x0_start, figs x0_token x0_value, x0_start), row)) S) (hG : ∀ a b c d f ok q row', RdR x0_size x0_end (a, b, c, d, f) ok q m_fault → (ok = 0 ∨ ((lo ≤ a ∧ a ≤ hi) ∧ row' = va_up row i.toNatClampNeg a)) → Sf2 (G a b c d f) (K (ok, q, row')) S) : Sf2 ((fX3_isWord n (x0_bytes, x0_size, x0_start, x0_end, x0_token, x0_value) p).bind (fun v17 => if v17 = 0 then F0 else ((fX3_next n (x0_bytes, x0_size, x0_start, x0_end, x0_token, x0_value)).bind (u4 fun g1 g2 g3 g4 => (fX3_number n (x0_bytes, x0_size, g1, g2, g3, g4) lo hi).bind (u5 fun a b c d f => G a b c d f))))) ((fX7_told n (m_shelf, m_rowSort, m_rowSize, m_rows, m_moved, m_shown, x0_bytes, x0_size, m_refused, m_lines, m_line, m_changes, m_coins, m_goods, m_good, m_works, m_work, m_years, m_gone, m_spent, x0_end, x0_token, x0_start, (figs x0_token x0_value), m_fault, m_numbers, m_statements, m_left, m_far, m_tons, m_way, m_steps, m_met, m_queue, m_totals) p' m1 row i lo hi).bind K) S := by
  obtain ⟨v, ev⟩ := hw
  rw [ev]
  show Sf2 (if v = 0 then F0 else _) _ S
  by_cases hv : v = 0
  · rw [if_pos hv]
    unfold fX7_told
    dsimp only [u35]
    rw [isWordE hl hc, ev]
    show Sf2 _ ((if v = 0 then _ else _ : Option _).bind K) S
    rw [if_pos hv]
    exact h0
  · rw [if_neg hv]
    exact toldIn hn hs hT hlo hhi hM hi' hl hc ev hv hG
theorem perh2 {n p p' m1 : Nat} {x0_bytes : (Nat → Int32)} {x0_size : Int32} {x0_start : Int32} {x0_end : Int32} {x0_token : Int32} {x0_value : Int32} {m_shelf : (Nat → Int32)} {m_rowSort : (Nat → Int32)} {m_rowSize : (Nat → Int32)} {m_rows : (Nat → Nat → Int64)} {m_moved : (Nat → Int64)} {m_shown : (Nat → Int32)} {m_refused : (Nat → Int32)} {m_lines : Int32} {m_line : (Nat → Nat → Int32)} {m_changes : (Nat → Int32)} {m_coins : (Nat → Int32)} {m_goods : Int32} {m_good : (Nat → Nat → Int32)} {m_works : Int32} {m_work : (Nat → Nat → Int32)} {m_years : Int32} {m_gone : Int32} {m_spent : Int32} {m_fault : Int32} {m_numbers : (Nat → Int32)} {m_statements : Int32} {m_left : (Nat → Int32)} {m_far : (Nat → Int32)} {m_tons : Int32} {m_way : (Nat → Int32)} {m_steps : Int32} {m_met : Int64} {m_queue : (Nat → Int32)} {m_totals : (Nat → Int32)} {row : Nat → Int32} {i lo hi M df : Int32} (hn : 1000000000000 ≤ n) (hs : 0 ≤ x0_size ∧ x0_size ≤ 250) (hT : TkOk x0_size x0_start x0_end x0_token x0_value) (hlo : 0 ≤ lo) (hhi : hi ≤ 999) (hM : M.toInt = (m1 : Int)) (hi' : 0 ≤ i ∧ i < M) (hl : slen p' = slen p) (hc : schar p' = schar p) (hw : ∃ v, fX3_isWord n (x0_bytes, x0_size, x0_start, x0_end, x0_token, x0_value) p = some v) (hd : lo ≤ df ∧ df ≤ hi) (hr : row i.toNatClampNeg = df) : Sf2 (fX3_perhaps n (x0_bytes, x0_size, x0_start, x0_end, x0_token, x0_value) p lo hi df) (fX7_perhaps n (m_shelf, m_rowSort, m_rowSize, m_rows, m_moved, m_shown, x0_bytes, x0_size, m_refused, m_lines, m_line, m_changes, m_coins, m_goods, m_good, m_works, m_work, m_years, m_gone, m_spent, x0_end, x0_token, x0_start, (figs x0_token x0_value), m_fault, m_numbers, m_statements, m_left, m_far, m_tons, m_way, m_steps, m_met, m_queue, m_totals) p' m1 row i lo hi) (fun r q => RdR x0_size x0_start r q.1 q.2.1 m_fault ∧ (q.1 = 0 ∨ ((lo ≤ r.1 ∧ r.1 ≤ hi) ∧ ∀ c, q.2.2 c = va_up row i.toNatClampNeg r.1 c))) := by
  obtain ⟨v, ev⟩ := hw
  have hdn : ¬ df = -1 := by
    intro e
    rw [e] at hd
    exact absurd (Int32.le_trans hlo hd.1) (by decide)
  unfold fX3_perhaps fX7_perhaps
  dsimp only [u35, u6]
  rw [isWordE hl hc, ev]
  show Sf2 (if v = 0 then _ else _) (if v = 0 then _ else _) _
  by_cases hv : v = 0
  · rw [if_pos hv, if_pos hv]
    refine Sf2.ok ⟨Or.inr ⟨hdn, rfl, rfl, hT, Int32.le_refl _⟩, Or.inr ⟨hd, fun c => ?_⟩⟩
    show row c = va_up row i.toNatClampNeg df c
    by_cases hcc : c = i.toNatClampNeg
    · rw [hcc, va_eq, hr]
    · rw [va_ne _ _ hcc]
  · rw [if_neg hv, if_neg hv]
    refine toldIn hn hs hT hlo hhi hM hi' hl hc ev hv ?_
    rintro a b c d f ok ⟨q1, q2, q3, q4, q5⟩ row' h1 h2
    have mono : RdR x0_size x0_start (a, b, c, d, f) ok (q1, q2, q3, q4, q5) m_fault := by
      rcases h1 with h | ⟨h, h3, h4, h5, h6⟩
      · exact Or.inl h
      · exact Or.inr ⟨h, h3, h4, h5, Int32.le_trans hT.1.2 h6⟩
    show Sf2 (some (a, b, c, d, f)) (if ok = 0 then _ else _) _
    by_cases ho : ok = 0
    · rw [if_pos ho]
      rw [ho] at mono
      exact Sf2.ok ⟨mono, Or.inl rfl⟩
    · rw [if_neg ho]
      have e1 : ok = 1 := by
        rcases h1 with h | h
        · exact absurd h.2.1 ho
        · exact h.2.1
      rw [e1] at mono
      rcases h2 with h | h
      · exact absurd h ho
      · exact Sf2.ok ⟨mono, Or.inr ⟨h.1, fun c => by rw [h.2]⟩⟩
/-- two numbers that are not the same -/
theorem lg_eq (a b : Int32) : lg_cmp a.toInt64 b.toInt64 = 0 ↔ a = b := by
  have h1 := lgc_lt a.toInt64 b.toInt64
  have h2 := lgc_gt a.toInt64 b.toInt64
  rw [i64_lt] at h1 h2
  constructor
  · intro h
    rw [h] at h1 h2
    have n1 : ¬ a < b := fun q => absurd (h1.mpr q) (by decide)
    have n2 : ¬ b < a := fun q => absurd (h2.mpr q) (by decide)
    exact Int32.le_antisymm (Int32.not_lt.mp n2) (Int32.not_lt.mp n1)
  · intro h
    subst h
    have n1 : ¬ lg_cmp a.toInt64 a.toInt64 < 0 := fun q => Int32.lt_irrefl (h1.mp q)
    have n2 : ¬ 0 < lg_cmp a.toInt64 a.toInt64 := fun q => Int32.lt_irrefl (h2.mp q)
    exact Int32.le_antisymm (Int32.not_lt.mp n2) (Int32.not_lt.mp n1)
theorem unl2 {n m1 : Nat} {x0_bytes : (Nat → Int32)} {x0_size : Int32} {x0_start : Int32} {x0_end : Int32} {x0_token : Int32} {x0_value : Int32} {m_shelf : (Nat → Int32)} {m_rowSort : (Nat → Int32)} {m_rowSize : (Nat → Int32)} {m_rows : (Nat → Nat → Int64)} {m_moved : (Nat → Int64)} {m_shown : (Nat → Int32)} {m_refused : (Nat → Int32)} {m_lines : Int32} {m_line : (Nat → Nat → Int32)} {m_changes : (Nat → Int32)} {m_coins : (Nat → Int32)} {m_goods : Int32} {m_good : (Nat → Nat → Int32)} {m_works : Int32} {m_work : (Nat → Nat → Int32)} {m_years : Int32} {m_gone : Int32} {m_spent : Int32} {m_fault : Int32} {m_numbers : (Nat → Int32)} {m_statements : Int32} {m_left : (Nat → Int32)} {m_far : (Nat → Int32)} {m_tons : Int32} {m_way : (Nat → Int32)} {m_steps : Int32} {m_met : Int64} {m_queue : (Nat → Int32)} {m_totals : (Nat → Int32)} {row : Nat → Int32} {i hi M o : Int32} (hn : 1000000000000 ≤ n) (hs : 0 ≤ x0_size ∧ x0_size ≤ 250) (hT : TkOk x0_size x0_start x0_end x0_token x0_value) (hhi : hi ≤ 999) (hM : M.toInt = (m1 : Int)) (hi' : 0 ≤ i ∧ i < M) (hne : ¬ (x0_token = 2 ∧ x0_value = o)) : Sf2 (fX3_numberUnlike n (x0_bytes, x0_size, x0_start, x0_end, x0_token, x0_value) o hi) (fX7_number n (m_shelf, m_rowSort, m_rowSize, m_rows, m_moved, m_shown, x0_bytes, x0_size, m_refused, m_lines, m_line, m_changes, m_coins, m_goods, m_good, m_works, m_work, m_years, m_gone, m_spent, x0_end, x0_token, x0_start, (figs x0_token x0_value), m_fault, m_numbers, m_statements, m_left, m_far, m_tons, m_way, m_steps, m_met, m_queue, m_totals) m1 row i 0 hi) (fun r q => NmR x0_size x0_start x0_end x0_token x0_value 0 hi r q.1 q.2.1 m_fault ∧ (q.1 = 0 ∨ q.2.2 = va_up row i.toNatClampNeg r.1)) := by
  have e : fX3_numberUnlike n (x0_bytes, x0_size, x0_start, x0_end, x0_token, x0_value) o hi = fX3_number n (x0_bytes, x0_size, x0_start, x0_end, x0_token, x0_value) 0 hi := by
    have id5 : ∀ x : Option (Int32 × Int32 × Int32 × Int32 × Int32), x.bind (u5 fun v7 g8 g9 g10 g11 => some (v7, g8, g9, g10, g11)) = x := by
      intro x
      cases x with
      | none => rfl
      | some y => rfl
    unfold fX3_numberUnlike
    dsimp only [u6]
    by_cases ht : x0_token = 2
    · rw [if_pos ht, if_neg (fun h => hne ⟨ht, h⟩), id5]
    · rw [if_neg ht, id5]
  rw [e]
  exact num2 hn hs hT (by decide) hhi hM hi'
end
section
/-! two places; the statements -/
theorem Sf.ckP {N : Nat} {i M : Int32} (hM : M.toInt = (N : Int)) (hi : 0 ≤ i ∧ i < M) : Sf (ck i N) (fun q => q = i.toNatClampNeg) := by
  have h := Sf.ckb (i := i) (N := N) (k := fun q => some q) (Q := fun q => q = i.toNatClampNeg) M hM hi (fun q e _ => Sf.ok e)
  obtain ⟨a, e, p⟩ := h
  cases hw : ck i N with
  | none => rw [hw] at e; cases e
  | some b => rw [hw] at e; cases e; exact ⟨_, rfl, p⟩
def TwR (sz e0 v6 s e t v y ok : Int32) (q : Int32 × Int32 × Int32 × Int64 × Int32) (row row' : Nat → Int32) (flt : Int32) : Prop := (y = -1 ∧ ok = 0 ∧ q = (e, t, s, figs t v, s)) ∨ (¬ y = -1 ∧ (0 ≤ v6 ∧ v6 ≤ 11) ∧ (0 ≤ y ∧ y ≤ 11) ∧ ¬ v6 = y ∧ ok = 1 ∧ q = (e, t, s, figs t v, flt) ∧ TkOk sz s e t v ∧ e0 ≤ s ∧ row' = va_up (va_up row 0 v6) 1 y)
theorem two2 {γ δ : Type} {n m1 : Nat} {x0_bytes : (Nat → Int32)} {x0_size : Int32} {x0_start : Int32} {x0_end : Int32} {x0_token : Int32} {x0_value : Int32} {m_shelf : (Nat → Int32)} {m_rowSort : (Nat → Int32)} {m_rowSize : (Nat → Int32)} {m_rows : (Nat → Nat → Int64)} {m_moved : (Nat → Int64)} {m_shown : (Nat → Int32)} {m_refused : (Nat → Int32)} {m_lines : Int32} {m_line : (Nat → Nat → Int32)} {m_changes : (Nat → Int32)} {m_coins : (Nat → Int32)} {m_goods : Int32} {m_good : (Nat → Nat → Int32)} {m_works : Int32} {m_work : (Nat → Nat → Int32)} {m_years : Int32} {m_gone : Int32} {m_spent : Int32} {m_fault : Int32} {m_numbers : (Nat → Int32)} {m_statements : Int32} {m_left : (Nat → Int32)} {m_far : (Nat → Int32)} {m_tons : Int32} {m_way : (Nat → Int32)} {m_steps : Int32} {m_met : Int64} {m_queue : (Nat → Int32)} {m_totals : (Nat → Int32)} {row : Nat → Int32} {M : Int32} {J : Int32 → Int32 → Int32 → Int32 → Int32 → Int32 → Option γ} {K : Int32 × (Int32 × Int32 × Int32 × Int64 × Int32) × (Nat → Int32) → Option δ} {S : γ → δ → Prop} (hn : 1000000000000 ≤ n) (hs : 0 ≤ x0_size ∧ x0_size ≤ 250) (hT : TkOk x0_size x0_start x0_end x0_token x0_value) (hM : M.toInt = (m1 : Int)) (hM2 : (1 : Int32) < M) (hJ : ∀ v6 s e t v y ok q row', TwR x0_size x0_end v6 s e t v y ok q row row' m_fault → Sf2 (J v6 s e t v y) (K (ok, q, row')) S) : Sf2 ((fX3_next n (x0_bytes, x0_size, x0_start, x0_end, x0_token, x0_value)).bind (u4 fun g1 g2 g3 g4 => (fX3_number n (x0_bytes, x0_size, g1, g2, g3, g4) 0 11).bind (u5 fun v6 g7 g8 g9 g10 => if v6 = (-1) then (J v6 g7 g8 g9 g10 (-1)) else ((fX3_numberUnlike n (x0_bytes, x0_size, g7, g8, g9, g10) v6 11).bind (u5 fun y b c d f => J v6 b c d f y))))) ((fX7_two n (m_shelf, m_rowSort, m_rowSize, m_rows, m_moved, m_shown, x0_bytes, x0_size, m_refused, m_lines, m_line, m_changes, m_coins, m_goods, m_good, m_works, m_work, m_years, m_gone, m_spent, x0_end, x0_token, x0_start, (figs x0_token x0_value), m_fault, m_numbers, m_statements, m_left, m_far, m_tons, m_way, m_steps, m_met, m_queue, m_totals) m1 row).bind K) S := by
  have hM0 : (0 : Int32) < M := Int32.lt_of_le_of_lt (by decide) hM2
  unfold fX7_two
  dsimp only [u35]
  rw [Option.bind_assoc]
  refine Sf2.bind (lookNext hn hs ⟨Int32.le_trans hT.1.1 hT.1.2, hT.2.1⟩ rfl rfl rfl) ?_
  rintro ⟨g1, g2, g3, g4⟩ ⟨k1, k2, k3, k4⟩ ⟨eq, ok, le⟩
  cases eq
  try dsimp only [u4]
  rw [Option.bind_assoc]
  refine Sf2.bind (num2 hn hs ok (by decide) (by decide) hM ⟨by decide, hM0⟩) ?_
  rintro ⟨v6, s, e, t, v⟩ ⟨okk, ⟨q1, q2, q3, q4, q5⟩, row1⟩ ⟨h1, h2⟩
  show Sf2 (if v6 = -1 then _ else _) ((if okk = 0 then _ else _ : Option _).bind K) S
  rcases h1 with ⟨h, ho, hq⟩ | ⟨hr, ht0, hv0, ho, hq, hk, hle⟩
  · have ho1 : okk = 0 := ho
    have hq1 : (q1, q2, q3, q4, q5) = (g2, g3, g1, figs g3 g4, g1) := hq
    clear ho hq h2
    cases h
    cases hq1
    rw [if_pos rfl, if_pos ho1]
    exact hJ _ _ _ _ _ _ 0 _ row1 (Or.inl ⟨rfl, rfl, rfl⟩)
  · have hr1 : 0 ≤ v6 ∧ v6 ≤ 11 := hr
    have ho1 : okk = 1 := ho
    have hk1 : TkOk x0_size s e t v := hk
    have hle1 : g2 ≤ s := hle
    have le2 : x0_end ≤ s := Int32.le_trans (Int32.le_trans le ok.1.2) hle1
    have hq1 : (q1, q2, q3, q4, q5) = (e, t, s, figs t v, m_fault) := hq
    have h21 : okk = 0 ∨ row1 = va_up row 0 v6 := h2
    clear hr ho hk hle hq h2 ht0 hv0
    have hr := hr1
    have ho := ho1
    have hk := hk1
    have hle := hle1
    have h2 := h21
    clear hr1 ho1 hk1 hle1 h21
    cases hq1
    have hv6 : ¬ v6 = -1 := by
      intro e
      rw [e] at hr
      exact absurd hr.1 (by decide)
    have hrow : row1 = va_up row 0 v6 := by
      rcases h2 with h | h
      · rw [ho] at h
        exact absurd h (by decide)
      · exact h
    rw [if_neg hv6, if_neg (by rw [ho]; decide)]
    have fin : ¬ (t = 2 ∧ v = v6) → Sf2 ((fX3_numberUnlike n (x0_bytes, x0_size, s, e, t, v) v6 11).bind (u5 fun y b c d f => J v6 b c d f y)) ((fX7_two_j43 n m1 m_shelf m_rowSort m_rowSize m_rows m_moved m_shown x0_bytes x0_size m_refused m_lines m_line m_changes m_coins m_goods m_good m_works m_work m_years m_gone m_spent m_numbers m_statements m_left m_far m_tons m_way m_steps m_met m_queue m_totals e t s (figs t v) m_fault row1).bind K) S := by
      intro hne
      unfold fX7_two_j43
      rw [Option.bind_assoc]
      refine Sf2.bind (unl2 hn hs hk (by decide) hM ⟨by decide, hM2⟩ hne) ?_
      rintro ⟨y, s', e', t', v'⟩ ⟨ok2, ⟨q1, q2, q3, q4, q5⟩, row2⟩ ⟨h1, h2⟩
      have hz : ok2 = 0 ∨ ok2 = 1 := by
        rcases h1 with h | h
        · exact Or.inl h.2.1
        · exact Or.inr h.2.2.2.1
      have ez : zb ok2 = some ok2 := if_pos hz
      show Sf2 (J v6 s' e' t' v' y) (((zb ok2).bind _).bind K) S
      rw [ez]
      refine hJ v6 s' e' t' v' y ok2 _ row2 ?_
      rcases h1 with ⟨h, ho2, hq2⟩ | ⟨hr2, ht2, hv2, ho2, hq2, hk2, hle2⟩
      · have ho2 : ok2 = 0 := ho2
        have hq2 : (q1, q2, q3, q4, q5) = (e, t, s, figs t v, s) := hq2
        cases h
        exact Or.inl ⟨rfl, ho2, hq2⟩
      · have hr2 : 0 ≤ y ∧ y ≤ 11 := hr2
        have hv2 : y = v := hv2
        have hle2 : e ≤ s' := hle2
        have hk2 : TkOk x0_size s' e' t' v' := hk2
        have ho2 : ok2 = 1 := ho2
        have hrow2 : row2 = va_up row1 1 y := by
          rcases h2 with h | h
          · have h : ok2 = 0 := h
            rw [ho2] at h
            exact absurd h (by decide)
          · exact h
        refine Or.inr ⟨?_, hr, hr2, ?_, ho2, hq2, hk2, Int32.le_trans le2 (Int32.le_trans hk.1.2 hle2), by rw [hrow2, hrow]⟩
        · intro e
          rw [e] at hr2
          exact absurd hr2.1 (by decide)
        · intro e
          exact hne ⟨ht2, by rw [← hv2, e]⟩
    show Sf2 _ ((if t = 2 then _ else _ : Option _).bind K) S
    by_cases ht : t = 2
    · rw [if_pos ht]
      have er : rd m1 row1 0 = some v6 := by
        obtain ⟨a, ea, pa⟩ := Sf.rdb (f := row1) (k := fun g => some g) (Q := fun g => g = row1 (0 : Int32).toNatClampNeg) M hM ⟨Int32.le_refl 0, hM0⟩ (fun g e => Sf.ok e)
        cases hw : rd m1 row1 0 with
        | none => rw [hw] at ea; cases ea
        | some b =>
          rw [hw] at ea
          cases ea
          rw [pa, hrow]
          rfl
      rw [er]
      show Sf2 _ ((if lg_cmp (figs t v) v6.toInt64 = 0 then _ else _ : Option _).bind K) S
      have ef : figs t v = (fg v).toInt64 := if_pos ht
      have eiff : lg_cmp (figs t v) v6.toInt64 = 0 ↔ v = v6 := by
        rw [ef, lg_eq]
        unfold fg
        by_cases hv : v = -1
        · rw [if_pos hv]
          constructor
          · intro h
            rw [← h] at hr
            exact absurd hr.2 (by decide)
          · intro h
            exact absurd (h.symm.trans hv) hv6
        · rw [if_neg hv]
      by_cases hv : v = v6
      · rw [if_pos (eiff.mpr hv)]
        have eu : fX3_numberUnlike n (x0_bytes, x0_size, s, e, t, v) v6 11 = some ((-1), s, e, t, v) := by
          unfold fX3_numberUnlike
          dsimp only [u6]
          rw [if_pos ht, if_pos hv]
        rw [eu]
        exact hJ v6 s e t v (-1) 0 _ row1 (Or.inl ⟨rfl, rfl, rfl⟩)
      · rw [if_neg (fun h => hv (eiff.mp h))]
        exact fin (fun h => hv h.2)
    · rw [if_neg ht]
      exact fin (fun h => ht h.1)
/-- what a statement comes to -/
def StR (sz e0 : Int32) (ok s e t v lc gc wc yr : Int32) (lines goods works chg coin : Nat → Int32) (ok' L : Int32) (line : Nat → Nat → Int32) (ch co : Nat → Int32) (G : Int32) (good : Nat → Nat → Int32) (W : Int32) (work : Nat → Nat → Int32) (Y at' tok from' : Int32) (fig : Int64) (flt : Int32) : Prop :=
  (ok = 0 ∧ ok' = 0 ∧ flt = s) ∨ (¬ ok = 0 ∧ ¬ ok' = 0 ∧ (at', tok, from', fig) = (e, t, s, figs t v) ∧ TkOk sz s e t v ∧ e0 ≤ s ∧ LaD lc gc wc yr lines goods works chg coin L line ch co G good W work Y)
theorem isWordS {n p : Nat} {x0_bytes : (Nat → Int32)} {x0_size : Int32} {x0_start : Int32} {x0_end : Int32} {x0_token : Int32} {x0_value : Int32} (hn : 1000000000000 ≤ n) (hs : 0 ≤ x0_size ∧ x0_size ≤ 250) (hT : TkOk x0_size x0_start x0_end x0_token x0_value) (hp : p < 10) : ∃ v, fX3_isWord n (x0_bytes, x0_size, x0_start, x0_end, x0_token, x0_value) p = some v := by
  obtain ⟨v, e, _⟩ := sX3_isWord (p1 := p) hn (show 0 ≤ x0_start ∧ x0_start ≤ 250 from ⟨hT.1.1, Int32.le_trans hT.1.2 (Int32.le_trans hT.2.1 hs.2)⟩) (show 0 ≤ x0_end ∧ x0_end ≤ 250 from ⟨Int32.le_trans hT.1.1 hT.1.2, Int32.le_trans hT.2.1 hs.2⟩) (Nat.lt_trans hp (by decide))
  exact ⟨v, e⟩
end
section
/-! the pieces of the reference's statement -/
def sLine (n : Nat) (x0_shelf : (Nat → Int32)) (x0_rowSort : (Nat → Int32)) (x0_rowSize : (Nat → Int32)) (x0_rows : (Nat → Nat → Int64)) (x0_moved : (Nat → Int64)) (x0_shown : (Nat → Int32)) (x0_tape : (Nat → Int32)) (x0_tapeSize : Int32) (x0_refused : (Nat → Int32)) (x0_lines : Int32) (x0_line : (Nat → Nat → Int32)) (x0_changes : (Nat → Int32)) (x0_coins : (Nat → Int32)) (x0_goods : Int32) (x0_good : (Nat → Nat → Int32)) (x0_works : Int32) (x0_work : (Nat → Nat → Int32)) (x0_years : Int32) (x0_gone : Int32) (x0_spent : Int32) (x0_at : Int32) (x0_token : Int32) (x0_from : Int32) (x0_figures : Int64) (x0_fault : Int32) (x0_numbers : (Nat → Int32)) (x0_statements : Int32) (x0_left : (Nat → Int32)) (x0_far : (Nat → Int32)) (x0_tons : Int32) (x0_way : (Nat → Int32)) (x0_steps : Int32) (x0_met : Int64) (x0_queue : (Nat → Int32)) (x0_totals : (Nat → Int32)) : Option (Int32 × (Int32 × (Nat → Nat → Int32) × (Nat → Int32) × (Nat → Int32) × Int32 × (Nat → Nat → Int32) × Int32 × (Nat → Nat → Int32) × Int32 × Int32 × Int32 × Int32 × Int64 × Int32 × (Nat → Int32))) :=
  (ck x0_lines 20).bind fun q93 => (fX7_newLine (x0_shelf, x0_rowSort, x0_rowSize, x0_rows, x0_moved, x0_shown, x0_tape, x0_tapeSize, x0_refused, x0_lines, x0_line, x0_changes, x0_coins, x0_goods, x0_good, x0_works, x0_work, x0_years, x0_gone, x0_spent, x0_at, x0_token, x0_from, x0_figures, x0_fault, x0_numbers, x0_statements, x0_left, x0_far, x0_tons, x0_way, x0_steps, x0_met, x0_queue, x0_totals) (0) (0)).bind (fun g94 => (fX7_two n (x0_shelf, x0_rowSort, x0_rowSize, x0_rows, x0_moved, x0_shown, x0_tape, x0_tapeSize, x0_refused, x0_lines, g94, x0_changes, x0_coins, x0_goods, x0_good, x0_works, x0_work, x0_years, x0_gone, x0_spent, x0_at, x0_token, x0_from, x0_figures, x0_fault, x0_numbers, x0_statements, x0_left, x0_far, x0_tons, x0_way, x0_steps, x0_met, x0_queue, x0_totals) 7 (g94 q93)).bind (u3 fun v96 G97 g103 => u5 (fun g98 g99 g100 g101 g102 => if v96 = 0 then (some (0, (x0_lines, (va_up g94 q93 g103), x0_changes, x0_coins, x0_goods, x0_good, x0_works, x0_work, x0_years, g98, g99, g100, g101, g102, x0_numbers))) else ((fX7_told n (x0_shelf, x0_rowSort, x0_rowSize, x0_rows, x0_moved, x0_shown, x0_tape, x0_tapeSize, x0_refused, x0_lines, (va_up g94 q93 g103), x0_changes, x0_coins, x0_goods, x0_good, x0_works, x0_work, x0_years, x0_gone, x0_spent, g98, g99, g100, g101, g102, x0_numbers, x0_statements, x0_left, x0_far, x0_tons, x0_way, x0_steps, x0_met, x0_queue, x0_totals) 11 7 ((va_up g94 q93 g103) q93) (2) (1) (7)).bind (u3 fun v105 G106 g112 => u5 (fun g107 g108 g109 g110 g111 => if v105 = 0 then (some (0, (x0_lines, (va_up (va_up g94 q93 g103) q93 g112), x0_changes, x0_coins, x0_goods, x0_good, x0_works, x0_work, x0_years, g107, g108, g109, g110, g111, x0_numbers))) else ((fX7_told n (x0_shelf, x0_rowSort, x0_rowSize, x0_rows, x0_moved, x0_shown, x0_tape, x0_tapeSize, x0_refused, x0_lines, (va_up (va_up g94 q93 g103) q93 g112), x0_changes, x0_coins, x0_goods, x0_good, x0_works, x0_work, x0_years, x0_gone, x0_spent, g107, g108, g109, g110, g111, x0_numbers, x0_statements, x0_left, x0_far, x0_tons, x0_way, x0_steps, x0_met, x0_queue, x0_totals) 12 7 ((va_up (va_up g94 q93 g103) q93 g112) q93) (3) (1) (60)).bind (u3 fun v114 G115 g121 => u5 (fun g116 g117 g118 g119 g120 => if v114 = 0 then (some (0, (x0_lines, (va_up (va_up (va_up g94 q93 g103) q93 g112) q93 g121), x0_changes, x0_coins, x0_goods, x0_good, x0_works, x0_work, x0_years, g116, g117, g118, g119, g120, x0_numbers))) else ((fX7_perhaps n (x0_shelf, x0_rowSort, x0_rowSize, x0_rows, x0_moved, x0_shown, x0_tape, x0_tapeSize, x0_refused, x0_lines, (va_up (va_up (va_up g94 q93 g103) q93 g112) q93 g121), x0_changes, x0_coins, x0_goods, x0_good, x0_works, x0_work, x0_years, x0_gone, x0_spent, g116, g117, g118, g119, g120, x0_numbers, x0_statements, x0_left, x0_far, x0_tons, x0_way, x0_steps, x0_met, x0_queue, x0_totals) 13 7 ((va_up (va_up (va_up g94 q93 g103) q93 g112) q93 g121) q93) (4) (1) (999)).bind (u3 fun v123 G124 g130 => u5 (fun g125 g126 g127 g128 g129 => if v123 = 0 then (some (0, (x0_lines, (va_up (va_up (va_up (va_up g94 q93 g103) q93 g112) q93 g121) q93 g130), x0_changes, x0_coins, x0_goods, x0_good, x0_works, x0_work, x0_years, g125, g126, g127, g128, g129, x0_numbers))) else ((fX7_perhaps n (x0_shelf, x0_rowSort, x0_rowSize, x0_rows, x0_moved, x0_shown, x0_tape, x0_tapeSize, x0_refused, x0_lines, (va_up (va_up (va_up (va_up g94 q93 g103) q93 g112) q93 g121) q93 g130), x0_changes, x0_coins, x0_goods, x0_good, x0_works, x0_work, x0_years, x0_gone, x0_spent, g125, g126, g127, g128, g129, x0_numbers, x0_statements, x0_left, x0_far, x0_tons, x0_way, x0_steps, x0_met, x0_queue, x0_totals) 14 7 ((va_up (va_up (va_up (va_up g94 q93 g103) q93 g112) q93 g121) q93 g130) q93) (5) (0) (5)).bind (u3 fun v132 G133 g139 => u5 (fun g134 g135 g136 g137 g138 => if v132 = 0 then (some (0, (x0_lines, (va_up (va_up (va_up (va_up (va_up g94 q93 g103) q93 g112) q93 g121) q93 g130) q93 g139), x0_changes, x0_coins, x0_goods, x0_good, x0_works, x0_work, x0_years, g134, g135, g136, g137, g138, x0_numbers))) else (some (1, ((x0_lines + 1), (va_up (va_up (va_up (va_up (va_up g94 q93 g103) q93 g112) q93 g121) q93 g130) q93 g139), x0_changes, x0_coins, x0_goods, x0_good, x0_works, x0_work, x0_years, g134, g135, g136, g137, g138, x0_numbers)))) G133))) G124))) G115))) G106))) G97))
def sGoods (n : Nat) (x0_shelf : (Nat → Int32)) (x0_rowSort : (Nat → Int32)) (x0_rowSize : (Nat → Int32)) (x0_rows : (Nat → Nat → Int64)) (x0_moved : (Nat → Int64)) (x0_shown : (Nat → Int32)) (x0_tape : (Nat → Int32)) (x0_tapeSize : Int32) (x0_refused : (Nat → Int32)) (x0_lines : Int32) (x0_line : (Nat → Nat → Int32)) (x0_changes : (Nat → Int32)) (x0_coins : (Nat → Int32)) (x0_goods : Int32) (x0_good : (Nat → Nat → Int32)) (x0_works : Int32) (x0_work : (Nat → Nat → Int32)) (x0_years : Int32) (x0_gone : Int32) (x0_spent : Int32) (x0_at : Int32) (x0_token : Int32) (x0_from : Int32) (x0_figures : Int64) (x0_fault : Int32) (x0_numbers : (Nat → Int32)) (x0_statements : Int32) (x0_left : (Nat → Int32)) (x0_far : (Nat → Int32)) (x0_tons : Int32) (x0_way : (Nat → Int32)) (x0_steps : Int32) (x0_met : Int64) (x0_queue : (Nat → Int32)) (x0_totals : (Nat → Int32)) : Option (Int32 × (Int32 × (Nat → Nat → Int32) × (Nat → Int32) × (Nat → Int32) × Int32 × (Nat → Nat → Int32) × Int32 × (Nat → Nat → Int32) × Int32 × Int32 × Int32 × Int32 × Int64 × Int32 × (Nat → Int32))) :=
  (ck x0_goods 8).bind fun q73 => (fX7_two n (x0_shelf, x0_rowSort, x0_rowSize, x0_rows, x0_moved, x0_shown, x0_tape, x0_tapeSize, x0_refused, x0_lines, x0_line, x0_changes, x0_coins, x0_goods, x0_good, x0_works, x0_work, x0_years, x0_gone, x0_spent, x0_at, x0_token, x0_from, x0_figures, x0_fault, x0_numbers, x0_statements, x0_left, x0_far, x0_tons, x0_way, x0_steps, x0_met, x0_queue, x0_totals) 3 (x0_good q73)).bind (u3 fun v74 G75 g81 => u5 (fun g76 g77 g78 g79 g80 => if v74 = 0 then (some (0, (x0_lines, x0_line, x0_changes, x0_coins, x0_goods, (va_up x0_good q73 g81), x0_works, x0_work, x0_years, g76, g77, g78, g79, g80, x0_numbers))) else ((ck x0_goods 8).bind fun q83 => (fX7_number n (x0_shelf, x0_rowSort, x0_rowSize, x0_rows, x0_moved, x0_shown, x0_tape, x0_tapeSize, x0_refused, x0_lines, x0_line, x0_changes, x0_coins, x0_goods, (va_up x0_good q73 g81), x0_works, x0_work, x0_years, x0_gone, x0_spent, g76, g77, g78, g79, g80, x0_numbers, x0_statements, x0_left, x0_far, x0_tons, x0_way, x0_steps, x0_met, x0_queue, x0_totals) 3 ((va_up x0_good q73 g81) q83) (2) (1) (99)).bind (u3 fun v84 G85 g91 => u5 (fun g86 g87 g88 g89 g90 => if v84 = 0 then (some (0, (x0_lines, x0_line, x0_changes, x0_coins, x0_goods, (va_up (va_up x0_good q73 g81) q83 g91), x0_works, x0_work, x0_years, g86, g87, g88, g89, g90, x0_numbers))) else (some (1, (x0_lines, x0_line, x0_changes, x0_coins, (x0_goods + 1), (va_up (va_up x0_good q73 g81) q83 g91), x0_works, x0_work, x0_years, g86, g87, g88, g89, g90, x0_numbers)))) G85))) G75)
def sWork (n : Nat) (x0_shelf : (Nat → Int32)) (x0_rowSort : (Nat → Int32)) (x0_rowSize : (Nat → Int32)) (x0_rows : (Nat → Nat → Int64)) (x0_moved : (Nat → Int64)) (x0_shown : (Nat → Int32)) (x0_tape : (Nat → Int32)) (x0_tapeSize : Int32) (x0_refused : (Nat → Int32)) (x0_lines : Int32) (x0_line : (Nat → Nat → Int32)) (x0_changes : (Nat → Int32)) (x0_coins : (Nat → Int32)) (x0_goods : Int32) (x0_good : (Nat → Nat → Int32)) (x0_works : Int32) (x0_work : (Nat → Nat → Int32)) (x0_years : Int32) (x0_gone : Int32) (x0_spent : Int32) (x0_at : Int32) (x0_token : Int32) (x0_from : Int32) (x0_figures : Int64) (x0_fault : Int32) (x0_numbers : (Nat → Int32)) (x0_statements : Int32) (x0_left : (Nat → Int32)) (x0_far : (Nat → Int32)) (x0_tons : Int32) (x0_way : (Nat → Int32)) (x0_steps : Int32) (x0_met : Int64) (x0_queue : (Nat → Int32)) (x0_totals : (Nat → Int32)) : Option (Int32 × (Int32 × (Nat → Nat → Int32) × (Nat → Int32) × (Nat → Int32) × Int32 × (Nat → Nat → Int32) × Int32 × (Nat → Nat → Int32) × Int32 × Int32 × Int32 × Int32 × Int64 × Int32 × (Nat → Int32))) :=
  (ck x0_works 7).bind fun q61 => (fX7_workTold n (x0_shelf, x0_rowSort, x0_rowSize, x0_rows, x0_moved, x0_shown, x0_tape, x0_tapeSize, x0_refused, x0_lines, x0_line, x0_changes, x0_coins, x0_goods, x0_good, x0_works, x0_work, x0_years, x0_gone, x0_spent, x0_at, x0_token, x0_from, x0_figures, x0_fault, x0_numbers, x0_statements, x0_left, x0_far, x0_tons, x0_way, x0_steps, x0_met, x0_queue, x0_totals) 5 (x0_work q61)).bind (u3 fun v62 G63 g70 => u6 (fun g64 g65 g66 g67 g68 g69 => (zb v62).bind fun v72 => some (v72, (x0_lines, x0_line, x0_changes, x0_coins, x0_goods, x0_good, g64, (va_up x0_work q61 g70), x0_years, g65, g66, g67, g68, g69, x0_numbers))) G63)
def sYears (n : Nat) (x0_shelf : (Nat → Int32)) (x0_rowSort : (Nat → Int32)) (x0_rowSize : (Nat → Int32)) (x0_rows : (Nat → Nat → Int64)) (x0_moved : (Nat → Int64)) (x0_shown : (Nat → Int32)) (x0_tape : (Nat → Int32)) (x0_tapeSize : Int32) (x0_refused : (Nat → Int32)) (x0_lines : Int32) (x0_line : (Nat → Nat → Int32)) (x0_changes : (Nat → Int32)) (x0_coins : (Nat → Int32)) (x0_goods : Int32) (x0_good : (Nat → Nat → Int32)) (x0_works : Int32) (x0_work : (Nat → Nat → Int32)) (x0_years : Int32) (x0_gone : Int32) (x0_spent : Int32) (x0_at : Int32) (x0_token : Int32) (x0_from : Int32) (x0_figures : Int64) (x0_fault : Int32) (x0_numbers : (Nat → Int32)) (x0_statements : Int32) (x0_left : (Nat → Int32)) (x0_far : (Nat → Int32)) (x0_tons : Int32) (x0_way : (Nat → Int32)) (x0_steps : Int32) (x0_met : Int64) (x0_queue : (Nat → Int32)) (x0_totals : (Nat → Int32)) : Option (Int32 × (Int32 × (Nat → Nat → Int32) × (Nat → Int32) × (Nat → Int32) × Int32 × (Nat → Nat → Int32) × Int32 × (Nat → Nat → Int32) × Int32 × Int32 × Int32 × Int32 × Int64 × Int32 × (Nat → Int32))) :=
  (fX7_toldN n (x0_shelf, x0_rowSort, x0_rowSize, x0_rows, x0_moved, x0_shown, x0_tape, x0_tapeSize, x0_refused, x0_lines, x0_line, x0_changes, x0_coins, x0_goods, x0_good, x0_works, x0_work, x0_years, x0_gone, x0_spent, x0_at, x0_token, x0_from, x0_figures, x0_fault, x0_numbers, x0_statements, x0_left, x0_far, x0_tons, x0_way, x0_steps, x0_met, x0_queue, x0_totals) 19 (0) (1) (30)).bind (u2 fun v11 G12 => u6 (fun g13 g14 g15 g16 g17 g18 => if v11 = 0 then ((zb v11).bind fun v20 => some (v20, (x0_lines, x0_line, x0_changes, x0_coins, x0_goods, x0_good, x0_works, x0_work, x0_years, g13, g14, g15, g16, g17, g18))) else ((rd 2 g18 (0)).bind fun v21 => (zb v11).bind fun v22 => some (v22, (x0_lines, x0_line, x0_changes, x0_coins, x0_goods, x0_good, x0_works, x0_work, v21, g13, g14, g15, g16, g17, g18)))) G12)
def sCoin (n : Nat) (x0_shelf : (Nat → Int32)) (x0_rowSort : (Nat → Int32)) (x0_rowSize : (Nat → Int32)) (x0_rows : (Nat → Nat → Int64)) (x0_moved : (Nat → Int64)) (x0_shown : (Nat → Int32)) (x0_tape : (Nat → Int32)) (x0_tapeSize : Int32) (x0_refused : (Nat → Int32)) (x0_lines : Int32) (x0_line : (Nat → Nat → Int32)) (x0_changes : (Nat → Int32)) (x0_coins : (Nat → Int32)) (x0_goods : Int32) (x0_good : (Nat → Nat → Int32)) (x0_works : Int32) (x0_work : (Nat → Nat → Int32)) (x0_years : Int32) (x0_gone : Int32) (x0_spent : Int32) (x0_at : Int32) (x0_token : Int32) (x0_from : Int32) (x0_figures : Int64) (x0_fault : Int32) (x0_numbers : (Nat → Int32)) (x0_statements : Int32) (x0_left : (Nat → Int32)) (x0_far : (Nat → Int32)) (x0_tons : Int32) (x0_way : (Nat → Int32)) (x0_steps : Int32) (x0_met : Int64) (x0_queue : (Nat → Int32)) (x0_totals : (Nat → Int32)) : Option (Int32 × (Int32 × (Nat → Nat → Int32) × (Nat → Int32) × (Nat → Int32) × Int32 × (Nat → Nat → Int32) × Int32 × (Nat → Nat → Int32) × Int32 × Int32 × Int32 × Int32 × Int64 × Int32 × (Nat → Int32))) :=
  (fX7_toldN n (x0_shelf, x0_rowSort, x0_rowSize, x0_rows, x0_moved, x0_shown, x0_tape, x0_tapeSize, x0_refused, x0_lines, x0_line, x0_changes, x0_coins, x0_goods, x0_good, x0_works, x0_work, x0_years, x0_gone, x0_spent, x0_at, x0_token, x0_from, x0_figures, x0_fault, x0_numbers, x0_statements, x0_left, x0_far, x0_tons, x0_way, x0_steps, x0_met, x0_queue, x0_totals) 18 (0) (0) (2)).bind (u2 fun v23 G24 => u6 (fun g25 g26 g27 g28 g29 g30 => if v23 = 0 then (some (0, (x0_lines, x0_line, x0_changes, x0_coins, x0_goods, x0_good, x0_works, x0_work, x0_years, g25, g26, g27, g28, g29, g30))) else ((rd 2 g30 (0)).bind fun v32 => (fX7_numberO n (x0_shelf, x0_rowSort, x0_rowSize, x0_rows, x0_moved, x0_shown, x0_tape, x0_tapeSize, x0_refused, x0_lines, x0_line, x0_changes, x0_coins, x0_goods, x0_good, x0_works, x0_work, x0_years, x0_gone, x0_spent, g25, g26, g27, g28, g29, g30, x0_statements, x0_left, x0_far, x0_tons, x0_way, x0_steps, x0_met, x0_queue, x0_totals) v32 (0) (9)).bind (u2 fun v33 G34 => u6 (fun g35 g36 g37 g38 g39 g40 => if v33 = 0 then (some (0, (x0_lines, x0_line, x0_changes, g35, x0_goods, x0_good, x0_works, x0_work, x0_years, g36, g37, g38, g39, g40, g30))) else (some (1, (x0_lines, x0_line, x0_changes, g35, x0_goods, x0_good, x0_works, x0_work, x0_years, g36, g37, g38, g39, g40, g30)))) G34))) G24)
def sChange (n : Nat) (x0_shelf : (Nat → Int32)) (x0_rowSort : (Nat → Int32)) (x0_rowSize : (Nat → Int32)) (x0_rows : (Nat → Nat → Int64)) (x0_moved : (Nat → Int64)) (x0_shown : (Nat → Int32)) (x0_tape : (Nat → Int32)) (x0_tapeSize : Int32) (x0_refused : (Nat → Int32)) (x0_lines : Int32) (x0_line : (Nat → Nat → Int32)) (x0_changes : (Nat → Int32)) (x0_coins : (Nat → Int32)) (x0_goods : Int32) (x0_good : (Nat → Nat → Int32)) (x0_works : Int32) (x0_work : (Nat → Nat → Int32)) (x0_years : Int32) (x0_gone : Int32) (x0_spent : Int32) (x0_at : Int32) (x0_token : Int32) (x0_from : Int32) (x0_figures : Int64) (x0_fault : Int32) (x0_numbers : (Nat → Int32)) (x0_statements : Int32) (x0_left : (Nat → Int32)) (x0_far : (Nat → Int32)) (x0_tons : Int32) (x0_way : (Nat → Int32)) (x0_steps : Int32) (x0_met : Int64) (x0_queue : (Nat → Int32)) (x0_totals : (Nat → Int32)) : Option (Int32 × (Int32 × (Nat → Nat → Int32) × (Nat → Int32) × (Nat → Int32) × Int32 × (Nat → Nat → Int32) × Int32 × (Nat → Nat → Int32) × Int32 × Int32 × Int32 × Int32 × Int64 × Int32 × (Nat → Int32))) :=
  (fX7_toldN n (x0_shelf, x0_rowSort, x0_rowSize, x0_rows, x0_moved, x0_shown, x0_tape, x0_tapeSize, x0_refused, x0_lines, x0_line, x0_changes, x0_coins, x0_goods, x0_good, x0_works, x0_work, x0_years, x0_gone, x0_spent, x0_at, x0_token, x0_from, x0_figures, x0_fault, x0_numbers, x0_statements, x0_left, x0_far, x0_tons, x0_way, x0_steps, x0_met, x0_queue, x0_totals) 17 (0) (0) (11)).bind (u2 fun v42 G43 => u6 (fun g44 g45 g46 g47 g48 g49 => if v42 = 0 then (some (0, (x0_lines, x0_line, x0_changes, x0_coins, x0_goods, x0_good, x0_works, x0_work, x0_years, g44, g45, g46, g47, g48, g49))) else ((rd 2 g49 (0)).bind fun v51 => (fX7_numberC n (x0_shelf, x0_rowSort, x0_rowSize, x0_rows, x0_moved, x0_shown, x0_tape, x0_tapeSize, x0_refused, x0_lines, x0_line, x0_changes, x0_coins, x0_goods, x0_good, x0_works, x0_work, x0_years, x0_gone, x0_spent, g44, g45, g46, g47, g48, g49, x0_statements, x0_left, x0_far, x0_tons, x0_way, x0_steps, x0_met, x0_queue, x0_totals) v51 (0) (99)).bind (u2 fun v52 G53 => u6 (fun g54 g55 g56 g57 g58 g59 => if v52 = 0 then (some (0, (x0_lines, x0_line, g54, x0_coins, x0_goods, x0_good, x0_works, x0_work, x0_years, g55, g56, g57, g58, g59, g49))) else (some (1, (x0_lines, x0_line, g54, x0_coins, x0_goods, x0_good, x0_works, x0_work, x0_years, g55, g56, g57, g58, g59, g49)))) G53))) G43)
theorem st_0 {n : Nat} {x0_shelf : (Nat → Int32)} {x0_rowSort : (Nat → Int32)} {x0_rowSize : (Nat → Int32)} {x0_rows : (Nat → Nat → Int64)} {x0_moved : (Nat → Int64)} {x0_shown : (Nat → Int32)} {x0_tape : (Nat → Int32)} {x0_tapeSize : Int32} {x0_refused : (Nat → Int32)} {x0_lines : Int32} {x0_line : (Nat → Nat → Int32)} {x0_changes : (Nat → Int32)} {x0_coins : (Nat → Int32)} {x0_goods : Int32} {x0_good : (Nat → Nat → Int32)} {x0_works : Int32} {x0_work : (Nat → Nat → Int32)} {x0_years : Int32} {x0_gone : Int32} {x0_spent : Int32} {x0_at : Int32} {x0_token : Int32} {x0_from : Int32} {x0_figures : Int64} {x0_fault : Int32} {x0_numbers : (Nat → Int32)} {x0_statements : Int32} {x0_left : (Nat → Int32)} {x0_far : (Nat → Int32)} {x0_tons : Int32} {x0_way : (Nat → Int32)} {x0_steps : Int32} {x0_met : Int64} {x0_queue : (Nat → Int32)} {x0_totals : (Nat → Int32)} : fX7_statement n (x0_shelf, x0_rowSort, x0_rowSize, x0_rows, x0_moved, x0_shown, x0_tape, x0_tapeSize, x0_refused, x0_lines, x0_line, x0_changes, x0_coins, x0_goods, x0_good, x0_works, x0_work, x0_years, x0_gone, x0_spent, x0_at, x0_token, x0_from, x0_figures, x0_fault, x0_numbers, x0_statements, x0_left, x0_far, x0_tons, x0_way, x0_steps, x0_met, x0_queue, x0_totals) = (fX7_isWord n (x0_shelf, x0_rowSort, x0_rowSize, x0_rows, x0_moved, x0_shown, x0_tape, x0_tapeSize, x0_refused, x0_lines, x0_line, x0_changes, x0_coins, x0_goods, x0_good, x0_works, x0_work, x0_years, x0_gone, x0_spent, x0_at, x0_token, x0_from, x0_figures, x0_fault, x0_numbers, x0_statements, x0_left, x0_far, x0_tons, x0_way, x0_steps, x0_met, x0_queue, x0_totals) 10).bind (fun v1 => if v1 = 0 then (fX7_statement_j114 n x0_shelf x0_rowSort x0_rowSize x0_rows x0_moved x0_shown x0_tape x0_tapeSize x0_refused x0_lines x0_line x0_changes x0_coins x0_goods x0_good x0_works x0_work x0_years x0_gone x0_spent x0_at x0_token x0_from x0_figures x0_fault x0_numbers x0_statements x0_left x0_far x0_tons x0_way x0_steps x0_met x0_queue x0_totals) else (if 20 ≤ x0_lines then (fX7_statement_j114 n x0_shelf x0_rowSort x0_rowSize x0_rows x0_moved x0_shown x0_tape x0_tapeSize x0_refused x0_lines x0_line x0_changes x0_coins x0_goods x0_good x0_works x0_work x0_years x0_gone x0_spent x0_at x0_token x0_from x0_figures x0_fault x0_numbers x0_statements x0_left x0_far x0_tons x0_way x0_steps x0_met x0_queue x0_totals) else sLine n x0_shelf x0_rowSort x0_rowSize x0_rows x0_moved x0_shown x0_tape x0_tapeSize x0_refused x0_lines x0_line x0_changes x0_coins x0_goods x0_good x0_works x0_work x0_years x0_gone x0_spent x0_at x0_token x0_from x0_figures x0_fault x0_numbers x0_statements x0_left x0_far x0_tons x0_way x0_steps x0_met x0_queue x0_totals)) := rfl
theorem st_1 {n : Nat} {x0_shelf : (Nat → Int32)} {x0_rowSort : (Nat → Int32)} {x0_rowSize : (Nat → Int32)} {x0_rows : (Nat → Nat → Int64)} {x0_moved : (Nat → Int64)} {x0_shown : (Nat → Int32)} {x0_tape : (Nat → Int32)} {x0_tapeSize : Int32} {x0_refused : (Nat → Int32)} {x0_lines : Int32} {x0_line : (Nat → Nat → Int32)} {x0_changes : (Nat → Int32)} {x0_coins : (Nat → Int32)} {x0_goods : Int32} {x0_good : (Nat → Nat → Int32)} {x0_works : Int32} {x0_work : (Nat → Nat → Int32)} {x0_years : Int32} {x0_gone : Int32} {x0_spent : Int32} {x0_at : Int32} {x0_token : Int32} {x0_from : Int32} {x0_figures : Int64} {x0_fault : Int32} {x0_numbers : (Nat → Int32)} {x0_statements : Int32} {x0_left : (Nat → Int32)} {x0_far : (Nat → Int32)} {x0_tons : Int32} {x0_way : (Nat → Int32)} {x0_steps : Int32} {x0_met : Int64} {x0_queue : (Nat → Int32)} {x0_totals : (Nat → Int32)} : fX7_statement_j114 n x0_shelf x0_rowSort x0_rowSize x0_rows x0_moved x0_shown x0_tape x0_tapeSize x0_refused x0_lines x0_line x0_changes x0_coins x0_goods x0_good x0_works x0_work x0_years x0_gone x0_spent x0_at x0_token x0_from x0_figures x0_fault x0_numbers x0_statements x0_left x0_far x0_tons x0_way x0_steps x0_met x0_queue x0_totals = (fX7_isWord n (x0_shelf, x0_rowSort, x0_rowSize, x0_rows, x0_moved, x0_shown, x0_tape, x0_tapeSize, x0_refused, x0_lines, x0_line, x0_changes, x0_coins, x0_goods, x0_good, x0_works, x0_work, x0_years, x0_gone, x0_spent, x0_at, x0_token, x0_from, x0_figures, x0_fault, x0_numbers, x0_statements, x0_left, x0_far, x0_tons, x0_way, x0_steps, x0_met, x0_queue, x0_totals) 15).bind (fun v1 => if v1 = 0 then (fX7_statement_j182 n x0_shelf x0_rowSort x0_rowSize x0_rows x0_moved x0_shown x0_tape x0_tapeSize x0_refused x0_lines x0_line x0_changes x0_coins x0_goods x0_good x0_works x0_work x0_years x0_gone x0_spent x0_at x0_token x0_from x0_figures x0_fault x0_numbers x0_statements x0_left x0_far x0_tons x0_way x0_steps x0_met x0_queue x0_totals) else (if 8 ≤ x0_goods then (fX7_statement_j182 n x0_shelf x0_rowSort x0_rowSize x0_rows x0_moved x0_shown x0_tape x0_tapeSize x0_refused x0_lines x0_line x0_changes x0_coins x0_goods x0_good x0_works x0_work x0_years x0_gone x0_spent x0_at x0_token x0_from x0_figures x0_fault x0_numbers x0_statements x0_left x0_far x0_tons x0_way x0_steps x0_met x0_queue x0_totals) else sGoods n x0_shelf x0_rowSort x0_rowSize x0_rows x0_moved x0_shown x0_tape x0_tapeSize x0_refused x0_lines x0_line x0_changes x0_coins x0_goods x0_good x0_works x0_work x0_years x0_gone x0_spent x0_at x0_token x0_from x0_figures x0_fault x0_numbers x0_statements x0_left x0_far x0_tons x0_way x0_steps x0_met x0_queue x0_totals)) := rfl
theorem st_2 {n : Nat} {x0_shelf : (Nat → Int32)} {x0_rowSort : (Nat → Int32)} {x0_rowSize : (Nat → Int32)} {x0_rows : (Nat → Nat → Int64)} {x0_moved : (Nat → Int64)} {x0_shown : (Nat → Int32)} {x0_tape : (Nat → Int32)} {x0_tapeSize : Int32} {x0_refused : (Nat → Int32)} {x0_lines : Int32} {x0_line : (Nat → Nat → Int32)} {x0_changes : (Nat → Int32)} {x0_coins : (Nat → Int32)} {x0_goods : Int32} {x0_good : (Nat → Nat → Int32)} {x0_works : Int32} {x0_work : (Nat → Nat → Int32)} {x0_years : Int32} {x0_gone : Int32} {x0_spent : Int32} {x0_at : Int32} {x0_token : Int32} {x0_from : Int32} {x0_figures : Int64} {x0_fault : Int32} {x0_numbers : (Nat → Int32)} {x0_statements : Int32} {x0_left : (Nat → Int32)} {x0_far : (Nat → Int32)} {x0_tons : Int32} {x0_way : (Nat → Int32)} {x0_steps : Int32} {x0_met : Int64} {x0_queue : (Nat → Int32)} {x0_totals : (Nat → Int32)} : fX7_statement_j182 n x0_shelf x0_rowSort x0_rowSize x0_rows x0_moved x0_shown x0_tape x0_tapeSize x0_refused x0_lines x0_line x0_changes x0_coins x0_goods x0_good x0_works x0_work x0_years x0_gone x0_spent x0_at x0_token x0_from x0_figures x0_fault x0_numbers x0_statements x0_left x0_far x0_tons x0_way x0_steps x0_met x0_queue x0_totals = (fX7_isWord n (x0_shelf, x0_rowSort, x0_rowSize, x0_rows, x0_moved, x0_shown, x0_tape, x0_tapeSize, x0_refused, x0_lines, x0_line, x0_changes, x0_coins, x0_goods, x0_good, x0_works, x0_work, x0_years, x0_gone, x0_spent, x0_at, x0_token, x0_from, x0_figures, x0_fault, x0_numbers, x0_statements, x0_left, x0_far, x0_tons, x0_way, x0_steps, x0_met, x0_queue, x0_totals) 16).bind (fun v1 => if v1 = 0 then (fX7_statement_j214 n x0_shelf x0_rowSort x0_rowSize x0_rows x0_moved x0_shown x0_tape x0_tapeSize x0_refused x0_lines x0_line x0_changes x0_coins x0_goods x0_good x0_works x0_work x0_years x0_gone x0_spent x0_at x0_token x0_from x0_figures x0_fault x0_numbers x0_statements x0_left x0_far x0_tons x0_way x0_steps x0_met x0_queue x0_totals) else (if 7 ≤ x0_works then (fX7_statement_j214 n x0_shelf x0_rowSort x0_rowSize x0_rows x0_moved x0_shown x0_tape x0_tapeSize x0_refused x0_lines x0_line x0_changes x0_coins x0_goods x0_good x0_works x0_work x0_years x0_gone x0_spent x0_at x0_token x0_from x0_figures x0_fault x0_numbers x0_statements x0_left x0_far x0_tons x0_way x0_steps x0_met x0_queue x0_totals) else sWork n x0_shelf x0_rowSort x0_rowSize x0_rows x0_moved x0_shown x0_tape x0_tapeSize x0_refused x0_lines x0_line x0_changes x0_coins x0_goods x0_good x0_works x0_work x0_years x0_gone x0_spent x0_at x0_token x0_from x0_figures x0_fault x0_numbers x0_statements x0_left x0_far x0_tons x0_way x0_steps x0_met x0_queue x0_totals)) := rfl
theorem st_3 {n : Nat} {x0_shelf : (Nat → Int32)} {x0_rowSort : (Nat → Int32)} {x0_rowSize : (Nat → Int32)} {x0_rows : (Nat → Nat → Int64)} {x0_moved : (Nat → Int64)} {x0_shown : (Nat → Int32)} {x0_tape : (Nat → Int32)} {x0_tapeSize : Int32} {x0_refused : (Nat → Int32)} {x0_lines : Int32} {x0_line : (Nat → Nat → Int32)} {x0_changes : (Nat → Int32)} {x0_coins : (Nat → Int32)} {x0_goods : Int32} {x0_good : (Nat → Nat → Int32)} {x0_works : Int32} {x0_work : (Nat → Nat → Int32)} {x0_years : Int32} {x0_gone : Int32} {x0_spent : Int32} {x0_at : Int32} {x0_token : Int32} {x0_from : Int32} {x0_figures : Int64} {x0_fault : Int32} {x0_numbers : (Nat → Int32)} {x0_statements : Int32} {x0_left : (Nat → Int32)} {x0_far : (Nat → Int32)} {x0_tons : Int32} {x0_way : (Nat → Int32)} {x0_steps : Int32} {x0_met : Int64} {x0_queue : (Nat → Int32)} {x0_totals : (Nat → Int32)} : fX7_statement_j214 n x0_shelf x0_rowSort x0_rowSize x0_rows x0_moved x0_shown x0_tape x0_tapeSize x0_refused x0_lines x0_line x0_changes x0_coins x0_goods x0_good x0_works x0_work x0_years x0_gone x0_spent x0_at x0_token x0_from x0_figures x0_fault x0_numbers x0_statements x0_left x0_far x0_tons x0_way x0_steps x0_met x0_queue x0_totals = (fX7_isWord n (x0_shelf, x0_rowSort, x0_rowSize, x0_rows, x0_moved, x0_shown, x0_tape, x0_tapeSize, x0_refused, x0_lines, x0_line, x0_changes, x0_coins, x0_goods, x0_good, x0_works, x0_work, x0_years, x0_gone, x0_spent, x0_at, x0_token, x0_from, x0_figures, x0_fault, x0_numbers, x0_statements, x0_left, x0_far, x0_tons, x0_way, x0_steps, x0_met, x0_queue, x0_totals) 17).bind (fun v1 => if v1 = 0 then ((fX7_isWord n (x0_shelf, x0_rowSort, x0_rowSize, x0_rows, x0_moved, x0_shown, x0_tape, x0_tapeSize, x0_refused, x0_lines, x0_line, x0_changes, x0_coins, x0_goods, x0_good, x0_works, x0_work, x0_years, x0_gone, x0_spent, x0_at, x0_token, x0_from, x0_figures, x0_fault, x0_numbers, x0_statements, x0_left, x0_far, x0_tons, x0_way, x0_steps, x0_met, x0_queue, x0_totals) 18).bind (fun v9 => if v9 = 0 then sYears n x0_shelf x0_rowSort x0_rowSize x0_rows x0_moved x0_shown x0_tape x0_tapeSize x0_refused x0_lines x0_line x0_changes x0_coins x0_goods x0_good x0_works x0_work x0_years x0_gone x0_spent x0_at x0_token x0_from x0_figures x0_fault x0_numbers x0_statements x0_left x0_far x0_tons x0_way x0_steps x0_met x0_queue x0_totals else sCoin n x0_shelf x0_rowSort x0_rowSize x0_rows x0_moved x0_shown x0_tape x0_tapeSize x0_refused x0_lines x0_line x0_changes x0_coins x0_goods x0_good x0_works x0_work x0_years x0_gone x0_spent x0_at x0_token x0_from x0_figures x0_fault x0_numbers x0_statements x0_left x0_far x0_tons x0_way x0_steps x0_met x0_queue x0_totals)) else sChange n x0_shelf x0_rowSort x0_rowSize x0_rows x0_moved x0_shown x0_tape x0_tapeSize x0_refused x0_lines x0_line x0_changes x0_coins x0_goods x0_good x0_works x0_work x0_years x0_gone x0_spent x0_at x0_token x0_from x0_figures x0_fault x0_numbers x0_statements x0_left x0_far x0_tons x0_way x0_steps x0_met x0_queue x0_totals) := rfl
end
section
/-! numbers into the other rows -/
theorem numN2 {n : Nat} {x0_bytes : (Nat → Int32)} {x0_size : Int32} {x0_start : Int32} {x0_end : Int32} {x0_token : Int32} {x0_value : Int32} {m_shelf : (Nat → Int32)} {m_rowSort : (Nat → Int32)} {m_rowSize : (Nat → Int32)} {m_rows : (Nat → Nat → Int64)} {m_moved : (Nat → Int64)} {m_shown : (Nat → Int32)} {m_refused : (Nat → Int32)} {m_lines : Int32} {m_line : (Nat → Nat → Int32)} {m_changes : (Nat → Int32)} {m_coins : (Nat → Int32)} {m_goods : Int32} {m_good : (Nat → Nat → Int32)} {m_works : Int32} {m_work : (Nat → Nat → Int32)} {m_years : Int32} {m_gone : Int32} {m_spent : Int32} {m_fault : Int32} {m_numbers : (Nat → Int32)} {m_statements : Int32} {m_left : (Nat → Int32)} {m_far : (Nat → Int32)} {m_tons : Int32} {m_way : (Nat → Int32)} {m_steps : Int32} {m_met : Int64} {m_queue : (Nat → Int32)} {m_totals : (Nat → Int32)} {i lo hi : Int32} (hn : 1000000000000 ≤ n) (hs : 0 ≤ x0_size ∧ x0_size ≤ 250) (hT : TkOk x0_size x0_start x0_end x0_token x0_value) (hlo : 0 ≤ lo) (hhi : hi ≤ 999) (hi' : 0 ≤ i ∧ i < 2) : Sf2 (fX3_number n (x0_bytes, x0_size, x0_start, x0_end, x0_token, x0_value) lo hi) (fX7_numberN n (m_shelf, m_rowSort, m_rowSize, m_rows, m_moved, m_shown, x0_bytes, x0_size, m_refused, m_lines, m_line, m_changes, m_coins, m_goods, m_good, m_works, m_work, m_years, m_gone, m_spent, x0_end, x0_token, x0_start, (figs x0_token x0_value), m_fault, m_numbers, m_statements, m_left, m_far, m_tons, m_way, m_steps, m_met, m_queue, m_totals) i lo hi) (fun r q => NmR x0_size x0_start x0_end x0_token x0_value lo hi r q.1 (q.2.1, q.2.2.1, q.2.2.2.1, q.2.2.2.2.1, q.2.2.2.2.2.1) m_fault ∧ (q.1 = 0 ∨ q.2.2.2.2.2.2 = va_up m_numbers i.toNatClampNeg r.1)) := by
  unfold fX3_number fX7_numberN
  dsimp only [u35, u6]
  have bad : Sf2 (some ((-1 : Int32), x0_start, x0_end, x0_token, x0_value)) ((fX7_wrong (m_shelf, m_rowSort, m_rowSize, m_rows, m_moved, m_shown, x0_bytes, x0_size, m_refused, m_lines, m_line, m_changes, m_coins, m_goods, m_good, m_works, m_work, m_years, m_gone, m_spent, x0_end, x0_token, x0_start, (figs x0_token x0_value), m_fault, m_numbers, m_statements, m_left, m_far, m_tons, m_way, m_steps, m_met, m_queue, m_totals)).bind (u2 fun v1 g2 => (zb v1).bind fun v4 => some (v4, (x0_end, x0_token, x0_start, (figs x0_token x0_value), g2, m_numbers)))) (fun r q => NmR x0_size x0_start x0_end x0_token x0_value lo hi r q.1 (q.2.1, q.2.2.1, q.2.2.2.1, q.2.2.2.2.1, q.2.2.2.2.2.1) m_fault ∧ (q.1 = 0 ∨ q.2.2.2.2.2.2 = va_up m_numbers i.toNatClampNeg r.1)) := ⟨_, _, rfl, rfl, Or.inl ⟨rfl, rfl, rfl⟩, Or.inl rfl⟩
  refine Sf2.ite Iff.rfl (fun ht => ?_) (fun ht => bad)
  obtain ⟨r, e1, e2, h⟩ := fg_in (hT.2.2.1 ht) hlo hhi
  have ef : figs x0_token x0_value = (fg x0_value).toInt64 := if_pos ht
  rw [e1, ef, e2]
  show Sf2 (if r = 0 then _ else _) (if r = 0 then _ else _) _
  refine Sf2.ite Iff.rfl (fun hr => ?_) (fun hr => ?_)
  · rw [← ef]
    exact bad
  · obtain ⟨_, hv, ev⟩ : r = 1 ∧ (lo ≤ x0_value ∧ x0_value ≤ hi) ∧ fg x0_value = x0_value := by
      rcases h with h | h
      · exact absurd h hr
      · exact h
    rw [ev]
    refine Sf2.r (P := fun f => f = va_up m_numbers i.toNatClampNeg x0_value.toInt64.toInt32) (Sf.wrP (M := 2) rfl hi') (fun f7 e7 => ?_)
    rw [Int32.toInt32_toInt64] at e7
    refine Sf2.bind (lookNext hn hs ⟨Int32.le_trans hT.1.1 hT.1.2, hT.2.1⟩ rfl rfl rfl) ?_
    rintro ⟨g3, g4, g5, g6⟩ ⟨h8, h9, h10, h11⟩ ⟨eq, ok, le⟩
    cases eq
    exact Sf2.ok ⟨Or.inr ⟨hv, ht, rfl, rfl, rfl, ok, le⟩, Or.inr e7⟩
theorem numC2 {n : Nat} {x0_bytes : (Nat → Int32)} {x0_size : Int32} {x0_start : Int32} {x0_end : Int32} {x0_token : Int32} {x0_value : Int32} {m_shelf : (Nat → Int32)} {m_rowSort : (Nat → Int32)} {m_rowSize : (Nat → Int32)} {m_rows : (Nat → Nat → Int64)} {m_moved : (Nat → Int64)} {m_shown : (Nat → Int32)} {m_refused : (Nat → Int32)} {m_lines : Int32} {m_line : (Nat → Nat → Int32)} {m_changes : (Nat → Int32)} {m_coins : (Nat → Int32)} {m_goods : Int32} {m_good : (Nat → Nat → Int32)} {m_works : Int32} {m_work : (Nat → Nat → Int32)} {m_years : Int32} {m_gone : Int32} {m_spent : Int32} {m_fault : Int32} {m_numbers : (Nat → Int32)} {m_statements : Int32} {m_left : (Nat → Int32)} {m_far : (Nat → Int32)} {m_tons : Int32} {m_way : (Nat → Int32)} {m_steps : Int32} {m_met : Int64} {m_queue : (Nat → Int32)} {m_totals : (Nat → Int32)} {i lo hi : Int32} (hn : 1000000000000 ≤ n) (hs : 0 ≤ x0_size ∧ x0_size ≤ 250) (hT : TkOk x0_size x0_start x0_end x0_token x0_value) (hlo : 0 ≤ lo) (hhi : hi ≤ 999) (hi' : 0 ≤ i ∧ i < 12) : Sf2 (fX3_number n (x0_bytes, x0_size, x0_start, x0_end, x0_token, x0_value) lo hi) (fX7_numberC n (m_shelf, m_rowSort, m_rowSize, m_rows, m_moved, m_shown, x0_bytes, x0_size, m_refused, m_lines, m_line, m_changes, m_coins, m_goods, m_good, m_works, m_work, m_years, m_gone, m_spent, x0_end, x0_token, x0_start, (figs x0_token x0_value), m_fault, m_numbers, m_statements, m_left, m_far, m_tons, m_way, m_steps, m_met, m_queue, m_totals) i lo hi) (fun r q => NmR x0_size x0_start x0_end x0_token x0_value lo hi r q.1 q.2.2 m_fault ∧ (q.1 = 0 ∨ q.2.1 = va_up m_changes i.toNatClampNeg r.1)) := by
  unfold fX3_number fX7_numberC
  dsimp only [u35, u6]
  have bad : Sf2 (some ((-1 : Int32), x0_start, x0_end, x0_token, x0_value)) ((fX7_wrong (m_shelf, m_rowSort, m_rowSize, m_rows, m_moved, m_shown, x0_bytes, x0_size, m_refused, m_lines, m_line, m_changes, m_coins, m_goods, m_good, m_works, m_work, m_years, m_gone, m_spent, x0_end, x0_token, x0_start, (figs x0_token x0_value), m_fault, m_numbers, m_statements, m_left, m_far, m_tons, m_way, m_steps, m_met, m_queue, m_totals)).bind (u2 fun v1 g2 => (zb v1).bind fun v4 => some (v4, (m_changes, x0_end, x0_token, x0_start, (figs x0_token x0_value), g2)))) (fun r q => NmR x0_size x0_start x0_end x0_token x0_value lo hi r q.1 q.2.2 m_fault ∧ (q.1 = 0 ∨ q.2.1 = va_up m_changes i.toNatClampNeg r.1)) := ⟨_, _, rfl, rfl, Or.inl ⟨rfl, rfl, rfl⟩, Or.inl rfl⟩
  refine Sf2.ite Iff.rfl (fun ht => ?_) (fun ht => bad)
  obtain ⟨r, e1, e2, h⟩ := fg_in (hT.2.2.1 ht) hlo hhi
  have ef : figs x0_token x0_value = (fg x0_value).toInt64 := if_pos ht
  rw [e1, ef, e2]
  show Sf2 (if r = 0 then _ else _) (if r = 0 then _ else _) _
  refine Sf2.ite Iff.rfl (fun hr => ?_) (fun hr => ?_)
  · rw [← ef]
    exact bad
  · obtain ⟨_, hv, ev⟩ : r = 1 ∧ (lo ≤ x0_value ∧ x0_value ≤ hi) ∧ fg x0_value = x0_value := by
      rcases h with h | h
      · exact absurd h hr
      · exact h
    rw [ev]
    refine Sf2.r (P := fun f => f = va_up m_changes i.toNatClampNeg x0_value.toInt64.toInt32) (Sf.wrP (M := 12) rfl hi') (fun f7 e7 => ?_)
    rw [Int32.toInt32_toInt64] at e7
    refine Sf2.bind (lookNext hn hs ⟨Int32.le_trans hT.1.1 hT.1.2, hT.2.1⟩ rfl rfl rfl) ?_
    rintro ⟨g3, g4, g5, g6⟩ ⟨h8, h9, h10, h11⟩ ⟨eq, ok, le⟩
    cases eq
    exact Sf2.ok ⟨Or.inr ⟨hv, ht, rfl, rfl, rfl, ok, le⟩, Or.inr e7⟩
theorem numO2 {n : Nat} {x0_bytes : (Nat → Int32)} {x0_size : Int32} {x0_start : Int32} {x0_end : Int32} {x0_token : Int32} {x0_value : Int32} {m_shelf : (Nat → Int32)} {m_rowSort : (Nat → Int32)} {m_rowSize : (Nat → Int32)} {m_rows : (Nat → Nat → Int64)} {m_moved : (Nat → Int64)} {m_shown : (Nat → Int32)} {m_refused : (Nat → Int32)} {m_lines : Int32} {m_line : (Nat → Nat → Int32)} {m_changes : (Nat → Int32)} {m_coins : (Nat → Int32)} {m_goods : Int32} {m_good : (Nat → Nat → Int32)} {m_works : Int32} {m_work : (Nat → Nat → Int32)} {m_years : Int32} {m_gone : Int32} {m_spent : Int32} {m_fault : Int32} {m_numbers : (Nat → Int32)} {m_statements : Int32} {m_left : (Nat → Int32)} {m_far : (Nat → Int32)} {m_tons : Int32} {m_way : (Nat → Int32)} {m_steps : Int32} {m_met : Int64} {m_queue : (Nat → Int32)} {m_totals : (Nat → Int32)} {i lo hi : Int32} (hn : 1000000000000 ≤ n) (hs : 0 ≤ x0_size ∧ x0_size ≤ 250) (hT : TkOk x0_size x0_start x0_end x0_token x0_value) (hlo : 0 ≤ lo) (hhi : hi ≤ 999) (hi' : 0 ≤ i ∧ i < 3) : Sf2 (fX3_number n (x0_bytes, x0_size, x0_start, x0_end, x0_token, x0_value) lo hi) (fX7_numberO n (m_shelf, m_rowSort, m_rowSize, m_rows, m_moved, m_shown, x0_bytes, x0_size, m_refused, m_lines, m_line, m_changes, m_coins, m_goods, m_good, m_works, m_work, m_years, m_gone, m_spent, x0_end, x0_token, x0_start, (figs x0_token x0_value), m_fault, m_numbers, m_statements, m_left, m_far, m_tons, m_way, m_steps, m_met, m_queue, m_totals) i lo hi) (fun r q => NmR x0_size x0_start x0_end x0_token x0_value lo hi r q.1 q.2.2 m_fault ∧ (q.1 = 0 ∨ q.2.1 = va_up m_coins i.toNatClampNeg r.1)) := by
  unfold fX3_number fX7_numberO
  dsimp only [u35, u6]
  have bad : Sf2 (some ((-1 : Int32), x0_start, x0_end, x0_token, x0_value)) ((fX7_wrong (m_shelf, m_rowSort, m_rowSize, m_rows, m_moved, m_shown, x0_bytes, x0_size, m_refused, m_lines, m_line, m_changes, m_coins, m_goods, m_good, m_works, m_work, m_years, m_gone, m_spent, x0_end, x0_token, x0_start, (figs x0_token x0_value), m_fault, m_numbers, m_statements, m_left, m_far, m_tons, m_way, m_steps, m_met, m_queue, m_totals)).bind (u2 fun v1 g2 => (zb v1).bind fun v4 => some (v4, (m_coins, x0_end, x0_token, x0_start, (figs x0_token x0_value), g2)))) (fun r q => NmR x0_size x0_start x0_end x0_token x0_value lo hi r q.1 q.2.2 m_fault ∧ (q.1 = 0 ∨ q.2.1 = va_up m_coins i.toNatClampNeg r.1)) := ⟨_, _, rfl, rfl, Or.inl ⟨rfl, rfl, rfl⟩, Or.inl rfl⟩
  refine Sf2.ite Iff.rfl (fun ht => ?_) (fun ht => bad)
  obtain ⟨r, e1, e2, h⟩ := fg_in (hT.2.2.1 ht) hlo hhi
  have ef : figs x0_token x0_value = (fg x0_value).toInt64 := if_pos ht
  rw [e1, ef, e2]
  show Sf2 (if r = 0 then _ else _) (if r = 0 then _ else _) _
  refine Sf2.ite Iff.rfl (fun hr => ?_) (fun hr => ?_)
  · rw [← ef]
    exact bad
  · obtain ⟨_, hv, ev⟩ : r = 1 ∧ (lo ≤ x0_value ∧ x0_value ≤ hi) ∧ fg x0_value = x0_value := by
      rcases h with h | h
      · exact absurd h hr
      · exact h
    rw [ev]
    refine Sf2.r (P := fun f => f = va_up m_coins i.toNatClampNeg x0_value.toInt64.toInt32) (Sf.wrP (M := 3) rfl hi') (fun f7 e7 => ?_)
    rw [Int32.toInt32_toInt64] at e7
    refine Sf2.bind (lookNext hn hs ⟨Int32.le_trans hT.1.1 hT.1.2, hT.2.1⟩ rfl rfl rfl) ?_
    rintro ⟨g3, g4, g5, g6⟩ ⟨h8, h9, h10, h11⟩ ⟨eq, ok, le⟩
    cases eq
    exact Sf2.ok ⟨Or.inr ⟨hv, ht, rfl, rfl, rfl, ok, le⟩, Or.inr e7⟩
theorem toldNin {γ δ : Type} {n p p' : Nat} {x0_bytes : (Nat → Int32)} {x0_size : Int32} {x0_start : Int32} {x0_end : Int32} {x0_token : Int32} {x0_value : Int32} {m_shelf : (Nat → Int32)} {m_rowSort : (Nat → Int32)} {m_rowSize : (Nat → Int32)} {m_rows : (Nat → Nat → Int64)} {m_moved : (Nat → Int64)} {m_shown : (Nat → Int32)} {m_refused : (Nat → Int32)} {m_lines : Int32} {m_line : (Nat → Nat → Int32)} {m_changes : (Nat → Int32)} {m_coins : (Nat → Int32)} {m_goods : Int32} {m_good : (Nat → Nat → Int32)} {m_works : Int32} {m_work : (Nat → Nat → Int32)} {m_years : Int32} {m_gone : Int32} {m_spent : Int32} {m_fault : Int32} {m_numbers : (Nat → Int32)} {m_statements : Int32} {m_left : (Nat → Int32)} {m_far : (Nat → Int32)} {m_tons : Int32} {m_way : (Nat → Int32)} {m_steps : Int32} {m_met : Int64} {m_queue : (Nat → Int32)} {m_totals : (Nat → Int32)} {i lo hi v : Int32} {G : Int32 → Int32 → Int32 → Int32 → Int32 → Option γ} {K : Int32 × (Int32 × Int32 × Int32 × Int64 × Int32 × (Nat → Int32)) → Option δ} {S : γ → δ → Prop} (hn : 1000000000000 ≤ n) (hs : 0 ≤ x0_size ∧ x0_size ≤ 250) (hT : TkOk x0_size x0_start x0_end x0_token x0_value) (hlo : 0 ≤ lo) (hhi : hi ≤ 999) (hi' : 0 ≤ i ∧ i < 2) (hl : slen p' = slen p) (hc : schar p' = schar p) (ev : fX3_isWord n (x0_bytes, x0_size, x0_start, x0_end, x0_token, x0_value) p = some v) (hv : ¬ v = 0) (hG : ∀ a b c d f ok q1 q2 q3 q4 q5 row', RdR x0_size x0_end (a, b, c, d, f) ok (q1, q2, q3, q4, q5) m_fault → (ok = 0 ∨ ((lo ≤ a ∧ a ≤ hi) ∧ row' = va_up m_numbers i.toNatClampNeg a)) → Sf2 (G a b c d f) (K (ok, (q1, q2, q3, q4, q5, row'))) S) : Sf2 ((fX3_next n (x0_bytes, x0_size, x0_start, x0_end, x0_token, x0_value)).bind (u4 fun g1 g2 g3 g4 => (fX3_number n (x0_bytes, x0_size, g1, g2, g3, g4) lo hi).bind (u5 fun a b c d f => G a b c d f))) ((fX7_toldN n (m_shelf, m_rowSort, m_rowSize, m_rows, m_moved, m_shown, x0_bytes, x0_size, m_refused, m_lines, m_line, m_changes, m_coins, m_goods, m_good, m_works, m_work, m_years, m_gone, m_spent, x0_end, x0_token, x0_start, (figs x0_token x0_value), m_fault, m_numbers, m_statements, m_left, m_far, m_tons, m_way, m_steps, m_met, m_queue, m_totals) p' i lo hi).bind K) S := by
  unfold fX7_toldN
  dsimp only [u35]
  rw [isWordE hl hc, ev]
  show Sf2 _ ((if v = 0 then _ else _ : Option _).bind K) S
  rw [if_neg hv, Option.bind_assoc]
  refine Sf2.bind (lookNext hn hs ⟨Int32.le_trans hT.1.1 hT.1.2, hT.2.1⟩ rfl rfl rfl) ?_
  rintro ⟨g1, g2, g3, g4⟩ ⟨k1, k2, k3, k4⟩ ⟨eq, ok, le⟩
  cases eq
  try dsimp only [u4]
  rw [Option.bind_assoc]
  refine Sf2.bind (numN2 hn hs ok hlo hhi hi') ?_
  rintro ⟨a, b, c, d, f⟩ ⟨okk, q1, q2, q3, q4, q5, row'⟩ ⟨h1, h2⟩
  have hz : okk = 0 ∨ okk = 1 := by
    rcases h1 with h | h
    · exact Or.inl h.2.1
    · exact Or.inr h.2.2.2.1
  have ez : zb okk = some okk := if_pos hz
  show Sf2 (G a b c d f) (((zb okk).bind _).bind K) S
  rw [ez]
  refine hG a b c d f okk q1 q2 q3 q4 q5 row' (NmR.rd hlo (Int32.le_trans le ok.1.2) h1) ?_
  rcases h2 with h2 | h2
  · exact Or.inl h2
  · rcases h1 with h | h
    · exact Or.inl h.2.1
    · exact Or.inr ⟨h.1, h2⟩
end
section
/-! the statements, one by one -/
theorem line2 {n : Nat} {x0_bytes : (Nat → Int32)} {x0_size : Int32} {x0_start : Int32} {x0_end : Int32} {x0_token : Int32} {x0_value : Int32} {x1_lineCount : Int32} {x1_goodsCount : Int32} {x1_workCount : Int32} {x1_years : Int32} {x1_lines : (Nat → Int32)} {x1_goods : (Nat → Int32)} {x1_works : (Nat → Int32)} {x1_change : (Nat → Int32)} {x1_coin : (Nat → Int32)} {x1_knownFree : (Nat → Int32)} {x1_isKnown : Int32} {m_shelf : (Nat → Int32)} {m_rowSort : (Nat → Int32)} {m_rowSize : (Nat → Int32)} {m_rows : (Nat → Nat → Int64)} {m_moved : (Nat → Int64)} {m_shown : (Nat → Int32)} {m_refused : (Nat → Int32)} {m_lines : Int32} {m_line : (Nat → Nat → Int32)} {m_changes : (Nat → Int32)} {m_coins : (Nat → Int32)} {m_goods : Int32} {m_good : (Nat → Nat → Int32)} {m_works : Int32} {m_work : (Nat → Nat → Int32)} {m_years : Int32} {m_gone : Int32} {m_spent : Int32} {m_fault : Int32} {m_numbers : (Nat → Int32)} {m_statements : Int32} {m_left : (Nat → Int32)} {m_far : (Nat → Int32)} {m_tons : Int32} {m_way : (Nat → Int32)} {m_steps : Int32} {m_met : Int64} {m_queue : (Nat → Int32)} {m_totals : (Nat → Int32)} (hn : 1000000000000 ≤ n) (hs : 0 ≤ x0_size ∧ x0_size ≤ 250) (hT : TkOk x0_size x0_start x0_end x0_token x0_value) (hlc : 0 ≤ x1_lineCount ∧ x1_lineCount ≤ 20) (hlt : ¬ 20 ≤ x1_lineCount) (hA : (LaD x1_lineCount x1_goodsCount x1_workCount x1_years x1_lines x1_goods x1_works x1_change x1_coin m_lines m_line m_changes m_coins m_goods m_good m_works m_work m_years)) : Sf2 (fX3_readLine n (x0_bytes, x0_size, x0_start, x0_end, x0_token, x0_value) (x1_lineCount, x1_goodsCount, x1_workCount, x1_years, x1_lines, x1_goods, x1_works, x1_change, x1_coin, x1_knownFree, x1_isKnown)) (sLine n m_shelf m_rowSort m_rowSize m_rows m_moved m_shown x0_bytes x0_size m_refused m_lines m_line m_changes m_coins m_goods m_good m_works m_work m_years m_gone m_spent x0_end x0_token x0_start (figs x0_token x0_value) m_fault m_numbers m_statements m_left m_far m_tons m_way m_steps m_met m_queue m_totals) (fun r q => StR x0_size x0_end r.1 r.2.1 r.2.2.1 r.2.2.2.1 r.2.2.2.2.1 r.2.2.2.2.2.1 x1_goodsCount x1_workCount x1_years r.2.2.2.2.2.2.1 x1_goods x1_works x1_change x1_coin q.1 q.2.1 q.2.2.1 q.2.2.2.1 q.2.2.2.2.1 q.2.2.2.2.2.1 q.2.2.2.2.2.2.1 q.2.2.2.2.2.2.2.1 q.2.2.2.2.2.2.2.2.1 q.2.2.2.2.2.2.2.2.2.1 q.2.2.2.2.2.2.2.2.2.2.1 q.2.2.2.2.2.2.2.2.2.2.2.1 q.2.2.2.2.2.2.2.2.2.2.2.2.1 q.2.2.2.2.2.2.2.2.2.2.2.2.2.1 q.2.2.2.2.2.2.2.2.2.2.2.2.2.2.1) := by
  obtain ⟨⟨z1, z2, z3, z4⟩, z5, z6, z7, z8, z9, z10⟩ := hA
  have hL : 0 ≤ m_lines ∧ m_lines < 20 := by rw [← z1]; exact ⟨hlc.1, Int32.not_le.mp hlt⟩
  unfold fX3_readLine sLine
  dsimp only [u6, u11]
  refine Sf2.r (P := fun q => q = m_lines.toNatClampNeg) (Sf.ckP rfl hL) (fun q93 e93 => ?_)
  refine Sf2.r (newLineS hL) ?_
  rintro g94 ⟨hg1, hg2⟩
  subst e93
  refine two2 hn hs hT (M := 7) rfl (by decide) ?_
  intro v6 s e t v y ok q row1 h
  unfold fX3_readLine_j28
  rcases h with ⟨hy, ho, hq⟩ | ⟨hy, hv6, hyr, hne, ho, hq, hk, hle, hrow⟩
  · subst hq ho
    rw [if_pos hy]
    exact ⟨_, _, rfl, rfl, Or.inl ⟨rfl, rfl, rfl⟩⟩
  subst hq ho
  rw [if_neg hy]
  try dsimp only [u2, u3, u5, u6]
  rw [if_neg (show ¬ (1 : Int32) = 0 by decide)]
  refine told2 (p := 1) (p' := 11) hn hs hk (by decide) (by decide) (M := 7) rfl (by decide) rfl rfl (isWordS hn hs hk (by decide)) ?_ ?_
  · exact ⟨_, _, rfl, rfl, Or.inl ⟨rfl, rfl, rfl⟩⟩
  intro w s1 e1 t1 v1 ok q row2 h hr2
  rcases h with ⟨hw, ho, hq⟩ | ⟨hw, ho, hq, hk1, hle1⟩
  · subst hq ho
    have hw : w = -1 := hw
    rw [if_pos hw]
    exact ⟨_, _, rfl, rfl, Or.inl ⟨rfl, rfl, rfl⟩⟩
  subst hq ho
  have hw : ¬ w = -1 := hw
  have hk1 : TkOk x0_size s1 e1 t1 v1 := hk1
  have hle1 : e ≤ s1 := hle1
  obtain ⟨_, hr2⟩ : (1 ≤ w ∧ w ≤ 7) ∧ row2 = _ := hr2.resolve_left (by decide)
  rw [if_neg hw]
  try dsimp only [u2, u3, u5, u6]
  rw [if_neg (show ¬ (1 : Int32) = 0 by decide)]
  refine told2 (p := 2) (p' := 12) hn hs hk1 (by decide) (by decide) (M := 7) rfl (by decide) rfl rfl (isWordS hn hs hk1 (by decide)) ?_ ?_
  · exact ⟨_, _, rfl, rfl, Or.inl ⟨rfl, rfl, rfl⟩⟩
  intro mi s2 e2 t2 v2 ok q row3 h hr3
  rcases h with ⟨hm, ho, hq⟩ | ⟨hm, ho, hq, hk2, hle2⟩
  · subst hq ho
    have hm : mi = -1 := hm
    rw [if_pos hm]
    exact ⟨_, _, rfl, rfl, Or.inl ⟨rfl, rfl, rfl⟩⟩
  subst hq ho
  have hm : ¬ mi = -1 := hm
  have hk2 : TkOk x0_size s2 e2 t2 v2 := hk2
  have hle2 : e1 ≤ s2 := hle2
  obtain ⟨_, hr3⟩ : (1 ≤ mi ∧ mi ≤ 60) ∧ row3 = _ := hr3.resolve_left (by decide)
  rw [if_neg hm]
  try dsimp only [u2, u3, u5, u6]
  rw [if_neg (show ¬ (1 : Int32) = 0 by decide)]
  rw [va_eq] at hr2 hr3
  have hr2 : row2 = va_up row1 2 w := hr2
  have hr3 : row3 = va_up row2 3 mi := hr3
  have b3 : ∀ c, c < 7 → ¬ c = 0 → ¬ c = 1 → ¬ c = 2 → ¬ c = 3 → row3 c = nlR 0 0 999 c := by
    intro c hc n0 n1 n2 n3
    rw [hr3, va_ne _ _ n3, hr2, va_ne _ _ n2, hrow, va_ne _ _ n1, va_ne _ _ n0]
    exact hg2 c hc
  refine Sf2.bind (perh2 (p := 3) (p' := 13) hn hs hk2 (by decide) (by decide) (M := 7) rfl (by decide) rfl rfl (isWordS hn hs hk2 (by decide)) (by decide) (by rw [va_eq]; exact b3 4 (by decide) (by decide) (by decide) (by decide) (by decide))) ?_
  rintro ⟨be, s3, e3, t3, v3⟩ ⟨ok, q, row4⟩ ⟨h, hr4⟩
  rcases h with ⟨hb, ho, hq⟩ | ⟨hb, ho, hq, hk3, hle3⟩
  · have hb : be = -1 := hb
    have ho : ok = 0 := ho
    have hq : q = (e3, t3, s3, figs t3 v3, s3) := hq
    subst hq ho
    try dsimp only [u2, u3, u5, u6]
    rw [if_pos hb]
    unfold fX3_readLine_j130
    rw [if_pos rfl]
    exact Sf2.ok (Or.inl ⟨rfl, rfl, rfl⟩)
  have hb : ¬ be = -1 := hb
  have ho : ok = 1 := ho
  have hq : q = (e3, t3, s3, figs t3 v3, m_fault) := hq
  have hk3 : TkOk x0_size s3 e3 t3 v3 := hk3
  have hle3 : s2 ≤ s3 := hle3
  subst hq ho
  obtain ⟨_, hr4⟩ : (1 ≤ be ∧ be ≤ 999) ∧ ∀ c, row4 c = _ := hr4.resolve_left (by show ¬ (1 : Int32) = 0; decide)
  try dsimp only [u2, u3, u5, u6]
  rw [if_neg hb, if_neg (show ¬ (1 : Int32) = 0 by decide)]
  have b4 : ∀ c, row4 c = va_up row3 4 be c := by
    intro c
    rw [hr4 c, va_eq]
    rfl
  refine Sf2.bind (perh2 (p := 4) (p' := 14) hn hs hk3 (by decide) (by decide) (M := 7) rfl (by decide) rfl rfl (isWordS hn hs hk3 (by decide)) (by decide) (by rw [va_eq]; exact (b4 5).trans ((va_ne _ _ (by decide)).trans (b3 5 (by decide) (by decide) (by decide) (by decide) (by decide))))) ?_
  rintro ⟨ow, s4, e4, t4, v4⟩ ⟨ok, q, row5⟩ ⟨h, hr5⟩
  unfold fX3_readLine_j130
  rcases h with ⟨hw', ho, hq⟩ | ⟨hw', ho, hq, hk4, hle4⟩
  · have hw' : ow = -1 := hw'
    have ho : ok = 0 := ho
    have hq : q = (e4, t4, s4, figs t4 v4, s4) := hq
    subst hq ho
    try dsimp only [u2, u3, u5, u6]
    rw [if_pos hw']
    exact ⟨_, _, rfl, rfl, Or.inl ⟨rfl, rfl, rfl⟩⟩
  have hw' : ¬ ow = -1 := hw'
  have ho : ok = 1 := ho
  have hq : q = (e4, t4, s4, figs t4 v4, m_fault) := hq
  have hk4 : TkOk x0_size s4 e4 t4 v4 := hk4
  have hle4 : s3 ≤ s4 := hle4
  subst hq ho
  obtain ⟨_, hr5⟩ : (0 ≤ ow ∧ ow ≤ 5) ∧ ∀ c, row5 c = _ := hr5.resolve_left (by show ¬ (1 : Int32) = 0; decide)
  try dsimp only [u2, u3, u5, u6]
  rw [if_neg hw', if_neg (show ¬ (1 : Int32) = 0 by decide)]
  refine Sf2.l (addLineS hlc) ?_
  rintro ⟨g54, g55, g56⟩ h
  rcases h with ⟨h, _⟩ | ⟨_, a1, a2, a3, a4⟩
  · exact absurd h hlt
  have a1 : g54 = x1_lineCount + 1 := a1
  have a3 : ∀ l c, c < 7 → l ≠ x1_lineCount.toNatClampNeg → g55 (7 * l + c) = x1_lines (7 * l + c) := a3
  have a4 : ∀ c, c < 7 → g55 (7 * x1_lineCount.toNatClampNeg + c) = ([v6, y, w, mi, be, ow, 0] : List Int32).getD c 0 := a4
  have b5 : ∀ c, row5 c = va_up row4 5 ow c := by
    intro c
    rw [hr5 c, va_eq]
    rfl
  have C : AddR 7 (ro 7 x1_lines) (ro 7 g55) x1_lineCount.toNatClampNeg [v6, y, w, mi, be, ow, 0] := ⟨fun l hl c hc => by rw [ro_eq hc, ro_eq hc]; exact a3 l c hc hl, fun c hc => by rw [ro_eq hc]; exact a4 c hc⟩
  have D : AddR 7 m_line (va_up (va_up (va_up (va_up (va_up g94 m_lines.toNatClampNeg row1) m_lines.toNatClampNeg row2) m_lines.toNatClampNeg row3) m_lines.toNatClampNeg row4) m_lines.toNatClampNeg row5) x1_lineCount.toNatClampNeg [v6, y, w, mi, be, ow, 0] := by
    rw [z1]
    refine ⟨fun l hl c hc => ?_, fun c hc => ?_⟩
    · rw [va_ne _ _ hl, va_ne _ _ hl, va_ne _ _ hl, va_ne _ _ hl, va_ne _ _ hl, hg1 l hl]
    · rw [va_eq]
      rcases (show c = 0 ∨ c = 1 ∨ c = 2 ∨ c = 3 ∨ c = 4 ∨ c = 5 ∨ c = 6 by omega) with rfl | rfl | rfl | rfl | rfl | rfl | rfl
      · rw [b5, va_ne _ _ (by decide), b4, va_ne _ _ (by decide), hr3, va_ne _ _ (by decide), hr2, va_ne _ _ (by decide), hrow, va_ne _ _ (by decide), va_eq]; rfl
      · rw [b5, va_ne _ _ (by decide), b4, va_ne _ _ (by decide), hr3, va_ne _ _ (by decide), hr2, va_ne _ _ (by decide), hrow, va_eq]; rfl
      · rw [b5, va_ne _ _ (by decide), b4, va_ne _ _ (by decide), hr3, va_ne _ _ (by decide), hr2]; rfl
      · rw [b5, va_ne _ _ (by decide), b4, va_ne _ _ (by decide), hr3]; rfl
      · rw [b5, va_ne _ _ (by decide), b4, va_eq]; rfl
      · rw [b5, va_eq]; rfl
      · rw [b5, va_ne _ _ (by decide), b4, va_ne _ _ (by decide), b3 6 (by decide) (by decide) (by decide) (by decide) (by decide)]; rfl
  refine Sf2.ok (Or.inr ⟨by show ¬ (1 : Int32) = 0; decide, by show ¬ (1 : Int32) = 0; decide, rfl, hk4, Int32.le_trans hle (Int32.le_trans hk.1.2 (Int32.le_trans hle1 (Int32.le_trans hk1.1.2 (Int32.le_trans hle2 (Int32.le_trans hle3 hle4))))), ?_⟩)
  show LaD g54 x1_goodsCount x1_workCount x1_years g55 x1_goods x1_works x1_change x1_coin (m_lines + 1) _ m_changes m_coins m_goods m_good m_works m_work m_years
  rw [a1]
  refine ⟨⟨by rw [z1], z2, z3, z4⟩, AddR.alike hlc.1 hlt C D z5, z6, z7, z8, z9, fun k hk' => (z10 k hk').mono ?_⟩
  have hl9 := Int32.not_le.mp hlt
  clear z5 z6 z7 z8 z9 z10 C D a3 a4 b3 b4 b5 hg1 hg2 hr4 hr5
  grind
end
section
/-! the other statements -/
theorem goods2 {n : Nat} {x0_bytes : (Nat → Int32)} {x0_size : Int32} {x0_start : Int32} {x0_end : Int32} {x0_token : Int32} {x0_value : Int32} {x1_lineCount : Int32} {x1_goodsCount : Int32} {x1_workCount : Int32} {x1_years : Int32} {x1_lines : (Nat → Int32)} {x1_goods : (Nat → Int32)} {x1_works : (Nat → Int32)} {x1_change : (Nat → Int32)} {x1_coin : (Nat → Int32)} {x1_knownFree : (Nat → Int32)} {x1_isKnown : Int32} {m_shelf : (Nat → Int32)} {m_rowSort : (Nat → Int32)} {m_rowSize : (Nat → Int32)} {m_rows : (Nat → Nat → Int64)} {m_moved : (Nat → Int64)} {m_shown : (Nat → Int32)} {m_refused : (Nat → Int32)} {m_lines : Int32} {m_line : (Nat → Nat → Int32)} {m_changes : (Nat → Int32)} {m_coins : (Nat → Int32)} {m_goods : Int32} {m_good : (Nat → Nat → Int32)} {m_works : Int32} {m_work : (Nat → Nat → Int32)} {m_years : Int32} {m_gone : Int32} {m_spent : Int32} {m_fault : Int32} {m_numbers : (Nat → Int32)} {m_statements : Int32} {m_left : (Nat → Int32)} {m_far : (Nat → Int32)} {m_tons : Int32} {m_way : (Nat → Int32)} {m_steps : Int32} {m_met : Int64} {m_queue : (Nat → Int32)} {m_totals : (Nat → Int32)} (hn : 1000000000000 ≤ n) (hs : 0 ≤ x0_size ∧ x0_size ≤ 250) (hT : TkOk x0_size x0_start x0_end x0_token x0_value) (hgc : 0 ≤ x1_goodsCount ∧ x1_goodsCount ≤ 8) (hlt : ¬ 8 ≤ x1_goodsCount) (hA : (LaD x1_lineCount x1_goodsCount x1_workCount x1_years x1_lines x1_goods x1_works x1_change x1_coin m_lines m_line m_changes m_coins m_goods m_good m_works m_work m_years)) : Sf2 (fX3_readGoods n (x0_bytes, x0_size, x0_start, x0_end, x0_token, x0_value) (x1_lineCount, x1_goodsCount, x1_workCount, x1_years, x1_lines, x1_goods, x1_works, x1_change, x1_coin, x1_knownFree, x1_isKnown)) (sGoods n m_shelf m_rowSort m_rowSize m_rows m_moved m_shown x0_bytes x0_size m_refused m_lines m_line m_changes m_coins m_goods m_good m_works m_work m_years m_gone m_spent x0_end x0_token x0_start (figs x0_token x0_value) m_fault m_numbers m_statements m_left m_far m_tons m_way m_steps m_met m_queue m_totals) (fun r q => StR x0_size x0_end r.1 r.2.1 r.2.2.1 r.2.2.2.1 r.2.2.2.2.1 x1_lineCount r.2.2.2.2.2.1 x1_workCount x1_years x1_lines r.2.2.2.2.2.2.1 x1_works x1_change x1_coin q.1 q.2.1 q.2.2.1 q.2.2.2.1 q.2.2.2.2.1 q.2.2.2.2.2.1 q.2.2.2.2.2.2.1 q.2.2.2.2.2.2.2.1 q.2.2.2.2.2.2.2.2.1 q.2.2.2.2.2.2.2.2.2.1 q.2.2.2.2.2.2.2.2.2.2.1 q.2.2.2.2.2.2.2.2.2.2.2.1 q.2.2.2.2.2.2.2.2.2.2.2.2.1 q.2.2.2.2.2.2.2.2.2.2.2.2.2.1 q.2.2.2.2.2.2.2.2.2.2.2.2.2.2.1) := by
  obtain ⟨⟨z1, z2, z3, z4⟩, z5, z6, z7, z8, z9, z10⟩ := hA
  have hL : 0 ≤ m_goods ∧ m_goods < 8 := by rw [← z2]; exact ⟨hgc.1, Int32.not_le.mp hlt⟩
  unfold fX3_readGoods sGoods
  dsimp only [u6, u11]
  refine Sf2.r (P := fun q => q = m_goods.toNatClampNeg) (Sf.ckP (M := 8) rfl hL) (fun q73 e73 => ?_)
  subst e73
  refine two2 hn hs hT (M := 3) rfl (by decide) ?_
  intro v6 s e t v y ok q row1 h
  unfold fX3_readGoods_j28
  rcases h with ⟨hy, ho, hq⟩ | ⟨hy, hv6, hyr, hne, ho, hq, hk, hle, hrow⟩
  · subst hq ho
    rw [if_pos hy]
    unfold fX3_readGoods_j45
    rw [if_pos rfl]
    exact ⟨_, _, rfl, rfl, Or.inl ⟨rfl, rfl, rfl⟩⟩
  subst hq ho
  rw [if_neg hy]
  try dsimp only [u2, u3, u5, u6]
  rw [if_neg (show ¬ (1 : Int32) = 0 by decide)]
  refine Sf2.r (P := fun q => q = m_goods.toNatClampNeg) (Sf.ckP (M := 8) rfl hL) (fun q83 e83 => ?_)
  subst e83
  refine Sf2.bind (num2 hn hs hk (by decide) (by decide) (M := 3) rfl (by decide)) ?_
  rintro ⟨w, s1, e1, t1, v1⟩ ⟨ok, q, row2⟩ ⟨h, hr2⟩
  have h := NmR.rd (e0 := e) (by decide) (Int32.le_refl _) h
  unfold fX3_readGoods_j45
  rcases h with ⟨hw, ho, hq⟩ | ⟨hw, ho, hq, hk1, hle1⟩
  · have hw : w = -1 := hw
    have ho : ok = 0 := ho
    have hq : q = (e1, t1, s1, figs t1 v1, s1) := hq
    subst hq ho
    try dsimp only [u2, u3, u5, u6]
    rw [if_pos hw]
    exact ⟨_, _, rfl, rfl, Or.inl ⟨rfl, rfl, rfl⟩⟩
  have hw : ¬ w = -1 := hw
  have ho : ok = 1 := ho
  have hq : q = (e1, t1, s1, figs t1 v1, m_fault) := hq
  have hk1 : TkOk x0_size s1 e1 t1 v1 := hk1
  have hle1 : e ≤ s1 := hle1
  subst hq ho
  have hr2 : row2 = va_up (va_up m_good m_goods.toNatClampNeg row1 m_goods.toNatClampNeg) 2 w := hr2.resolve_left (by show ¬ (1 : Int32) = 0; decide)
  rw [va_eq] at hr2
  try dsimp only [u2, u3, u5, u6]
  rw [if_neg hw, if_neg (show ¬ (1 : Int32) = 0 by decide)]
  refine Sf2.l (addGoodsS ⟨hgc.1, Int32.not_le.mp hlt⟩) ?_
  rintro ⟨g22, g23, g24⟩ ⟨a1, _, C⟩
  have a1 : g22 = x1_goodsCount + 1 := a1
  have C : AddR 3 (ro 3 x1_goods) (ro 3 g23) x1_goodsCount.toNatClampNeg [v6, y, w] := C
  have D : AddR 3 m_good (va_up (va_up m_good m_goods.toNatClampNeg row1) m_goods.toNatClampNeg row2) x1_goodsCount.toNatClampNeg [v6, y, w] := by
    rw [z2]
    refine ⟨fun l hl c hc => by rw [va_ne _ _ hl, va_ne _ _ hl], fun c hc => ?_⟩
    rw [va_eq, hr2, hrow]
    rcases (show c = 0 ∨ c = 1 ∨ c = 2 by omega) with rfl | rfl | rfl <;> rfl
  refine Sf2.ok (Or.inr ⟨by show ¬ (1 : Int32) = 0; decide, by show ¬ (1 : Int32) = 0; decide, rfl, hk1, Int32.le_trans hle (Int32.le_trans hk.1.2 hle1), ?_⟩)
  show LaD x1_lineCount g22 x1_workCount x1_years x1_lines g23 x1_works x1_change x1_coin m_lines m_line m_changes m_coins (m_goods + 1) _ m_works m_work m_years
  rw [a1]
  exact ⟨⟨z1, by rw [z2], z3, z4⟩, z5, AddR.alike hgc.1 (fun h => absurd (Int32.le_trans h hgc.2) (by decide)) C D z6, z7, z8, z9, z10⟩
theorem change2 {n : Nat} {x0_bytes : (Nat → Int32)} {x0_size : Int32} {x0_start : Int32} {x0_end : Int32} {x0_token : Int32} {x0_value : Int32} {x1_lineCount : Int32} {x1_goodsCount : Int32} {x1_workCount : Int32} {x1_years : Int32} {x1_lines : (Nat → Int32)} {x1_goods : (Nat → Int32)} {x1_works : (Nat → Int32)} {x1_change : (Nat → Int32)} {x1_coin : (Nat → Int32)} {x1_knownFree : (Nat → Int32)} {x1_isKnown : Int32} {m_shelf : (Nat → Int32)} {m_rowSort : (Nat → Int32)} {m_rowSize : (Nat → Int32)} {m_rows : (Nat → Nat → Int64)} {m_moved : (Nat → Int64)} {m_shown : (Nat → Int32)} {m_refused : (Nat → Int32)} {m_lines : Int32} {m_line : (Nat → Nat → Int32)} {m_changes : (Nat → Int32)} {m_coins : (Nat → Int32)} {m_goods : Int32} {m_good : (Nat → Nat → Int32)} {m_works : Int32} {m_work : (Nat → Nat → Int32)} {m_years : Int32} {m_gone : Int32} {m_spent : Int32} {m_fault : Int32} {m_numbers : (Nat → Int32)} {m_statements : Int32} {m_left : (Nat → Int32)} {m_far : (Nat → Int32)} {m_tons : Int32} {m_way : (Nat → Int32)} {m_steps : Int32} {m_met : Int64} {m_queue : (Nat → Int32)} {m_totals : (Nat → Int32)} {v0 : Int32} (hn : 1000000000000 ≤ n) (hs : 0 ≤ x0_size ∧ x0_size ≤ 250) (hT : TkOk x0_size x0_start x0_end x0_token x0_value) (ev : fX3_isWord n (x0_bytes, x0_size, x0_start, x0_end, x0_token, x0_value) 7 = some v0) (hv : ¬ v0 = 0) (hA : (LaD x1_lineCount x1_goodsCount x1_workCount x1_years x1_lines x1_goods x1_works x1_change x1_coin m_lines m_line m_changes m_coins m_goods m_good m_works m_work m_years)) : Sf2 (fX3_readChange n (x0_bytes, x0_size, x0_start, x0_end, x0_token, x0_value) (x1_lineCount, x1_goodsCount, x1_workCount, x1_years, x1_lines, x1_goods, x1_works, x1_change, x1_coin, x1_knownFree, x1_isKnown)) (sChange n m_shelf m_rowSort m_rowSize m_rows m_moved m_shown x0_bytes x0_size m_refused m_lines m_line m_changes m_coins m_goods m_good m_works m_work m_years m_gone m_spent x0_end x0_token x0_start (figs x0_token x0_value) m_fault m_numbers m_statements m_left m_far m_tons m_way m_steps m_met m_queue m_totals) (fun r q => StR x0_size x0_end r.1 r.2.1 r.2.2.1 r.2.2.2.1 r.2.2.2.2.1 x1_lineCount x1_goodsCount x1_workCount x1_years x1_lines x1_goods x1_works r.2.2.2.2.2.1 x1_coin q.1 q.2.1 q.2.2.1 q.2.2.2.1 q.2.2.2.2.1 q.2.2.2.2.2.1 q.2.2.2.2.2.2.1 q.2.2.2.2.2.2.2.1 q.2.2.2.2.2.2.2.2.1 q.2.2.2.2.2.2.2.2.2.1 q.2.2.2.2.2.2.2.2.2.2.1 q.2.2.2.2.2.2.2.2.2.2.2.1 q.2.2.2.2.2.2.2.2.2.2.2.2.1 q.2.2.2.2.2.2.2.2.2.2.2.2.2.1 q.2.2.2.2.2.2.2.2.2.2.2.2.2.2.1) := by
  obtain ⟨⟨z1, z2, z3, z4⟩, z5, z6, z7, z8, z9, z10⟩ := hA
  unfold fX3_readChange sChange
  dsimp only [u6, u11]
  refine toldNin (p := 7) (p' := 17) hn hs hT (by decide) (by decide) (by decide) rfl rfl ev hv ?_
  intro a s e t v ok q1 q2 q3 q4 q5 row1 h hr
  rcases h with ⟨ha, ho, hq⟩ | ⟨ha, ho, hq, hk, hle⟩
  · have ha : a = -1 := ha
    cases hq
    subst ho
    rw [if_pos ha]
    unfold fX3_readChange_j28
    rw [if_pos rfl]
    exact ⟨_, _, rfl, rfl, Or.inl ⟨rfl, rfl, rfl⟩⟩
  have ha : ¬ a = -1 := ha
  have hk : TkOk x0_size s e t v := hk
  have hle : x0_end ≤ s := hle
  cases hq
  subst ho
  obtain ⟨har, hr⟩ : (0 ≤ a ∧ a ≤ 11) ∧ row1 = va_up m_numbers 0 a := hr.resolve_left (by decide)
  rw [if_neg ha]
  try dsimp only [u2, u3, u5, u6]
  rw [if_neg (show ¬ (1 : Int32) = 0 by decide)]
  have er : rd 2 row1 0 = some a := by rw [hr]; rfl
  rw [er]
  show Sf2 _ (Option.bind (fX7_numberC n _ a 0 99) _) _
  refine Sf2.bind (numC2 hn hs hk (by decide) (by decide) ⟨har.1, Int32.lt_of_le_of_lt har.2 (by decide)⟩) ?_
  rintro ⟨w, s1, e1, t1, v1⟩ ⟨ok, arr, q⟩ ⟨h, hr2⟩
  have h : NmR _ _ _ _ _ _ _ (w, s1, e1, t1, v1) ok q _ := h
  have h := NmR.rd (e0 := e) (by decide) (Int32.le_refl _) h
  unfold fX3_readChange_j28
  rcases h with ⟨hw, ho, hq⟩ | ⟨hw, ho, hq, hk1, hle1⟩
  · have hw : w = -1 := hw
    have ho : ok = 0 := ho
    have hq : q = (e1, t1, s1, figs t1 v1, s1) := hq
    subst hq ho
    try dsimp only [u2, u3, u5, u6]
    rw [if_pos hw]
    exact ⟨_, _, rfl, rfl, Or.inl ⟨rfl, rfl, rfl⟩⟩
  have hw : ¬ w = -1 := hw
  have ho : ok = 1 := ho
  have hq : q = (e1, t1, s1, figs t1 v1, m_fault) := hq
  have hk1 : TkOk x0_size s1 e1 t1 v1 := hk1
  have hle1 : e ≤ s1 := hle1
  subst hq ho
  have hr2 : arr = va_up m_changes a.toNatClampNeg w := hr2.resolve_left (by show ¬ (1 : Int32) = 0; decide)
  try dsimp only [u2, u3, u5, u6]
  rw [if_neg hw, if_neg (show ¬ (1 : Int32) = 0 by decide)]
  have ep : fX1_putChange (x1_lineCount, x1_goodsCount, x1_workCount, x1_years, x1_lines, x1_goods, x1_works, x1_change, x1_coin, x1_knownFree, x1_isKnown) a w = some (va_up x1_change a.toNatClampNeg w, 0) := by
    unfold fX1_putChange
    dsimp only [u11]
    rw [if_neg (Int32.not_lt.mpr har.1), if_neg (Int32.not_le.mpr (Int32.lt_of_le_of_lt har.2 (by decide)))]
    obtain ⟨f, ef, pf⟩ := Sf.wrP (N := 12) (f := x1_change) (i := a) (x := w) (M := 12) rfl ⟨har.1, Int32.lt_of_le_of_lt har.2 (by decide)⟩
    rw [ef, pf]
    rfl
  rw [ep]
  refine Sf2.ok (Or.inr ⟨by show ¬ (1 : Int32) = 0; decide, by show ¬ (1 : Int32) = 0; decide, rfl, hk1, Int32.le_trans hle (Int32.le_trans hk.1.2 hle1), ?_⟩)
  show LaD x1_lineCount x1_goodsCount x1_workCount x1_years x1_lines x1_goods x1_works (va_up x1_change a.toNatClampNeg w) x1_coin m_lines m_line arr m_coins m_goods m_good m_works m_work m_years
  rw [hr2]
  exact ⟨⟨z1, z2, z3, z4⟩, z5, z6, z7, up_alike z8, z9, z10⟩
theorem coin2 {n : Nat} {x0_bytes : (Nat → Int32)} {x0_size : Int32} {x0_start : Int32} {x0_end : Int32} {x0_token : Int32} {x0_value : Int32} {x1_lineCount : Int32} {x1_goodsCount : Int32} {x1_workCount : Int32} {x1_years : Int32} {x1_lines : (Nat → Int32)} {x1_goods : (Nat → Int32)} {x1_works : (Nat → Int32)} {x1_change : (Nat → Int32)} {x1_coin : (Nat → Int32)} {x1_knownFree : (Nat → Int32)} {x1_isKnown : Int32} {m_shelf : (Nat → Int32)} {m_rowSort : (Nat → Int32)} {m_rowSize : (Nat → Int32)} {m_rows : (Nat → Nat → Int64)} {m_moved : (Nat → Int64)} {m_shown : (Nat → Int32)} {m_refused : (Nat → Int32)} {m_lines : Int32} {m_line : (Nat → Nat → Int32)} {m_changes : (Nat → Int32)} {m_coins : (Nat → Int32)} {m_goods : Int32} {m_good : (Nat → Nat → Int32)} {m_works : Int32} {m_work : (Nat → Nat → Int32)} {m_years : Int32} {m_gone : Int32} {m_spent : Int32} {m_fault : Int32} {m_numbers : (Nat → Int32)} {m_statements : Int32} {m_left : (Nat → Int32)} {m_far : (Nat → Int32)} {m_tons : Int32} {m_way : (Nat → Int32)} {m_steps : Int32} {m_met : Int64} {m_queue : (Nat → Int32)} {m_totals : (Nat → Int32)} {v0 : Int32} (hn : 1000000000000 ≤ n) (hs : 0 ≤ x0_size ∧ x0_size ≤ 250) (hT : TkOk x0_size x0_start x0_end x0_token x0_value) (ev : fX3_isWord n (x0_bytes, x0_size, x0_start, x0_end, x0_token, x0_value) 8 = some v0) (hv : ¬ v0 = 0) (hA : (LaD x1_lineCount x1_goodsCount x1_workCount x1_years x1_lines x1_goods x1_works x1_change x1_coin m_lines m_line m_changes m_coins m_goods m_good m_works m_work m_years)) : Sf2 (fX3_readCoin n (x0_bytes, x0_size, x0_start, x0_end, x0_token, x0_value) (x1_lineCount, x1_goodsCount, x1_workCount, x1_years, x1_lines, x1_goods, x1_works, x1_change, x1_coin, x1_knownFree, x1_isKnown)) (sCoin n m_shelf m_rowSort m_rowSize m_rows m_moved m_shown x0_bytes x0_size m_refused m_lines m_line m_changes m_coins m_goods m_good m_works m_work m_years m_gone m_spent x0_end x0_token x0_start (figs x0_token x0_value) m_fault m_numbers m_statements m_left m_far m_tons m_way m_steps m_met m_queue m_totals) (fun r q => StR x0_size x0_end r.1 r.2.1 r.2.2.1 r.2.2.2.1 r.2.2.2.2.1 x1_lineCount x1_goodsCount x1_workCount x1_years x1_lines x1_goods x1_works x1_change r.2.2.2.2.2.1 q.1 q.2.1 q.2.2.1 q.2.2.2.1 q.2.2.2.2.1 q.2.2.2.2.2.1 q.2.2.2.2.2.2.1 q.2.2.2.2.2.2.2.1 q.2.2.2.2.2.2.2.2.1 q.2.2.2.2.2.2.2.2.2.1 q.2.2.2.2.2.2.2.2.2.2.1 q.2.2.2.2.2.2.2.2.2.2.2.1 q.2.2.2.2.2.2.2.2.2.2.2.2.1 q.2.2.2.2.2.2.2.2.2.2.2.2.2.1 q.2.2.2.2.2.2.2.2.2.2.2.2.2.2.1) := by
  obtain ⟨⟨z1, z2, z3, z4⟩, z5, z6, z7, z8, z9, z10⟩ := hA
  unfold fX3_readCoin sCoin
  dsimp only [u6, u11]
  refine toldNin (p := 8) (p' := 18) hn hs hT (by decide) (by decide) (by decide) rfl rfl ev hv ?_
  intro a s e t v ok q1 q2 q3 q4 q5 row1 h hr
  rcases h with ⟨ha, ho, hq⟩ | ⟨ha, ho, hq, hk, hle⟩
  · have ha : a = -1 := ha
    cases hq
    subst ho
    rw [if_pos ha]
    unfold fX3_readCoin_j27
    rw [if_pos rfl]
    exact ⟨_, _, rfl, rfl, Or.inl ⟨rfl, rfl, rfl⟩⟩
  have ha : ¬ a = -1 := ha
  have hk : TkOk x0_size s e t v := hk
  have hle : x0_end ≤ s := hle
  cases hq
  subst ho
  obtain ⟨har, hr⟩ : (0 ≤ a ∧ a ≤ 2) ∧ row1 = va_up m_numbers 0 a := hr.resolve_left (by decide)
  rw [if_neg ha]
  try dsimp only [u2, u3, u5, u6]
  rw [if_neg (show ¬ (1 : Int32) = 0 by decide)]
  have er : rd 2 row1 0 = some a := by rw [hr]; rfl
  rw [er]
  show Sf2 _ (Option.bind (fX7_numberO n _ a 0 9) _) _
  refine Sf2.bind (numO2 hn hs hk (by decide) (by decide) ⟨har.1, Int32.lt_of_le_of_lt har.2 (by decide)⟩) ?_
  rintro ⟨w, s1, e1, t1, v1⟩ ⟨ok, arr, q⟩ ⟨h, hr2⟩
  have h : NmR _ _ _ _ _ _ _ (w, s1, e1, t1, v1) ok q _ := h
  have h := NmR.rd (e0 := e) (by decide) (Int32.le_refl _) h
  unfold fX3_readCoin_j27
  rcases h with ⟨hw, ho, hq⟩ | ⟨hw, ho, hq, hk1, hle1⟩
  · have hw : w = -1 := hw
    have ho : ok = 0 := ho
    have hq : q = (e1, t1, s1, figs t1 v1, s1) := hq
    subst hq ho
    try dsimp only [u2, u3, u5, u6]
    rw [if_pos hw]
    exact ⟨_, _, rfl, rfl, Or.inl ⟨rfl, rfl, rfl⟩⟩
  have hw : ¬ w = -1 := hw
  have ho : ok = 1 := ho
  have hq : q = (e1, t1, s1, figs t1 v1, m_fault) := hq
  have hk1 : TkOk x0_size s1 e1 t1 v1 := hk1
  have hle1 : e ≤ s1 := hle1
  subst hq ho
  have hr2 : arr = va_up m_coins a.toNatClampNeg w := hr2.resolve_left (by show ¬ (1 : Int32) = 0; decide)
  try dsimp only [u2, u3, u5, u6]
  rw [if_neg hw, if_neg (show ¬ (1 : Int32) = 0 by decide)]
  have ep : fX1_putCoin (x1_lineCount, x1_goodsCount, x1_workCount, x1_years, x1_lines, x1_goods, x1_works, x1_change, x1_coin, x1_knownFree, x1_isKnown) a w = some (va_up x1_coin a.toNatClampNeg w, 0) := by
    unfold fX1_putCoin
    dsimp only [u11]
    rw [if_neg (Int32.not_lt.mpr har.1), if_neg (Int32.not_le.mpr (Int32.lt_of_le_of_lt har.2 (by decide)))]
    obtain ⟨f, ef, pf⟩ := Sf.wrP (N := 3) (f := x1_coin) (i := a) (x := w) (M := 3) rfl ⟨har.1, Int32.lt_of_le_of_lt har.2 (by decide)⟩
    rw [ef, pf]
    rfl
  rw [ep]
  refine Sf2.ok (Or.inr ⟨by show ¬ (1 : Int32) = 0; decide, by show ¬ (1 : Int32) = 0; decide, rfl, hk1, Int32.le_trans hle (Int32.le_trans hk.1.2 hle1), ?_⟩)
  show LaD x1_lineCount x1_goodsCount x1_workCount x1_years x1_lines x1_goods x1_works x1_change (va_up x1_coin a.toNatClampNeg w) m_lines m_line m_changes arr m_goods m_good m_works m_work m_years
  rw [hr2]
  exact ⟨⟨z1, z2, z3, z4⟩, z5, z6, z7, z8, up_alike z9, z10⟩
theorem years2 {n : Nat} {x0_bytes : (Nat → Int32)} {x0_size : Int32} {x0_start : Int32} {x0_end : Int32} {x0_token : Int32} {x0_value : Int32} {x1_lineCount : Int32} {x1_goodsCount : Int32} {x1_workCount : Int32} {x1_years : Int32} {x1_lines : (Nat → Int32)} {x1_goods : (Nat → Int32)} {x1_works : (Nat → Int32)} {x1_change : (Nat → Int32)} {x1_coin : (Nat → Int32)} {x1_knownFree : (Nat → Int32)} {x1_isKnown : Int32} {m_shelf : (Nat → Int32)} {m_rowSort : (Nat → Int32)} {m_rowSize : (Nat → Int32)} {m_rows : (Nat → Nat → Int64)} {m_moved : (Nat → Int64)} {m_shown : (Nat → Int32)} {m_refused : (Nat → Int32)} {m_lines : Int32} {m_line : (Nat → Nat → Int32)} {m_changes : (Nat → Int32)} {m_coins : (Nat → Int32)} {m_goods : Int32} {m_good : (Nat → Nat → Int32)} {m_works : Int32} {m_work : (Nat → Nat → Int32)} {m_years : Int32} {m_gone : Int32} {m_spent : Int32} {m_fault : Int32} {m_numbers : (Nat → Int32)} {m_statements : Int32} {m_left : (Nat → Int32)} {m_far : (Nat → Int32)} {m_tons : Int32} {m_way : (Nat → Int32)} {m_steps : Int32} {m_met : Int64} {m_queue : (Nat → Int32)} {m_totals : (Nat → Int32)} {v0 : Int32} (hn : 1000000000000 ≤ n) (hs : 0 ≤ x0_size ∧ x0_size ≤ 250) (hT : TkOk x0_size x0_start x0_end x0_token x0_value) (ev : fX3_isWord n (x0_bytes, x0_size, x0_start, x0_end, x0_token, x0_value) 9 = some v0) (hv : ¬ v0 = 0) (hA : (LaD x1_lineCount x1_goodsCount x1_workCount x1_years x1_lines x1_goods x1_works x1_change x1_coin m_lines m_line m_changes m_coins m_goods m_good m_works m_work m_years)) : Sf2 (fX3_readYears n (x0_bytes, x0_size, x0_start, x0_end, x0_token, x0_value) (x1_lineCount, x1_goodsCount, x1_workCount, x1_years, x1_lines, x1_goods, x1_works, x1_change, x1_coin, x1_knownFree, x1_isKnown)) (sYears n m_shelf m_rowSort m_rowSize m_rows m_moved m_shown x0_bytes x0_size m_refused m_lines m_line m_changes m_coins m_goods m_good m_works m_work m_years m_gone m_spent x0_end x0_token x0_start (figs x0_token x0_value) m_fault m_numbers m_statements m_left m_far m_tons m_way m_steps m_met m_queue m_totals) (fun r q => StR x0_size x0_end r.1 r.2.1 r.2.2.1 r.2.2.2.1 r.2.2.2.2.1 x1_lineCount x1_goodsCount x1_workCount r.2.2.2.2.2 x1_lines x1_goods x1_works x1_change x1_coin q.1 q.2.1 q.2.2.1 q.2.2.2.1 q.2.2.2.2.1 q.2.2.2.2.2.1 q.2.2.2.2.2.2.1 q.2.2.2.2.2.2.2.1 q.2.2.2.2.2.2.2.2.1 q.2.2.2.2.2.2.2.2.2.1 q.2.2.2.2.2.2.2.2.2.2.1 q.2.2.2.2.2.2.2.2.2.2.2.1 q.2.2.2.2.2.2.2.2.2.2.2.2.1 q.2.2.2.2.2.2.2.2.2.2.2.2.2.1 q.2.2.2.2.2.2.2.2.2.2.2.2.2.2.1) := by
  obtain ⟨⟨z1, z2, z3, z4⟩, z5, z6, z7, z8, z9, z10⟩ := hA
  unfold fX3_readYears sYears
  dsimp only [u6, u11]
  refine toldNin (p := 9) (p' := 19) hn hs hT (by decide) (by decide) (by decide) rfl rfl ev hv ?_
  intro a s e t v ok q1 q2 q3 q4 q5 row1 h hr
  rcases h with ⟨ha, ho, hq⟩ | ⟨ha, ho, hq, hk, hle⟩
  · have ha : a = -1 := ha
    cases hq
    subst ho
    rw [if_pos ha]
    exact ⟨_, _, rfl, rfl, Or.inl ⟨rfl, rfl, rfl⟩⟩
  have ha : ¬ a = -1 := ha
  have hk : TkOk x0_size s e t v := hk
  have hle : x0_end ≤ s := hle
  cases hq
  subst ho
  obtain ⟨har, hr⟩ : (1 ≤ a ∧ a ≤ 30) ∧ row1 = va_up m_numbers 0 a := hr.resolve_left (by decide)
  rw [if_neg ha]
  try dsimp only [u2, u3, u5, u6]
  rw [if_neg (show ¬ (1 : Int32) = 0 by decide)]
  have er : rd 2 row1 0 = some a := by rw [hr]; rfl
  rw [er]
  refine Sf2.ok (Or.inr ⟨by show ¬ (1 : Int32) = 0; decide, by show ¬ (1 : Int32) = 0; decide, rfl, hk, hle, ?_⟩)
  exact ⟨⟨z1, z2, z3, rfl⟩, z5, z6, z7, z8, z9, z10⟩
end
section
/-! work, told on the tape -/
theorem numNo {n : Nat} {x0_bytes : (Nat → Int32)} {x0_size : Int32} {x0_start : Int32} {x0_end : Int32} {x0_token : Int32} {x0_value : Int32} {lo hi : Int32} (h : ¬ (x0_token = 2 ∧ (lo ≤ x0_value ∧ x0_value ≤ hi))) : fX3_number n (x0_bytes, x0_size, x0_start, x0_end, x0_token, x0_value) lo hi = some (-1, x0_start, x0_end, x0_token, x0_value) := by
  unfold fX3_number
  dsimp only [u6]
  by_cases ht : x0_token = 2
  · rw [if_pos ht]
    obtain ⟨r, e, hr⟩ := sX6_within (p0 := x0_value) (p1 := lo) (p2 := hi)
    have h0 : r = 0 := by
      rcases hr with hr | hr
      · exact absurd ⟨ht, hr.2⟩ h
      · exact hr.1
    rw [e, h0]
    rfl
  · rw [if_neg ht]
theorem numOk {n m1 : Nat} {x0_bytes : (Nat → Int32)} {x0_size : Int32} {x0_start : Int32} {x0_end : Int32} {x0_token : Int32} {x0_value : Int32} {m_shelf : (Nat → Int32)} {m_rowSort : (Nat → Int32)} {m_rowSize : (Nat → Int32)} {m_rows : (Nat → Nat → Int64)} {m_moved : (Nat → Int64)} {m_shown : (Nat → Int32)} {m_refused : (Nat → Int32)} {m_lines : Int32} {m_line : (Nat → Nat → Int32)} {m_changes : (Nat → Int32)} {m_coins : (Nat → Int32)} {m_goods : Int32} {m_good : (Nat → Nat → Int32)} {m_works : Int32} {m_work : (Nat → Nat → Int32)} {m_years : Int32} {m_gone : Int32} {m_spent : Int32} {m_fault : Int32} {m_numbers : (Nat → Int32)} {m_statements : Int32} {m_left : (Nat → Int32)} {m_far : (Nat → Int32)} {m_tons : Int32} {m_way : (Nat → Int32)} {m_steps : Int32} {m_met : Int64} {m_queue : (Nat → Int32)} {m_totals : (Nat → Int32)} {row : Nat → Int32} {i lo hi lo' hi' M : Int32} (hn : 1000000000000 ≤ n) (hs : 0 ≤ x0_size ∧ x0_size ≤ 250) (hT : TkOk x0_size x0_start x0_end x0_token x0_value) (ht : x0_token = 2) (hv : lo ≤ x0_value ∧ x0_value ≤ hi) (hv' : lo' ≤ x0_value ∧ x0_value ≤ hi') (h0 : 0 ≤ lo) (hM : M.toInt = (m1 : Int)) (hi1 : 0 ≤ i ∧ i < M) : Sf2 (fX3_number n (x0_bytes, x0_size, x0_start, x0_end, x0_token, x0_value) lo hi) (fX7_number n (m_shelf, m_rowSort, m_rowSize, m_rows, m_moved, m_shown, x0_bytes, x0_size, m_refused, m_lines, m_line, m_changes, m_coins, m_goods, m_good, m_works, m_work, m_years, m_gone, m_spent, x0_end, x0_token, x0_start, (figs x0_token x0_value), m_fault, m_numbers, m_statements, m_left, m_far, m_tons, m_way, m_steps, m_met, m_queue, m_totals) m1 row i lo' hi') (fun r q => r.1 = x0_value ∧ q.1 = 1 ∧ q.2.1 = (r.2.2.1, r.2.2.2.1, r.2.1, figs r.2.2.2.1 r.2.2.2.2, m_fault) ∧ q.2.2 = va_up row i.toNatClampNeg x0_value ∧ TkOk x0_size r.2.1 r.2.2.1 r.2.2.2.1 r.2.2.2.2 ∧ x0_end ≤ r.2.1) := by
  have hvn : ¬ x0_value = -1 := by
    intro e
    rw [e] at hv
    exact absurd (Int32.le_trans h0 hv.1) (by decide)
  have ef : figs x0_token x0_value = x0_value.toInt64 := by
    unfold figs fg
    rw [if_pos ht, if_neg hvn]
  have w1 : ∀ a b : Int32, a ≤ x0_value ∧ x0_value ≤ b → fX6_within x0_value a b = some 1 := by
    intro a b h
    unfold fX6_within
    rw [if_neg (Int32.not_lt.mpr h.1), if_neg (Int32.not_lt.mpr h.2)]
  unfold fX3_number fX7_number
  dsimp only [u35, u6]
  rw [if_pos ht, if_pos ht, w1 lo hi hv, ef, inw, w1 lo' hi' hv']
  simp only [Option.bind_some]
  rw [if_neg (show ¬ (1 : Int32) = 0 by decide), if_neg (show ¬ (1 : Int32) = 0 by decide)]
  refine Sf2.r (P := fun f => f = va_up row i.toNatClampNeg x0_value.toInt64.toInt32) (Sf.wrP hM hi1) (fun f7 e7 => ?_)
  rw [Int32.toInt32_toInt64] at e7
  refine Sf2.bind (lookNext hn hs ⟨Int32.le_trans hT.1.1 hT.1.2, hT.2.1⟩ rfl rfl rfl) ?_
  rintro ⟨g3, g4, g5, g6⟩ ⟨h8, h9, h10, h11⟩ ⟨eq, ok, le⟩
  cases eq
  exact Sf2.ok ⟨rfl, rfl, rfl, e7, ok, le⟩
/-- a figure of at most two digits, as the reference tests it -/
theorem in99 {t v : Int32} (ht : t = 2) (hv : v = -1 ∨ (0 ≤ v ∧ v ≤ 999)) : ∃ r, fX7_in (figs t v) (0 : Int64) (99 : Int64) = some r ∧ ((¬ r = 0 ∧ (0 ≤ v ∧ v ≤ 99) ∧ (figs t v).toInt32 = v) ∨ (r = 0 ∧ ¬ (0 ≤ v ∧ v ≤ 99))) := by
  obtain ⟨r, _, e2, h⟩ := fg_in (lo := 0) (hi := 99) hv (by decide) (by decide)
  have ef : figs t v = (fg v).toInt64 := if_pos ht
  have e0 : ((0 : Int32).toInt64) = (0 : Int64) := by decide
  have e99 : ((99 : Int32).toInt64) = (99 : Int64) := by decide
  rw [e0, e99] at e2
  refine ⟨r, by rw [ef]; exact e2, ?_⟩
  obtain ⟨r', e1', e2', _⟩ := fg_in (lo := 0) (hi := 99) hv (by decide) (by decide)
  rw [e0, e99, e2] at e2'
  cases e2'
  obtain ⟨r2, e3, h3⟩ := sX6_within (p0 := v) (p1 := 0) (p2 := 99)
  rw [e1'] at e3
  cases e3
  rcases h3 with h3 | h3
  · refine Or.inl ⟨by rw [h3.1]; decide, h3.2, ?_⟩
    rcases h with h | h
    · rw [h] at h3; exact absurd h3.1 (by decide)
    · rw [ef, h.2.2, Int32.toInt32_toInt64]
  · exact Or.inr ⟨h3.1, gd0 (Or.inr h3) h3.1⟩
theorem mbF0 {x0_shelf : (Nat → Int32)} {x0_rowSort : (Nat → Int32)} {x0_rowSize : (Nat → Int32)} {x0_rows : (Nat → Nat → Int64)} {x0_moved : (Nat → Int64)} {x0_shown : (Nat → Int32)} {x0_tape : (Nat → Int32)} {x0_tapeSize : Int32} {x0_refused : (Nat → Int32)} {x0_lines : Int32} {x0_line : (Nat → Nat → Int32)} {x0_changes : (Nat → Int32)} {x0_coins : (Nat → Int32)} {x0_goods : Int32} {x0_good : (Nat → Nat → Int32)} {x0_works : Int32} {x0_work : (Nat → Nat → Int32)} {x0_years : Int32} {x0_gone : Int32} {x0_spent : Int32} {x0_at : Int32} {x0_token : Int32} {x0_from : Int32} {x0_figures : Int64} {x0_fault : Int32} {x0_numbers : (Nat → Int32)} {x0_statements : Int32} {x0_left : (Nat → Int32)} {x0_far : (Nat → Int32)} {x0_tons : Int32} {x0_way : (Nat → Int32)} {x0_steps : Int32} {x0_met : Int64} {x0_queue : (Nat → Int32)} {x0_totals : (Nat → Int32)} {k a : Int32} (hl : 0 ≤ x0_lines ∧ x0_lines ≤ 20) : Sf (fX7_mayBeFirst (x0_shelf, x0_rowSort, x0_rowSize, x0_rows, x0_moved, x0_shown, x0_tape, x0_tapeSize, x0_refused, x0_lines, x0_line, x0_changes, x0_coins, x0_goods, x0_good, x0_works, x0_work, x0_years, x0_gone, x0_spent, x0_at, x0_token, x0_from, x0_figures, x0_fault, x0_numbers, x0_statements, x0_left, x0_far, x0_tons, x0_way, x0_steps, x0_met, x0_queue, x0_totals) k a) (fun r => (r = 0 ∧ ¬ VA x0_lines k a) ∨ (¬ r = 0 ∧ VA x0_lines k a)) := by
  have isl : Sf (fX7_isLine (x0_shelf, x0_rowSort, x0_rowSize, x0_rows, x0_moved, x0_shown, x0_tape, x0_tapeSize, x0_refused, x0_lines, x0_line, x0_changes, x0_coins, x0_goods, x0_good, x0_works, x0_work, x0_years, x0_gone, x0_spent, x0_at, x0_token, x0_from, x0_figures, x0_fault, x0_numbers, x0_statements, x0_left, x0_far, x0_tons, x0_way, x0_steps, x0_met, x0_queue, x0_totals) a) (fun r => (r = 1 ∧ 0 ≤ a ∧ a ≤ x0_lines - 1) ∨ (r = 0 ∧ (a < 0 ∨ x0_lines - 1 < a))) := by
    unfold fX7_isLine
    dsimp only [u35]
    refine Sf.bind (s_inq a 0 (x0_lines - 1) (by decide) rfl) (fun v h => ?_)
    exact Sf.zbb (by rcases h with h | h; exact Or.inr h.1; exact Or.inl h.1) (fun r e => Sf.ok (by rw [e]; exact h))
  have jl : (k = 1 ∨ k = 2) → Sf ((fX7_isLine (x0_shelf, x0_rowSort, x0_rowSize, x0_rows, x0_moved, x0_shown, x0_tape, x0_tapeSize, x0_refused, x0_lines, x0_line, x0_changes, x0_coins, x0_goods, x0_good, x0_works, x0_work, x0_years, x0_gone, x0_spent, x0_at, x0_token, x0_from, x0_figures, x0_fault, x0_numbers, x0_statements, x0_left, x0_far, x0_tons, x0_way, x0_steps, x0_met, x0_queue, x0_totals) a).bind (fun v1 => (zb v1).bind fun v3 => some v3)) (fun r => (r = 0 ∧ ¬ VA x0_lines k a) ∨ (¬ r = 0 ∧ VA x0_lines k a)) := by
    intro hk
    refine Sf.bind isl (fun v1 h1 => ?_)
    refine Sf.zbb (by rcases h1 with h | h; exact Or.inr h.1; exact Or.inl h.1) (fun r e => Sf.ok ?_)
    rw [e]
    have g := gA_iff (lc := x0_lines) (k := k) (a := a) hl
    rw [if_pos hk] at g
    by_cases hz : v1 = 0
    · exact Or.inl ⟨hz, fun V => gd0 h1 hz (g.mpr V)⟩
    · exact Or.inr ⟨hz, g.mp (gd1 h1 hz)⟩
  unfold fX7_mayBeFirst
  dsimp only [u35]
  refine Sf.ite (fun h => jl (Or.inl h)) (fun h => Sf.ite (fun h2 => jl (Or.inr h2)) (fun h2 => ?_))
  have hk : ¬ (k = 1 ∨ k = 2) := by rintro (e | e); exact h e; exact h2 e
  refine Sf.bind sX7_isPlace (fun v1 h1 => ?_)
  refine Sf.zbb (by rcases h1 with h | h; exact Or.inr h.1; exact Or.inl h.1) (fun r e => Sf.ok ?_)
  rw [e]
  by_cases hz : v1 = 0
  · exact Or.inl ⟨hz, fun V => gd0 h1 hz (V.2 hk)⟩
  · exact Or.inr ⟨hz, fun e => absurd e hk, fun _ => gd1 h1 hz⟩
end
section
/-! work told; the statement -/
theorem work2 {n : Nat} {x0_bytes : (Nat → Int32)} {x0_size : Int32} {x0_start : Int32} {x0_end : Int32} {x0_token : Int32} {x0_value : Int32} {x1_lineCount : Int32} {x1_goodsCount : Int32} {x1_workCount : Int32} {x1_years : Int32} {x1_lines : (Nat → Int32)} {x1_goods : (Nat → Int32)} {x1_works : (Nat → Int32)} {x1_change : (Nat → Int32)} {x1_coin : (Nat → Int32)} {x1_knownFree : (Nat → Int32)} {x1_isKnown : Int32} {m_shelf : (Nat → Int32)} {m_rowSort : (Nat → Int32)} {m_rowSize : (Nat → Int32)} {m_rows : (Nat → Nat → Int64)} {m_moved : (Nat → Int64)} {m_shown : (Nat → Int32)} {m_refused : (Nat → Int32)} {m_lines : Int32} {m_line : (Nat → Nat → Int32)} {m_changes : (Nat → Int32)} {m_coins : (Nat → Int32)} {m_goods : Int32} {m_good : (Nat → Nat → Int32)} {m_works : Int32} {m_work : (Nat → Nat → Int32)} {m_years : Int32} {m_gone : Int32} {m_spent : Int32} {m_fault : Int32} {m_numbers : (Nat → Int32)} {m_statements : Int32} {m_left : (Nat → Int32)} {m_far : (Nat → Int32)} {m_tons : Int32} {m_way : (Nat → Int32)} {m_steps : Int32} {m_met : Int64} {m_queue : (Nat → Int32)} {m_totals : (Nat → Int32)} {v0 : Int32} (hn : 1000000000000 ≤ n) (hs : 0 ≤ x0_size ∧ x0_size ≤ 250) (hT : TkOk x0_size x0_start x0_end x0_token x0_value) (ev : fX3_isWord n (x0_bytes, x0_size, x0_start, x0_end, x0_token, x0_value) 6 = some v0) (hv0 : ¬ v0 = 0) (hlc : 0 ≤ x1_lineCount ∧ x1_lineCount ≤ 20) (hwc : 0 ≤ x1_workCount ∧ x1_workCount ≤ 7) (hlt : ¬ 7 ≤ x1_workCount) (hA : (LaD x1_lineCount x1_goodsCount x1_workCount x1_years x1_lines x1_goods x1_works x1_change x1_coin m_lines m_line m_changes m_coins m_goods m_good m_works m_work m_years)) : Sf2 (fX3_readWork n (x0_bytes, x0_size, x0_start, x0_end, x0_token, x0_value) (x1_lineCount, x1_goodsCount, x1_workCount, x1_years, x1_lines, x1_goods, x1_works, x1_change, x1_coin, x1_knownFree, x1_isKnown)) (sWork n m_shelf m_rowSort m_rowSize m_rows m_moved m_shown x0_bytes x0_size m_refused m_lines m_line m_changes m_coins m_goods m_good m_works m_work m_years m_gone m_spent x0_end x0_token x0_start (figs x0_token x0_value) m_fault m_numbers m_statements m_left m_far m_tons m_way m_steps m_met m_queue m_totals) (fun r q => StR x0_size x0_end r.1 r.2.1 r.2.2.1 r.2.2.2.1 r.2.2.2.2.1 x1_lineCount x1_goodsCount r.2.2.2.2.2.1 x1_years x1_lines x1_goods r.2.2.2.2.2.2.1 x1_change x1_coin q.1 q.2.1 q.2.2.1 q.2.2.2.1 q.2.2.2.2.1 q.2.2.2.2.2.1 q.2.2.2.2.2.2.1 q.2.2.2.2.2.2.2.1 q.2.2.2.2.2.2.2.2.1 q.2.2.2.2.2.2.2.2.2.1 q.2.2.2.2.2.2.2.2.2.2.1 q.2.2.2.2.2.2.2.2.2.2.2.1 q.2.2.2.2.2.2.2.2.2.2.2.2.1 q.2.2.2.2.2.2.2.2.2.2.2.2.2.1 q.2.2.2.2.2.2.2.2.2.2.2.2.2.2.1) := by
  obtain ⟨⟨z1, z2, z3, z4⟩, z5, z6, z7, z8, z9, z10⟩ := hA
  have hL : 0 ≤ m_works ∧ m_works < 7 := by rw [← z3]; exact ⟨hwc.1, Int32.not_le.mp hlt⟩
  have hml : 0 ≤ m_lines ∧ m_lines ≤ 20 := by rw [← z1]; exact hlc
  unfold fX3_readWork sWork
  dsimp only [u6, u11]
  refine Sf2.r (P := fun q => q = m_works.toNatClampNeg) (Sf.ckP (M := 7) rfl hL) (fun q61 e61 => ?_)
  subst e61
  unfold fX7_workTold
  dsimp only [u35]
  rw [Option.bind_assoc]
  refine Sf2.r (P := fun f => f = va_up (m_work m_works.toNatClampNeg) 4 0) (Sf.wrP (M := 5) rfl (by decide)) (fun f1 ef1 => ?_)
  rw [Option.bind_assoc]
  refine toldIn (p := 6) (p' := 16) hn hs hT (by decide) (by decide) (M := 5) rfl (by decide) rfl rfl ev hv0 ?_
  intro k s e t v ok q row1 h hr1
  rcases h with ⟨hk0, ho, hq⟩ | ⟨hk0, ho, hq, hk, hle⟩
  · have hk0 : k = -1 := hk0
    subst hq ho
    rw [if_pos hk0]
    unfold fX3_readWork_j30
    rw [if_pos rfl]
    exact ⟨_, _, rfl, rfl, Or.inl ⟨rfl, rfl, rfl⟩⟩
  have hk0 : ¬ k = -1 := hk0
  have hk : TkOk x0_size s e t v := hk
  have hle : x0_end ≤ s := hle
  subst hq ho
  obtain ⟨hkr, hr1⟩ : (1 ≤ k ∧ k ≤ 5) ∧ row1 = va_up f1 0 k := hr1.resolve_left (by decide)
  rw [if_neg hk0]
  refine Sf2.l greatA (fun v53 e53 => ?_)
  try dsimp only [u3, u5]
  rw [if_neg (show ¬ (1 : Int32) = 0 by decide)]
  have g53 : v53 ≤ 19 := by
    rw [e53]
    by_cases hk1 : k = 1 ∨ k = 2
    · rw [if_pos hk1]
      clear hk1 z5 z6 z7 z8 z9 z10
      grind
    · rw [if_neg hk1]
      decide
  have gA := gA_iff (lc := m_lines) (k := k) (a := v) hml
  rw [← z1, ← e53] at gA
  have r0 : ∀ c, rd 5 row1 c = rd 5 (va_up f1 0 k) c := fun c => by rw [hr1]
  -- the first number
  by_cases hC : t = 2 ∧ (0 ≤ v ∧ v ≤ v53)
  case neg =>
    rw [numNo (x0_bytes := x0_bytes) (x0_size := x0_size) hC]
    show Sf2 (fX3_readWork_j30 n x0_bytes x0_size x1_lineCount x1_goodsCount x1_workCount x1_years x1_lines x1_goods x1_works x1_change x1_coin x1_knownFree x1_isKnown k s e t v (-1)) _ _
    unfold fX3_readWork_j30
    rw [if_pos rfl]
    by_cases ht : t = 2
    · rw [if_pos ht]
      obtain ⟨r, er, hr⟩ := in99 ht (hk.2.2.1 ht)
      rw [er]
      show Sf2 _ ((if r = 0 then _ else _ : Option _).bind _) _
      rcases hr with ⟨hr, hv, hf⟩ | ⟨hr, hv⟩
      · rw [if_neg hr]
        have ek : rd 5 row1 0 = some k := by rw [r0]; rfl
        rw [ek]
        show Sf2 _ (((fX7_mayBeFirst _ k ((figs t v).toInt32)).bind _).bind _) _
        rw [hf]
        obtain ⟨b, eb, hb⟩ := mbF0 (x0_shelf := m_shelf) (x0_rowSort := m_rowSort) (x0_rowSize := m_rowSize) (x0_rows := m_rows) (x0_moved := m_moved) (x0_shown := m_shown) (x0_tape := x0_bytes) (x0_tapeSize := x0_size) (x0_refused := m_refused) (x0_line := m_line) (x0_changes := m_changes) (x0_coins := m_coins) (x0_goods := m_goods) (x0_good := m_good) (x0_works := m_works) (x0_work := m_work) (x0_years := m_years) (x0_gone := m_gone) (x0_spent := m_spent) (x0_at := e) (x0_token := t) (x0_from := s) (x0_figures := figs t v) (x0_fault := m_fault) (x0_numbers := m_numbers) (x0_statements := m_statements) (x0_left := m_left) (x0_far := m_far) (x0_tons := m_tons) (x0_way := m_way) (x0_steps := m_steps) (x0_met := m_met) (x0_queue := m_queue) (x0_totals := m_totals) (k := k) (a := v) hml
        rw [eb]
        have hb0 : b = 0 := by
          rcases hb with hb | hb
          · exact hb.1
          · rw [← z1] at hb; exact absurd ⟨ht, gA.mpr hb.2⟩ hC
        rw [hb0]
        exact ⟨_, _, rfl, rfl, Or.inl ⟨rfl, rfl, rfl⟩⟩
      · rw [if_pos hr]
        exact ⟨_, _, rfl, rfl, Or.inl ⟨rfl, rfl, rfl⟩⟩
    · rw [if_neg ht]
      exact ⟨_, _, rfl, rfl, Or.inl ⟨rfl, rfl, rfl⟩⟩
  case pos =>
    obtain ⟨ht, hv⟩ := hC
    have hv99 : 0 ≤ v ∧ v ≤ 99 := ⟨hv.1, Int32.le_trans hv.2 (Int32.le_trans g53 (by decide))⟩
    rw [if_pos ht]
    obtain ⟨r, er, hr⟩ := in99 ht (hk.2.2.1 ht)
    rw [er]
    show Sf2 _ ((if r = 0 then _ else _ : Option _).bind _) _
    obtain ⟨hr, _, hf⟩ : ¬ r = 0 ∧ (0 ≤ v ∧ v ≤ 99) ∧ (figs t v).toInt32 = v := by
      rcases hr with hr | hr
      · exact hr
      · exact absurd hv99 hr.2
    rw [if_neg hr]
    have ek : rd 5 row1 0 = some k := by rw [r0]; rfl
    rw [ek]
    show Sf2 _ (((fX7_mayBeFirst _ k ((figs t v).toInt32)).bind _).bind _) _
    rw [hf]
    obtain ⟨b, eb, hb⟩ := mbF0 (x0_shelf := m_shelf) (x0_rowSort := m_rowSort) (x0_rowSize := m_rowSize) (x0_rows := m_rows) (x0_moved := m_moved) (x0_shown := m_shown) (x0_tape := x0_bytes) (x0_tapeSize := x0_size) (x0_refused := m_refused) (x0_line := m_line) (x0_changes := m_changes) (x0_coins := m_coins) (x0_goods := m_goods) (x0_good := m_good) (x0_works := m_works) (x0_work := m_work) (x0_years := m_years) (x0_gone := m_gone) (x0_spent := m_spent) (x0_at := e) (x0_token := t) (x0_from := s) (x0_figures := figs t v) (x0_fault := m_fault) (x0_numbers := m_numbers) (x0_statements := m_statements) (x0_left := m_left) (x0_far := m_far) (x0_tons := m_tons) (x0_way := m_way) (x0_steps := m_steps) (x0_met := m_met) (x0_queue := m_queue) (x0_totals := m_totals) (k := k) (a := v) hml
    rw [eb]
    have hVA : VA x1_lineCount k v := gA.mp hv
    have hb0 : ¬ b = 0 := by
      rcases hb with hb | hb
      · rw [← z1] at hb; exact absurd hVA hb.2
      · exact hb.1
    show Sf2 _ ((if b = 0 then _ else _ : Option _).bind _) _
    rw [if_neg hb0, Option.bind_assoc]
    refine Sf2.bind (numOk hn hs hk ht hv hv99 (by decide) (M := 5) rfl (by decide)) ?_
    rintro ⟨a, s1, e1, t1, v1⟩ ⟨ok2, q, row2⟩ ⟨ea, eo, eq, er2, hk1, hle1⟩
    have ea : a = v := ea
    have eo : ok2 = 1 := eo
    have eq : q = (e1, t1, s1, figs t1 v1, m_fault) := eq
    have er2 : row2 = va_up row1 1 v := er2
    have hk1 : TkOk x0_size s1 e1 t1 v1 := hk1
    have hle1 : e ≤ s1 := hle1
    subst ea eo eq
    have er2 : row2 = va_up row1 1 a := er2
    have ha0 : ¬ a = -1 := by
      intro e
      rw [e] at hv
      exact absurd hv.1 (by decide)
    show Sf2 (fX3_readWork_j30 n x0_bytes x0_size x1_lineCount x1_goodsCount x1_workCount x1_years x1_lines x1_goods x1_works x1_change x1_coin x1_knownFree x1_isKnown k s1 e1 t1 v1 a) ((if t1 = 2 then _ else _ : Option _).bind _) _
    unfold fX3_readWork_j30
    rw [if_neg ha0]
    refine Sf2.l greatB (fun v17 e17 => ?_)
    have g17 : v17 ≤ 99 := by
      rw [e17]
      by_cases h1 : k = 1 ∨ k = 2
      · rw [if_pos h1]; decide
      · rw [if_neg h1]
        by_cases h3 : k = 3
        · rw [if_pos h3]; decide
        · rw [if_neg h3]; decide
    have gB := gB_iff (k := k) (a := a) (b := v1)
    rw [← e17] at gB
    have u4' : Und k 4 ↔ (¬ (k = 1 ∨ k = 2) ∧ ¬ k = 3) := by
      clear gA gB
      rcases six ⟨Int32.le_trans (by decide) hkr.1, hkr.2⟩ with rfl | rfl | rfl | rfl | rfl | rfl
      · exact absurd hkr.1 (by decide)
      all_goals decide
    refine Sf2.l (isUnderC hn hkr (by decide)) (fun v19 h19 => ?_)
    have rk : rd 5 row2 0 = some k := by rw [er2, hr1]; rfl
    have ra : rd 5 row2 1 = some a := by rw [er2]; rfl
    -- the class's second number
    have v19z : v19 = 0 ↔ ¬ Und k 4 := by
      rcases h19 with h | h
      · exact ⟨fun q => by rw [h.1] at q; exact absurd q (by decide), fun q => absurd h.2 q⟩
      · exact ⟨fun _ => h.2, fun _ => h.1⟩
    have clsN : ∀ (F : Int32 → Int32 → Int32 → Int32 → Int32 → Option (Int32 × Int32 × Int32 × Int32 × Int32 × Int32 × (Nat → Int32) × Int32)), ¬ (t1 = 2 ∧ VB k a v1) → (if v19 = 0 then ((fX3_number n (x0_bytes, x0_size, s1, e1, t1, v1) 0 v17).bind (u5 fun v41 g42 g43 g44 g45 => F v41 g42 g43 g44 g45)) else ((fX3_numberUnlike n (x0_bytes, x0_size, s1, e1, t1, v1) a v17).bind (u5 fun v47 g48 g49 g50 g51 => F v47 g48 g49 g50 g51))) = F (-1) s1 e1 t1 v1 := by
      intro F hno
      by_cases hu : Und k 4
      · rw [if_neg (fun q => v19z.mp q hu)]
        unfold fX3_numberUnlike
        dsimp only [u6]
        by_cases ht1 : t1 = 2
        · rw [if_pos ht1]
          by_cases he : v1 = a
          · rw [if_pos he]
            rfl
          · rw [if_neg he]
            have hB : ¬ (0 ≤ v1 ∧ v1 ≤ v17) := fun q => hno ⟨ht1, gB.mp ⟨q, fun _ => he⟩⟩
            rw [numNo (fun h => hB h.2)]
            rfl
        · rw [if_neg ht1, numNo (fun h => ht1 h.1)]
          rfl
      · rw [if_pos (v19z.mpr hu)]
        have hB : ¬ (t1 = 2 ∧ (0 ≤ v1 ∧ v1 ≤ v17)) := fun q => hno ⟨q.1, gB.mp ⟨q.2, fun h => absurd (u4'.mpr h) hu⟩⟩
        rw [numNo hB]
        rfl
    have clsY : ∀ (F : Int32 → Int32 → Int32 → Int32 → Int32 → Option (Int32 × Int32 × Int32 × Int32 × Int32 × Int32 × (Nat → Int32) × Int32)), (t1 = 2 ∧ VB k a v1) → (if v19 = 0 then ((fX3_number n (x0_bytes, x0_size, s1, e1, t1, v1) 0 v17).bind (u5 fun v41 g42 g43 g44 g45 => F v41 g42 g43 g44 g45)) else ((fX3_numberUnlike n (x0_bytes, x0_size, s1, e1, t1, v1) a v17).bind (u5 fun v47 g48 g49 g50 g51 => F v47 g48 g49 g50 g51))) = (fX3_number n (x0_bytes, x0_size, s1, e1, t1, v1) 0 v17).bind (u5 fun v41 g42 g43 g44 g45 => F v41 g42 g43 g44 g45) := by
      intro F hyes
      by_cases hu : Und k 4
      · rw [if_neg (fun q => v19z.mp q hu)]
        unfold fX3_numberUnlike
        dsimp only [u6]
        have he : ¬ v1 = a := (hyes.2.2.2 (u4'.mp hu)).2
        rw [if_pos hyes.1, if_neg he]
        cases fX3_number n (x0_bytes, x0_size, s1, e1, t1, v1) 0 v17 with
        | none => rfl
        | some y => rfl
      · rw [if_pos (v19z.mpr hu)]
    show Sf2 (if v19 = 0 then _ else _) _ _
    by_cases hD : t1 = 2 ∧ VB k a v1
    case neg =>
      rw [clsN (fun y c1 c2 c3 c4 => fX3_readWork_j70 n x0_bytes x0_size x1_lineCount x1_goodsCount x1_workCount x1_years x1_lines x1_goods x1_works x1_change x1_coin x1_knownFree x1_isKnown k a c1 c2 c3 c4 y) hD]
      unfold fX3_readWork_j70
      rw [if_pos rfl]
      unfold fX3_readWork_j90
      rw [if_pos rfl]
      by_cases ht1 : t1 = 2
      · rw [if_pos ht1]
        obtain ⟨r, er, hr⟩ := in99 ht1 (hk1.2.2.1 ht1)
        rw [er]
        show Sf2 _ ((if r = 0 then _ else _ : Option _).bind _) _
        rcases hr with ⟨hr, hvv, hf⟩ | ⟨hr, hvv⟩
        · rw [if_neg hr, rk]
          dsimp only [Option.bind_some]
          rw [ra]
          dsimp only [Option.bind_some]
          rw [hf]
          obtain ⟨b2, eb2, hb2⟩ := mbS (k := k) (a := a) (b := v1)
          rw [eb2]
          have hb20 : b2 = 0 := by
            rcases hb2 with hb | hb
            · exact hb.1
            · exact absurd ⟨ht1, hb.2⟩ hD
          rw [hb20]
          exact ⟨_, _, rfl, rfl, Or.inl ⟨rfl, rfl, rfl⟩⟩
        · rw [if_pos hr]
          exact ⟨_, _, rfl, rfl, Or.inl ⟨rfl, rfl, rfl⟩⟩
      · rw [if_neg ht1]
        exact ⟨_, _, rfl, rfl, Or.inl ⟨rfl, rfl, rfl⟩⟩
    case pos =>
      rw [clsY (fun y c1 c2 c3 c4 => fX3_readWork_j70 n x0_bytes x0_size x1_lineCount x1_goodsCount x1_workCount x1_years x1_lines x1_goods x1_works x1_change x1_coin x1_knownFree x1_isKnown k a c1 c2 c3 c4 y) hD]
      obtain ⟨ht1, hVB⟩ := hD
      have hvb : 0 ≤ v1 ∧ v1 ≤ v17 := (gB.mpr hVB).1
      have hvb99 : 0 ≤ v1 ∧ v1 ≤ 99 := ⟨hvb.1, Int32.le_trans hvb.2 g17⟩
      rw [if_pos ht1]
      obtain ⟨r, er, hr⟩ := in99 ht1 (hk1.2.2.1 ht1)
      rw [er]
      show Sf2 _ ((if r = 0 then _ else _ : Option _).bind _) _
      obtain ⟨hr, _, hf⟩ : ¬ r = 0 ∧ (0 ≤ v1 ∧ v1 ≤ 99) ∧ (figs t1 v1).toInt32 = v1 := by
        rcases hr with hr | hr
        · exact hr
        · exact absurd hvb99 hr.2
      rw [if_neg hr, rk]
      dsimp only [Option.bind_some]
      rw [ra]
      dsimp only [Option.bind_some]
      rw [hf]
      obtain ⟨b2, eb2, hb2⟩ := mbS (k := k) (a := a) (b := v1)
      rw [eb2]
      have hb20 : ¬ b2 = 0 := by
        rcases hb2 with hb | hb
        · exact absurd hVB hb.2
        · exact hb.1
      show Sf2 _ ((if b2 = 0 then _ else _ : Option _).bind _) _
      rw [if_neg hb20, Option.bind_assoc]
      refine Sf2.bind (numOk hn hs hk1 ht1 hvb hvb99 (by decide) (M := 5) rfl (by decide)) ?_
      rintro ⟨y, s2, e2, t2, v2⟩ ⟨ok3, q, row3⟩ ⟨ey, eo3, eq3, er3, hk2, hle2⟩
      have ey9 : y = v1 := ey
      have eo9 : ok3 = 1 := eo3
      have eq9 : q = (e2, t2, s2, figs t2 v2, m_fault) := eq3
      have er3 : row3 = va_up row2 2 v1 := er3
      have hk2 : TkOk x0_size s2 e2 t2 v2 := hk2
      have hle2 : e1 ≤ s2 := hle2
      subst ey9 eo9 eq9
      have er3 : row3 = va_up row2 2 y := er3
      have hy0 : ¬ y = -1 := by
        intro e
        rw [e] at hvb
        exact absurd hvb.1 (by decide)
      show Sf2 (fX3_readWork_j70 n x0_bytes x0_size x1_lineCount x1_goodsCount x1_workCount x1_years x1_lines x1_goods x1_works x1_change x1_coin x1_knownFree x1_isKnown k a s2 e2 t2 v2 y) _ _
      unfold fX3_readWork_j70
      rw [if_neg hy0]
      show Sf2 _ ((_ : Option _).bind _) _
      try dsimp only [u3, u5]
      rw [Option.bind_assoc]
      refine Sf2.bind (num2 hn hs hk2 (by decide) (by decide) (M := 5) rfl (by decide)) ?_
      rintro ⟨w, s3, e3, t3, v3⟩ ⟨ok, q, row4⟩ ⟨h, hr4⟩
      have h := NmR.rd (e0 := e2) (by decide) (Int32.le_refl _) h
      unfold fX3_readWork_j90
      rcases h with ⟨hw, ho, hq⟩ | ⟨hw, ho, hq, hk3, hle3⟩
      · have hw : w = -1 := hw
        have ho : ok = 0 := ho
        have hq : q = (e3, t3, s3, figs t3 v3, s3) := hq
        subst hq ho
        show Sf2 (if w = -1 then _ else _) _ _
        rw [if_pos hw]
        exact ⟨_, _, rfl, rfl, Or.inl ⟨rfl, rfl, rfl⟩⟩
      have hw : ¬ w = -1 := hw
      have ho : ok = 1 := ho
      have hq : q = (e3, t3, s3, figs t3 v3, m_fault) := hq
      have hk3 : TkOk x0_size s3 e3 t3 v3 := hk3
      have hle3 : e2 ≤ s3 := hle3
      subst hq ho
      have hr4 : row4 = va_up row3 3 w := hr4.resolve_left (by show ¬ (1 : Int32) = 0; decide)
      show Sf2 (if w = -1 then _ else _) _ _
      rw [if_neg hw]
      refine Sf2.l (addWorkS ⟨hwc.1, Int32.not_le.mp hlt⟩) ?_
      rintro ⟨g31, g32, g33⟩ ⟨a1, _, C⟩
      have a1 : g31 = x1_workCount + 1 := a1
      have C : AddR 5 (ro 5 x1_works) (ro 5 g32) x1_workCount.toNatClampNeg [k, a, y, w, 0] := C
      have er2 : row2 = va_up row1 1 a := er2
      have er3 : row3 = va_up row2 2 y := er3
      have D : AddR 5 m_work (va_up m_work m_works.toNatClampNeg row4) x1_workCount.toNatClampNeg [k, a, y, w, 0] := by
        rw [z3]
        refine ⟨fun l hl c hc => by rw [va_ne _ _ hl], fun c hc => ?_⟩
        rw [va_eq, hr4, er3, er2, hr1, ef1]
        rcases (show c = 0 ∨ c = 1 ∨ c = 2 ∨ c = 3 ∨ c = 4 by omega) with rfl | rfl | rfl | rfl | rfl <;> rfl
      have h20 : ¬ (20 : Int32) ≤ x1_workCount := fun h => absurd (Int32.le_trans h hwc.2) (by decide)
      refine ⟨_, _, rfl, rfl, Or.inr ⟨by show ¬ (1 : Int32) = 0; decide, by show ¬ (1 : Int32) = 0; decide, rfl, hk3, Int32.le_trans hle (Int32.le_trans hk.1.2 (Int32.le_trans hle1 (Int32.le_trans hk1.1.2 (Int32.le_trans hle2 (Int32.le_trans hk2.1.2 hle3))))), ?_⟩⟩
      show LaD x1_lineCount x1_goodsCount g31 x1_years x1_lines x1_goods g32 x1_change x1_coin m_lines m_line m_changes m_coins m_goods m_good (m_works + 1) (va_up m_work m_works.toNatClampNeg row4) m_years
      rw [a1]
      refine ⟨⟨z1, z2, by rw [z3], z4⟩, z5, z6, AddR.alike hwc.1 h20 C D z7, z8, z9, fun j hj => ?_⟩
      rw [(up1 hwc.1 (B := 20) (by decide) h20).2.1] at hj
      by_cases ej : j = x1_workCount.toNatClampNeg
      · rw [ej]
        exact Wf1_of ⟨hkr, hVA, hVB⟩ C.2
      · exact (z10 j (by omega)).congr (fun c hc => (C.1 j ej c (by omega)).symm)
end
section
/-! small things owed -/
theorem sX3_readChange01 {n : Nat} {x0_bytes : (Nat → Int32)} {x0_size : Int32} {x0_start : Int32} {x0_end : Int32} {x0_token : Int32} {x0_value : Int32} {x1_lineCount : Int32} {x1_goodsCount : Int32} {x1_workCount : Int32} {x1_years : Int32} {x1_lines : (Nat → Int32)} {x1_goods : (Nat → Int32)} {x1_works : (Nat → Int32)} {x1_change : (Nat → Int32)} {x1_coin : (Nat → Int32)} {x1_knownFree : (Nat → Int32)} {x1_isKnown : Int32} (hn : 1000000000000 ≤ n) (hs : 0 ≤ x0_size ∧ x0_size ≤ 250) (hT : TkOk x0_size x0_start x0_end x0_token x0_value) : Sf (fX3_readChange n (x0_bytes, x0_size, x0_start, x0_end, x0_token, x0_value) (x1_lineCount, x1_goodsCount, x1_workCount, x1_years, x1_lines, x1_goods, x1_works, x1_change, x1_coin, x1_knownFree, x1_isKnown)) (fun r => r.1 = 0 ∨ r.1 = 1) := by
  have he : 0 ≤ x0_end ∧ x0_end ≤ 250 := ⟨Int32.le_trans hT.1.1 hT.1.2, Int32.le_trans hT.2.1 hs.2⟩
  have hst : 0 ≤ x0_start ∧ x0_start ≤ 250 := ⟨hT.1.1, Int32.le_trans hT.1.2 he.2⟩
  have j : ∀ k a b c d y, Sf (fX3_readChange_j28 x1_lineCount x1_goodsCount x1_workCount x1_years x1_lines x1_goods x1_works x1_change x1_coin x1_knownFree x1_isKnown k a b c d y) (fun r => r.1 = 0 ∨ r.1 = 1) := by
    intro k a b c d y
    unfold fX3_readChange_j28
    refine Sf.ite (fun _ => Sf.ok (Or.inl rfl)) (fun _ => ?_)
    refine Sf.bind (P := fun _ => True) ?_ (fun g _ => by obtain ⟨g1, g2⟩ := g; exact Sf.ok (Or.inr rfl))
    unfold fX1_putChange
    dsimp only [u11]
    refine Sf.ite (fun _ => Sf.ok trivial) (fun h1 => Sf.ite (fun _ => Sf.ok trivial) (fun h2 => ?_))
    exact Sf.wrb 12 rfl ⟨Int32.not_lt.mp h1, Int32.not_le.mp h2⟩ (fun f e => Sf.ok trivial)
  unfold fX3_readChange
  dsimp only [u6, u11]
  refine Sf.bind (sX3_next hn hs hst he) ?_
  rintro ⟨g1, g2, g3, g4⟩ ⟨h1, h2⟩
  refine Sf.bind (sX3_number hn hs h1 h2) ?_
  rintro ⟨v6, g7, g8, g9, g10⟩ h3
  try dsimp only [u5]
  refine Sf.ite (fun _ => j _ _ _ _ _ _) (fun _ => ?_)
  refine Sf.bind (P := fun _ => True) (Sf.mono (sX3_number hn hs h3.1 h3.2.1) (fun _ _ => trivial)) (fun g _ => by obtain ⟨a, b, c, d, e⟩ := g; exact j _ _ _ _ _ _)
theorem sX3_readCoin01 {n : Nat} {x0_bytes : (Nat → Int32)} {x0_size : Int32} {x0_start : Int32} {x0_end : Int32} {x0_token : Int32} {x0_value : Int32} {x1_lineCount : Int32} {x1_goodsCount : Int32} {x1_workCount : Int32} {x1_years : Int32} {x1_lines : (Nat → Int32)} {x1_goods : (Nat → Int32)} {x1_works : (Nat → Int32)} {x1_change : (Nat → Int32)} {x1_coin : (Nat → Int32)} {x1_knownFree : (Nat → Int32)} {x1_isKnown : Int32} (hn : 1000000000000 ≤ n) (hs : 0 ≤ x0_size ∧ x0_size ≤ 250) (hT : TkOk x0_size x0_start x0_end x0_token x0_value) : Sf (fX3_readCoin n (x0_bytes, x0_size, x0_start, x0_end, x0_token, x0_value) (x1_lineCount, x1_goodsCount, x1_workCount, x1_years, x1_lines, x1_goods, x1_works, x1_change, x1_coin, x1_knownFree, x1_isKnown)) (fun r => r.1 = 0 ∨ r.1 = 1) := by
  have he : 0 ≤ x0_end ∧ x0_end ≤ 250 := ⟨Int32.le_trans hT.1.1 hT.1.2, Int32.le_trans hT.2.1 hs.2⟩
  have hst : 0 ≤ x0_start ∧ x0_start ≤ 250 := ⟨hT.1.1, Int32.le_trans hT.1.2 he.2⟩
  have j : ∀ k a b c d y, Sf (fX3_readCoin_j27 x1_lineCount x1_goodsCount x1_workCount x1_years x1_lines x1_goods x1_works x1_change x1_coin x1_knownFree x1_isKnown k a b c d y) (fun r => r.1 = 0 ∨ r.1 = 1) := by
    intro k a b c d y
    unfold fX3_readCoin_j27
    refine Sf.ite (fun _ => Sf.ok (Or.inl rfl)) (fun _ => ?_)
    refine Sf.bind (P := fun _ => True) ?_ (fun g _ => by obtain ⟨g1, g2⟩ := g; exact Sf.ok (Or.inr rfl))
    unfold fX1_putCoin
    dsimp only [u11]
    refine Sf.ite (fun _ => Sf.ok trivial) (fun h1 => Sf.ite (fun _ => Sf.ok trivial) (fun h2 => ?_))
    exact Sf.wrb 3 rfl ⟨Int32.not_lt.mp h1, Int32.not_le.mp h2⟩ (fun f e => Sf.ok trivial)
  unfold fX3_readCoin
  dsimp only [u6, u11]
  refine Sf.bind (sX3_next hn hs hst he) ?_
  rintro ⟨g1, g2, g3, g4⟩ ⟨h1, h2⟩
  refine Sf.bind (sX3_number hn hs h1 h2) ?_
  rintro ⟨v6, g7, g8, g9, g10⟩ h3
  try dsimp only [u5]
  refine Sf.ite (fun _ => j _ _ _ _ _ _) (fun _ => ?_)
  refine Sf.bind (P := fun _ => True) (Sf.mono (sX3_number hn hs h3.1 h3.2.1) (fun _ _ => trivial)) (fun g _ => by obtain ⟨a, b, c, d, e⟩ := g; exact j _ _ _ _ _ _)
/-! the statement -/
theorem word1 {n p : Nat} {x0_bytes : (Nat → Int32)} {x0_size : Int32} {x0_start : Int32} {x0_end : Int32} {x0_token : Int32} {x0_value : Int32} {v L c0 : Int32} (hn : 1000000000000 ≤ n) (h : fX3_isWord n (x0_bytes, x0_size, x0_start, x0_end, x0_token, x0_value) p = some v) (hv : ¬ v = 0) (hl : slen p = some L) (h0 : ¬ L ≤ 0) (hc : schar p 0 = some c0) : x0_token = 1 ∧ x0_end - x0_start = L ∧ rd 250 x0_bytes (x0_start + 0) = some c0 := by
  obtain ⟨k, rfl⟩ : ∃ k, n = k + 1 := ⟨n - 1, by omega⟩
  unfold fX3_isWord at h
  dsimp only [u6] at h
  by_cases ht : x0_token = 1
  case neg =>
    rw [if_neg ht] at h
    cases h
    exact absurd rfl hv
  rw [if_pos ht, hl] at h
  have h : (if (x0_end - x0_start) = L then ((lp (fX3_isWord_s28 p x0_bytes x0_start) (k + 1) (0)).bind (Sum.elim (fun _ => some (0)) (fun _ => some (1)))) else (some (0))) = some v := h
  by_cases he : x0_end - x0_start = L
  case neg =>
    rw [if_neg he] at h
    cases h
    exact absurd rfl hv
  rw [if_pos he] at h
  refine ⟨ht, he, ?_⟩
  have st : fX3_isWord_s28 p x0_bytes x0_start 0 = (rd 250 x0_bytes (x0_start + 0)).bind fun v6 => if v6 = c0 then (some (.inl ((0 : Int32) + 1))) else (some (.inr (.inl ()))) := by
    unfold fX3_isWord_s28
    rw [hl]
    show (if L ≤ 0 then _ else _) = _
    rw [if_neg h0, hc]
    rfl
  cases hr : rd 250 x0_bytes (x0_start + 0) with
  | none =>
    rw [hr] at st
    have e : lp (fX3_isWord_s28 p x0_bytes x0_start) (k + 1) 0 = none := by
      unfold lp
      rw [st]
      rfl
    rw [e] at h
    cases h
  | some x =>
    rw [hr] at st
    by_cases hx : x = c0
    · rw [hx]
    · exfalso
      have st2 : fX3_isWord_s28 p x0_bytes x0_start 0 = some (.inr (.inl ())) := by
        rw [st]
        show (if x = c0 then _ else _) = _
        rw [if_neg hx]
      have e : lp (fX3_isWord_s28 p x0_bytes x0_start) (k + 1) 0 = some (.inl ()) := by
        unfold lp
        rw [st2]
      rw [e] at h
      cases h
      exact absurd rfl hv
/-- another word does not stand there -/
theorem wordNo {n p p' : Nat} {x0_bytes : (Nat → Int32)} {x0_size : Int32} {x0_start : Int32} {x0_end : Int32} {x0_token : Int32} {x0_value : Int32} {v L c0 L' c0' : Int32} (hn : 1000000000000 ≤ n) (hs : 0 ≤ x0_size ∧ x0_size ≤ 250) (hT : TkOk x0_size x0_start x0_end x0_token x0_value) (h : fX3_isWord n (x0_bytes, x0_size, x0_start, x0_end, x0_token, x0_value) p = some v) (hv : ¬ v = 0) (hl : slen p = some L) (h0 : ¬ L ≤ 0) (hc : schar p 0 = some c0) (hp : p' < 10) (hl' : slen p' = some L') (h0' : ¬ L' ≤ 0) (hc' : schar p' 0 = some c0') (hd : ¬ L = L' ∨ ¬ c0 = c0') : fX3_isWord n (x0_bytes, x0_size, x0_start, x0_end, x0_token, x0_value) p' = some 0 := by
  obtain ⟨v', e'⟩ := isWordS (n := n) (p := p') (x0_bytes := x0_bytes) hn hs hT hp
  by_cases hv' : v' = 0
  · rw [e', hv']
  · exfalso
    obtain ⟨_, a1, a2⟩ := word1 hn h hv hl h0 hc
    obtain ⟨_, b1, b2⟩ := word1 hn e' hv' hl' h0' hc'
    rcases hd with hd | hd
    · exact hd (a1.symm.trans b1)
    · rw [a2] at b2
      exact hd (Option.some.inj b2)
theorem Sf2.mapL {α β γ : Type} {x : Option α} {y : Option β} {R : α → β → Prop} {f : α → Option γ} {S : γ → β → Prop} (h : Sf2 x y R) (k : ∀ a b, R a b → ∃ c, f a = some c ∧ S c b) : Sf2 (x.bind f) y S := by
  obtain ⟨a, b, e1, e2, r⟩ := h
  obtain ⟨c, e3, s⟩ := k a b r
  rw [e1, e2]
  exact ⟨c, b, e3, rfl, s⟩
theorem w19 {n : Nat} {x0_bytes : (Nat → Int32)} {x0_size : Int32} {x0_start : Int32} {x0_end : Int32} {x0_token : Int32} {x0_value : Int32} {m_shelf : (Nat → Int32)} {m_rowSort : (Nat → Int32)} {m_rowSize : (Nat → Int32)} {m_rows : (Nat → Nat → Int64)} {m_moved : (Nat → Int64)} {m_shown : (Nat → Int32)} {m_refused : (Nat → Int32)} {m_lines : Int32} {m_line : (Nat → Nat → Int32)} {m_changes : (Nat → Int32)} {m_coins : (Nat → Int32)} {m_goods : Int32} {m_good : (Nat → Nat → Int32)} {m_works : Int32} {m_work : (Nat → Nat → Int32)} {m_years : Int32} {m_gone : Int32} {m_spent : Int32} {m_fault : Int32} {m_numbers : (Nat → Int32)} {m_statements : Int32} {m_left : (Nat → Int32)} {m_far : (Nat → Int32)} {m_tons : Int32} {m_way : (Nat → Int32)} {m_steps : Int32} {m_met : Int64} {m_queue : (Nat → Int32)} {m_totals : (Nat → Int32)} (h : fX3_isWord n (x0_bytes, x0_size, x0_start, x0_end, x0_token, x0_value) 9 = some 0) : ∃ b, sYears n m_shelf m_rowSort m_rowSize m_rows m_moved m_shown x0_bytes x0_size m_refused m_lines m_line m_changes m_coins m_goods m_good m_works m_work m_years m_gone m_spent x0_end x0_token x0_start (figs x0_token x0_value) m_fault m_numbers m_statements m_left m_far m_tons m_way m_steps m_met m_queue m_totals = some b ∧ b.1 = 0 ∧ b.2.2.2.2.2.2.2.2.2.2.2.2.2.2.1 = x0_start := by
  unfold sYears fX7_toldN
  dsimp only [u35]
  rw [isWordE (p := 9) (p' := 19) rfl rfl, h]
  exact ⟨_, rfl, rfl, rfl⟩
theorem w17 {n : Nat} {x0_bytes : (Nat → Int32)} {x0_size : Int32} {x0_start : Int32} {x0_end : Int32} {x0_token : Int32} {x0_value : Int32} {m_shelf : (Nat → Int32)} {m_rowSort : (Nat → Int32)} {m_rowSize : (Nat → Int32)} {m_rows : (Nat → Nat → Int64)} {m_moved : (Nat → Int64)} {m_shown : (Nat → Int32)} {m_refused : (Nat → Int32)} {m_lines : Int32} {m_line : (Nat → Nat → Int32)} {m_changes : (Nat → Int32)} {m_coins : (Nat → Int32)} {m_goods : Int32} {m_good : (Nat → Nat → Int32)} {m_works : Int32} {m_work : (Nat → Nat → Int32)} {m_years : Int32} {m_gone : Int32} {m_spent : Int32} {m_fault : Int32} {m_numbers : (Nat → Int32)} {m_statements : Int32} {m_left : (Nat → Int32)} {m_far : (Nat → Int32)} {m_tons : Int32} {m_way : (Nat → Int32)} {m_steps : Int32} {m_met : Int64} {m_queue : (Nat → Int32)} {m_totals : (Nat → Int32)} (h7 : fX3_isWord n (x0_bytes, x0_size, x0_start, x0_end, x0_token, x0_value) 7 = some 0) (h8 : fX3_isWord n (x0_bytes, x0_size, x0_start, x0_end, x0_token, x0_value) 8 = some 0) (h9 : fX3_isWord n (x0_bytes, x0_size, x0_start, x0_end, x0_token, x0_value) 9 = some 0) : ∃ b, fX7_statement_j214 n m_shelf m_rowSort m_rowSize m_rows m_moved m_shown x0_bytes x0_size m_refused m_lines m_line m_changes m_coins m_goods m_good m_works m_work m_years m_gone m_spent x0_end x0_token x0_start (figs x0_token x0_value) m_fault m_numbers m_statements m_left m_far m_tons m_way m_steps m_met m_queue m_totals = some b ∧ b.1 = 0 ∧ b.2.2.2.2.2.2.2.2.2.2.2.2.2.2.1 = x0_start := by
  obtain ⟨b, e, h⟩ := w19 (m_shelf := m_shelf) (m_rowSort := m_rowSort) (m_rowSize := m_rowSize) (m_rows := m_rows) (m_moved := m_moved) (m_shown := m_shown) (m_refused := m_refused) (m_lines := m_lines) (m_line := m_line) (m_changes := m_changes) (m_coins := m_coins) (m_goods := m_goods) (m_good := m_good) (m_works := m_works) (m_work := m_work) (m_years := m_years) (m_gone := m_gone) (m_spent := m_spent) (m_fault := m_fault) (m_numbers := m_numbers) (m_statements := m_statements) (m_left := m_left) (m_far := m_far) (m_tons := m_tons) (m_way := m_way) (m_steps := m_steps) (m_met := m_met) (m_queue := m_queue) (m_totals := m_totals) h9
  refine ⟨b, ?_, h⟩
  rw [st_3, isWordE (p := 7) (p' := 17) rfl rfl, h7, Option.bind_some, if_pos rfl, isWordE (p := 8) (p' := 18) rfl rfl, h8, Option.bind_some, if_pos rfl]
  exact e
theorem w16 {n : Nat} {x0_bytes : (Nat → Int32)} {x0_size : Int32} {x0_start : Int32} {x0_end : Int32} {x0_token : Int32} {x0_value : Int32} {m_shelf : (Nat → Int32)} {m_rowSort : (Nat → Int32)} {m_rowSize : (Nat → Int32)} {m_rows : (Nat → Nat → Int64)} {m_moved : (Nat → Int64)} {m_shown : (Nat → Int32)} {m_refused : (Nat → Int32)} {m_lines : Int32} {m_line : (Nat → Nat → Int32)} {m_changes : (Nat → Int32)} {m_coins : (Nat → Int32)} {m_goods : Int32} {m_good : (Nat → Nat → Int32)} {m_works : Int32} {m_work : (Nat → Nat → Int32)} {m_years : Int32} {m_gone : Int32} {m_spent : Int32} {m_fault : Int32} {m_numbers : (Nat → Int32)} {m_statements : Int32} {m_left : (Nat → Int32)} {m_far : (Nat → Int32)} {m_tons : Int32} {m_way : (Nat → Int32)} {m_steps : Int32} {m_met : Int64} {m_queue : (Nat → Int32)} {m_totals : (Nat → Int32)} (h6 : fX3_isWord n (x0_bytes, x0_size, x0_start, x0_end, x0_token, x0_value) 6 = some 0) (h : ∃ b, fX7_statement_j214 n m_shelf m_rowSort m_rowSize m_rows m_moved m_shown x0_bytes x0_size m_refused m_lines m_line m_changes m_coins m_goods m_good m_works m_work m_years m_gone m_spent x0_end x0_token x0_start (figs x0_token x0_value) m_fault m_numbers m_statements m_left m_far m_tons m_way m_steps m_met m_queue m_totals = some b ∧ b.1 = 0 ∧ b.2.2.2.2.2.2.2.2.2.2.2.2.2.2.1 = x0_start) : ∃ b, fX7_statement_j182 n m_shelf m_rowSort m_rowSize m_rows m_moved m_shown x0_bytes x0_size m_refused m_lines m_line m_changes m_coins m_goods m_good m_works m_work m_years m_gone m_spent x0_end x0_token x0_start (figs x0_token x0_value) m_fault m_numbers m_statements m_left m_far m_tons m_way m_steps m_met m_queue m_totals = some b ∧ b.1 = 0 ∧ b.2.2.2.2.2.2.2.2.2.2.2.2.2.2.1 = x0_start := by
  obtain ⟨b, e, h⟩ := h
  refine ⟨b, ?_, h⟩
  rw [st_2, isWordE (p := 6) (p' := 16) rfl rfl, h6, Option.bind_some, if_pos rfl]
  exact e
theorem w15 {n : Nat} {x0_bytes : (Nat → Int32)} {x0_size : Int32} {x0_start : Int32} {x0_end : Int32} {x0_token : Int32} {x0_value : Int32} {m_shelf : (Nat → Int32)} {m_rowSort : (Nat → Int32)} {m_rowSize : (Nat → Int32)} {m_rows : (Nat → Nat → Int64)} {m_moved : (Nat → Int64)} {m_shown : (Nat → Int32)} {m_refused : (Nat → Int32)} {m_lines : Int32} {m_line : (Nat → Nat → Int32)} {m_changes : (Nat → Int32)} {m_coins : (Nat → Int32)} {m_goods : Int32} {m_good : (Nat → Nat → Int32)} {m_works : Int32} {m_work : (Nat → Nat → Int32)} {m_years : Int32} {m_gone : Int32} {m_spent : Int32} {m_fault : Int32} {m_numbers : (Nat → Int32)} {m_statements : Int32} {m_left : (Nat → Int32)} {m_far : (Nat → Int32)} {m_tons : Int32} {m_way : (Nat → Int32)} {m_steps : Int32} {m_met : Int64} {m_queue : (Nat → Int32)} {m_totals : (Nat → Int32)} (h5 : fX3_isWord n (x0_bytes, x0_size, x0_start, x0_end, x0_token, x0_value) 5 = some 0) (h : ∃ b, fX7_statement_j182 n m_shelf m_rowSort m_rowSize m_rows m_moved m_shown x0_bytes x0_size m_refused m_lines m_line m_changes m_coins m_goods m_good m_works m_work m_years m_gone m_spent x0_end x0_token x0_start (figs x0_token x0_value) m_fault m_numbers m_statements m_left m_far m_tons m_way m_steps m_met m_queue m_totals = some b ∧ b.1 = 0 ∧ b.2.2.2.2.2.2.2.2.2.2.2.2.2.2.1 = x0_start) : ∃ b, fX7_statement_j114 n m_shelf m_rowSort m_rowSize m_rows m_moved m_shown x0_bytes x0_size m_refused m_lines m_line m_changes m_coins m_goods m_good m_works m_work m_years m_gone m_spent x0_end x0_token x0_start (figs x0_token x0_value) m_fault m_numbers m_statements m_left m_far m_tons m_way m_steps m_met m_queue m_totals = some b ∧ b.1 = 0 ∧ b.2.2.2.2.2.2.2.2.2.2.2.2.2.2.1 = x0_start := by
  obtain ⟨b, e, h⟩ := h
  refine ⟨b, ?_, h⟩
  rw [st_1, isWordE (p := 5) (p' := 15) rfl rfl, h5, Option.bind_some, if_pos rfl]
  exact e
theorem stL {n : Nat} {x0_bytes : (Nat → Int32)} {x0_size : Int32} {x0_start : Int32} {x0_end : Int32} {x0_token : Int32} {x0_value : Int32} {x1_lineCount : Int32} {x1_goodsCount : Int32} {x1_workCount : Int32} {x1_years : Int32} {x1_lines : (Nat → Int32)} {x1_goods : (Nat → Int32)} {x1_works : (Nat → Int32)} {x1_change : (Nat → Int32)} {x1_coin : (Nat → Int32)} {x1_knownFree : (Nat → Int32)} {x1_isKnown : Int32} {m_shelf : (Nat → Int32)} {m_rowSort : (Nat → Int32)} {m_rowSize : (Nat → Int32)} {m_rows : (Nat → Nat → Int64)} {m_moved : (Nat → Int64)} {m_shown : (Nat → Int32)} {m_refused : (Nat → Int32)} {m_lines : Int32} {m_line : (Nat → Nat → Int32)} {m_changes : (Nat → Int32)} {m_coins : (Nat → Int32)} {m_goods : Int32} {m_good : (Nat → Nat → Int32)} {m_works : Int32} {m_work : (Nat → Nat → Int32)} {m_years : Int32} {m_gone : Int32} {m_spent : Int32} {m_fault : Int32} {m_numbers : (Nat → Int32)} {m_statements : Int32} {m_left : (Nat → Int32)} {m_far : (Nat → Int32)} {m_tons : Int32} {m_way : (Nat → Int32)} {m_steps : Int32} {m_met : Int64} {m_queue : (Nat → Int32)} {m_totals : (Nat → Int32)} {v0 : Int32} (hn : 1000000000000 ≤ n) (hs : 0 ≤ x0_size ∧ x0_size ≤ 250) (hT : TkOk x0_size x0_start x0_end x0_token x0_value) (ev : fX3_isWord n (x0_bytes, x0_size, x0_start, x0_end, x0_token, x0_value) 0 = some v0) (hv : ¬ v0 = 0) (hlc : 0 ≤ x1_lineCount ∧ x1_lineCount ≤ 20) (hf : ¬ 20 ≤ x1_lineCount) (hA : (LaD x1_lineCount x1_goodsCount x1_workCount x1_years x1_lines x1_goods x1_works x1_change x1_coin m_lines m_line m_changes m_coins m_goods m_good m_works m_work m_years)) : Sf2 ((fX3_readLine n (x0_bytes, x0_size, x0_start, x0_end, x0_token, x0_value) (x1_lineCount, x1_goodsCount, x1_workCount, x1_years, x1_lines, x1_goods, x1_works, x1_change, x1_coin, x1_knownFree, x1_isKnown)).bind (u8 fun g0 g1 g2 g3 g4 g5 g6 g7 => if g0 = 0 then (some (0, g1, g2, g3, g4, (g5, x1_goodsCount, x1_workCount, x1_years, g6, x1_goods, x1_works, x1_change, x1_coin, g7))) else (some (1, g1, g2, g3, g4, (g5, x1_goodsCount, x1_workCount, x1_years, g6, x1_goods, x1_works, x1_change, x1_coin, g7))))) (sLine n m_shelf m_rowSort m_rowSize m_rows m_moved m_shown x0_bytes x0_size m_refused m_lines m_line m_changes m_coins m_goods m_good m_works m_work m_years m_gone m_spent x0_end x0_token x0_start (figs x0_token x0_value) m_fault m_numbers m_statements m_left m_far m_tons m_way m_steps m_met m_queue m_totals) (fun r q => StR x0_size x0_end r.1 r.2.1 r.2.2.1 r.2.2.2.1 r.2.2.2.2.1 r.2.2.2.2.2.1 r.2.2.2.2.2.2.1 r.2.2.2.2.2.2.2.1 r.2.2.2.2.2.2.2.2.1 r.2.2.2.2.2.2.2.2.2.1 r.2.2.2.2.2.2.2.2.2.2.1 r.2.2.2.2.2.2.2.2.2.2.2.1 r.2.2.2.2.2.2.2.2.2.2.2.2.1 r.2.2.2.2.2.2.2.2.2.2.2.2.2.1 q.1 q.2.1 q.2.2.1 q.2.2.2.1 q.2.2.2.2.1 q.2.2.2.2.2.1 q.2.2.2.2.2.2.1 q.2.2.2.2.2.2.2.1 q.2.2.2.2.2.2.2.2.1 q.2.2.2.2.2.2.2.2.2.1 q.2.2.2.2.2.2.2.2.2.2.1 q.2.2.2.2.2.2.2.2.2.2.2.1 q.2.2.2.2.2.2.2.2.2.2.2.2.1 q.2.2.2.2.2.2.2.2.2.2.2.2.2.1 q.2.2.2.2.2.2.2.2.2.2.2.2.2.2.1 ∧ (¬ r.1 = 0 → x0_start < x0_end)) := by
  have hlt : x0_start < x0_end := hT.2.2.2 (by rw [(word1 hn ev hv (L := 4) rfl (by decide) (c0 := 108) rfl).1]; decide)
  refine Sf2.mapL (line2 hn hs hT hlc hf hA) ?_
  rintro ⟨g0, g1, g2, g3, g4, g5, g6, g7⟩ b h
  by_cases ho : g0 = 0
  · refine ⟨_, if_pos ho, ?_, fun _ => hlt⟩
    rcases h with h | h
    · exact Or.inl ⟨rfl, h.2⟩
    · exact absurd ho h.1
  · refine ⟨_, if_neg ho, ?_, fun _ => hlt⟩
    rcases h with h | h
    · exact absurd h.1 ho
    · exact Or.inr ⟨(show ¬ (1 : Int32) = 0 by decide), h.2⟩
theorem stG {n : Nat} {x0_bytes : (Nat → Int32)} {x0_size : Int32} {x0_start : Int32} {x0_end : Int32} {x0_token : Int32} {x0_value : Int32} {x1_lineCount : Int32} {x1_goodsCount : Int32} {x1_workCount : Int32} {x1_years : Int32} {x1_lines : (Nat → Int32)} {x1_goods : (Nat → Int32)} {x1_works : (Nat → Int32)} {x1_change : (Nat → Int32)} {x1_coin : (Nat → Int32)} {x1_knownFree : (Nat → Int32)} {x1_isKnown : Int32} {m_shelf : (Nat → Int32)} {m_rowSort : (Nat → Int32)} {m_rowSize : (Nat → Int32)} {m_rows : (Nat → Nat → Int64)} {m_moved : (Nat → Int64)} {m_shown : (Nat → Int32)} {m_refused : (Nat → Int32)} {m_lines : Int32} {m_line : (Nat → Nat → Int32)} {m_changes : (Nat → Int32)} {m_coins : (Nat → Int32)} {m_goods : Int32} {m_good : (Nat → Nat → Int32)} {m_works : Int32} {m_work : (Nat → Nat → Int32)} {m_years : Int32} {m_gone : Int32} {m_spent : Int32} {m_fault : Int32} {m_numbers : (Nat → Int32)} {m_statements : Int32} {m_left : (Nat → Int32)} {m_far : (Nat → Int32)} {m_tons : Int32} {m_way : (Nat → Int32)} {m_steps : Int32} {m_met : Int64} {m_queue : (Nat → Int32)} {m_totals : (Nat → Int32)} {v0 : Int32} (hn : 1000000000000 ≤ n) (hs : 0 ≤ x0_size ∧ x0_size ≤ 250) (hT : TkOk x0_size x0_start x0_end x0_token x0_value) (ev : fX3_isWord n (x0_bytes, x0_size, x0_start, x0_end, x0_token, x0_value) 5 = some v0) (hv : ¬ v0 = 0) (hgc : 0 ≤ x1_goodsCount ∧ x1_goodsCount ≤ 8) (hf : ¬ 8 ≤ x1_goodsCount) (hA : (LaD x1_lineCount x1_goodsCount x1_workCount x1_years x1_lines x1_goods x1_works x1_change x1_coin m_lines m_line m_changes m_coins m_goods m_good m_works m_work m_years)) : Sf2 ((fX3_readGoods n (x0_bytes, x0_size, x0_start, x0_end, x0_token, x0_value) (x1_lineCount, x1_goodsCount, x1_workCount, x1_years, x1_lines, x1_goods, x1_works, x1_change, x1_coin, x1_knownFree, x1_isKnown)).bind (u8 fun g0 g1 g2 g3 g4 g5 g6 g7 => if g0 = 0 then (some (0, g1, g2, g3, g4, (x1_lineCount, g5, x1_workCount, x1_years, x1_lines, g6, x1_works, x1_change, x1_coin, g7))) else (some (1, g1, g2, g3, g4, (x1_lineCount, g5, x1_workCount, x1_years, x1_lines, g6, x1_works, x1_change, x1_coin, g7))))) (sGoods n m_shelf m_rowSort m_rowSize m_rows m_moved m_shown x0_bytes x0_size m_refused m_lines m_line m_changes m_coins m_goods m_good m_works m_work m_years m_gone m_spent x0_end x0_token x0_start (figs x0_token x0_value) m_fault m_numbers m_statements m_left m_far m_tons m_way m_steps m_met m_queue m_totals) (fun r q => StR x0_size x0_end r.1 r.2.1 r.2.2.1 r.2.2.2.1 r.2.2.2.2.1 r.2.2.2.2.2.1 r.2.2.2.2.2.2.1 r.2.2.2.2.2.2.2.1 r.2.2.2.2.2.2.2.2.1 r.2.2.2.2.2.2.2.2.2.1 r.2.2.2.2.2.2.2.2.2.2.1 r.2.2.2.2.2.2.2.2.2.2.2.1 r.2.2.2.2.2.2.2.2.2.2.2.2.1 r.2.2.2.2.2.2.2.2.2.2.2.2.2.1 q.1 q.2.1 q.2.2.1 q.2.2.2.1 q.2.2.2.2.1 q.2.2.2.2.2.1 q.2.2.2.2.2.2.1 q.2.2.2.2.2.2.2.1 q.2.2.2.2.2.2.2.2.1 q.2.2.2.2.2.2.2.2.2.1 q.2.2.2.2.2.2.2.2.2.2.1 q.2.2.2.2.2.2.2.2.2.2.2.1 q.2.2.2.2.2.2.2.2.2.2.2.2.1 q.2.2.2.2.2.2.2.2.2.2.2.2.2.1 q.2.2.2.2.2.2.2.2.2.2.2.2.2.2.1 ∧ (¬ r.1 = 0 → x0_start < x0_end)) := by
  have hlt : x0_start < x0_end := hT.2.2.2 (by rw [(word1 hn ev hv (L := 5) rfl (by decide) (c0 := 103) rfl).1]; decide)
  refine Sf2.mapL (goods2 hn hs hT hgc hf hA) ?_
  rintro ⟨g0, g1, g2, g3, g4, g5, g6, g7⟩ b h
  by_cases ho : g0 = 0
  · refine ⟨_, if_pos ho, ?_, fun _ => hlt⟩
    rcases h with h | h
    · exact Or.inl ⟨rfl, h.2⟩
    · exact absurd ho h.1
  · refine ⟨_, if_neg ho, ?_, fun _ => hlt⟩
    rcases h with h | h
    · exact absurd h.1 ho
    · exact Or.inr ⟨(show ¬ (1 : Int32) = 0 by decide), h.2⟩
theorem stW {n : Nat} {x0_bytes : (Nat → Int32)} {x0_size : Int32} {x0_start : Int32} {x0_end : Int32} {x0_token : Int32} {x0_value : Int32} {x1_lineCount : Int32} {x1_goodsCount : Int32} {x1_workCount : Int32} {x1_years : Int32} {x1_lines : (Nat → Int32)} {x1_goods : (Nat → Int32)} {x1_works : (Nat → Int32)} {x1_change : (Nat → Int32)} {x1_coin : (Nat → Int32)} {x1_knownFree : (Nat → Int32)} {x1_isKnown : Int32} {m_shelf : (Nat → Int32)} {m_rowSort : (Nat → Int32)} {m_rowSize : (Nat → Int32)} {m_rows : (Nat → Nat → Int64)} {m_moved : (Nat → Int64)} {m_shown : (Nat → Int32)} {m_refused : (Nat → Int32)} {m_lines : Int32} {m_line : (Nat → Nat → Int32)} {m_changes : (Nat → Int32)} {m_coins : (Nat → Int32)} {m_goods : Int32} {m_good : (Nat → Nat → Int32)} {m_works : Int32} {m_work : (Nat → Nat → Int32)} {m_years : Int32} {m_gone : Int32} {m_spent : Int32} {m_fault : Int32} {m_numbers : (Nat → Int32)} {m_statements : Int32} {m_left : (Nat → Int32)} {m_far : (Nat → Int32)} {m_tons : Int32} {m_way : (Nat → Int32)} {m_steps : Int32} {m_met : Int64} {m_queue : (Nat → Int32)} {m_totals : (Nat → Int32)} {v0 : Int32} (hn : 1000000000000 ≤ n) (hs : 0 ≤ x0_size ∧ x0_size ≤ 250) (hT : TkOk x0_size x0_start x0_end x0_token x0_value) (ev : fX3_isWord n (x0_bytes, x0_size, x0_start, x0_end, x0_token, x0_value) 6 = some v0) (hv : ¬ v0 = 0) (hlc : 0 ≤ x1_lineCount ∧ x1_lineCount ≤ 20) (hwc : 0 ≤ x1_workCount ∧ x1_workCount ≤ 7) (hf : ¬ 7 ≤ x1_workCount) (hA : (LaD x1_lineCount x1_goodsCount x1_workCount x1_years x1_lines x1_goods x1_works x1_change x1_coin m_lines m_line m_changes m_coins m_goods m_good m_works m_work m_years)) : Sf2 ((fX3_readWork n (x0_bytes, x0_size, x0_start, x0_end, x0_token, x0_value) (x1_lineCount, x1_goodsCount, x1_workCount, x1_years, x1_lines, x1_goods, x1_works, x1_change, x1_coin, x1_knownFree, x1_isKnown)).bind (u8 fun g0 g1 g2 g3 g4 g5 g6 g7 => if g0 = 0 then (some (0, g1, g2, g3, g4, (x1_lineCount, x1_goodsCount, g5, x1_years, x1_lines, x1_goods, g6, x1_change, x1_coin, g7))) else (some (1, g1, g2, g3, g4, (x1_lineCount, x1_goodsCount, g5, x1_years, x1_lines, x1_goods, g6, x1_change, x1_coin, g7))))) (sWork n m_shelf m_rowSort m_rowSize m_rows m_moved m_shown x0_bytes x0_size m_refused m_lines m_line m_changes m_coins m_goods m_good m_works m_work m_years m_gone m_spent x0_end x0_token x0_start (figs x0_token x0_value) m_fault m_numbers m_statements m_left m_far m_tons m_way m_steps m_met m_queue m_totals) (fun r q => StR x0_size x0_end r.1 r.2.1 r.2.2.1 r.2.2.2.1 r.2.2.2.2.1 r.2.2.2.2.2.1 r.2.2.2.2.2.2.1 r.2.2.2.2.2.2.2.1 r.2.2.2.2.2.2.2.2.1 r.2.2.2.2.2.2.2.2.2.1 r.2.2.2.2.2.2.2.2.2.2.1 r.2.2.2.2.2.2.2.2.2.2.2.1 r.2.2.2.2.2.2.2.2.2.2.2.2.1 r.2.2.2.2.2.2.2.2.2.2.2.2.2.1 q.1 q.2.1 q.2.2.1 q.2.2.2.1 q.2.2.2.2.1 q.2.2.2.2.2.1 q.2.2.2.2.2.2.1 q.2.2.2.2.2.2.2.1 q.2.2.2.2.2.2.2.2.1 q.2.2.2.2.2.2.2.2.2.1 q.2.2.2.2.2.2.2.2.2.2.1 q.2.2.2.2.2.2.2.2.2.2.2.1 q.2.2.2.2.2.2.2.2.2.2.2.2.1 q.2.2.2.2.2.2.2.2.2.2.2.2.2.1 q.2.2.2.2.2.2.2.2.2.2.2.2.2.2.1 ∧ (¬ r.1 = 0 → x0_start < x0_end)) := by
  have hlt : x0_start < x0_end := hT.2.2.2 (by rw [(word1 hn ev hv (L := 4) rfl (by decide) (c0 := 119) rfl).1]; decide)
  refine Sf2.mapL (work2 hn hs hT ev hv hlc hwc hf hA) ?_
  rintro ⟨g0, g1, g2, g3, g4, g5, g6, g7⟩ b h
  by_cases ho : g0 = 0
  · refine ⟨_, if_pos ho, ?_, fun _ => hlt⟩
    rcases h with h | h
    · exact Or.inl ⟨rfl, h.2⟩
    · exact absurd ho h.1
  · refine ⟨_, if_neg ho, ?_, fun _ => hlt⟩
    rcases h with h | h
    · exact absurd h.1 ho
    · exact Or.inr ⟨(show ¬ (1 : Int32) = 0 by decide), h.2⟩
theorem stY {n : Nat} {x0_bytes : (Nat → Int32)} {x0_size : Int32} {x0_start : Int32} {x0_end : Int32} {x0_token : Int32} {x0_value : Int32} {x1_lineCount : Int32} {x1_goodsCount : Int32} {x1_workCount : Int32} {x1_years : Int32} {x1_lines : (Nat → Int32)} {x1_goods : (Nat → Int32)} {x1_works : (Nat → Int32)} {x1_change : (Nat → Int32)} {x1_coin : (Nat → Int32)} {x1_knownFree : (Nat → Int32)} {x1_isKnown : Int32} {m_shelf : (Nat → Int32)} {m_rowSort : (Nat → Int32)} {m_rowSize : (Nat → Int32)} {m_rows : (Nat → Nat → Int64)} {m_moved : (Nat → Int64)} {m_shown : (Nat → Int32)} {m_refused : (Nat → Int32)} {m_lines : Int32} {m_line : (Nat → Nat → Int32)} {m_changes : (Nat → Int32)} {m_coins : (Nat → Int32)} {m_goods : Int32} {m_good : (Nat → Nat → Int32)} {m_works : Int32} {m_work : (Nat → Nat → Int32)} {m_years : Int32} {m_gone : Int32} {m_spent : Int32} {m_fault : Int32} {m_numbers : (Nat → Int32)} {m_statements : Int32} {m_left : (Nat → Int32)} {m_far : (Nat → Int32)} {m_tons : Int32} {m_way : (Nat → Int32)} {m_steps : Int32} {m_met : Int64} {m_queue : (Nat → Int32)} {m_totals : (Nat → Int32)} {v0 : Int32} (hn : 1000000000000 ≤ n) (hs : 0 ≤ x0_size ∧ x0_size ≤ 250) (hT : TkOk x0_size x0_start x0_end x0_token x0_value) (ev : fX3_isWord n (x0_bytes, x0_size, x0_start, x0_end, x0_token, x0_value) 9 = some v0) (hv : ¬ v0 = 0)  (hA : (LaD x1_lineCount x1_goodsCount x1_workCount x1_years x1_lines x1_goods x1_works x1_change x1_coin m_lines m_line m_changes m_coins m_goods m_good m_works m_work m_years)) : Sf2 ((fX3_readYears n (x0_bytes, x0_size, x0_start, x0_end, x0_token, x0_value) (x1_lineCount, x1_goodsCount, x1_workCount, x1_years, x1_lines, x1_goods, x1_works, x1_change, x1_coin, x1_knownFree, x1_isKnown)).bind (u6 fun g0 g1 g2 g3 g4 g5 => if g0 = 0 then (some (0, g1, g2, g3, g4, (x1_lineCount, x1_goodsCount, x1_workCount, g5, x1_lines, x1_goods, x1_works, x1_change, x1_coin, x1_isKnown))) else (some (1, g1, g2, g3, g4, (x1_lineCount, x1_goodsCount, x1_workCount, g5, x1_lines, x1_goods, x1_works, x1_change, x1_coin, x1_isKnown))))) (sYears n m_shelf m_rowSort m_rowSize m_rows m_moved m_shown x0_bytes x0_size m_refused m_lines m_line m_changes m_coins m_goods m_good m_works m_work m_years m_gone m_spent x0_end x0_token x0_start (figs x0_token x0_value) m_fault m_numbers m_statements m_left m_far m_tons m_way m_steps m_met m_queue m_totals) (fun r q => StR x0_size x0_end r.1 r.2.1 r.2.2.1 r.2.2.2.1 r.2.2.2.2.1 r.2.2.2.2.2.1 r.2.2.2.2.2.2.1 r.2.2.2.2.2.2.2.1 r.2.2.2.2.2.2.2.2.1 r.2.2.2.2.2.2.2.2.2.1 r.2.2.2.2.2.2.2.2.2.2.1 r.2.2.2.2.2.2.2.2.2.2.2.1 r.2.2.2.2.2.2.2.2.2.2.2.2.1 r.2.2.2.2.2.2.2.2.2.2.2.2.2.1 q.1 q.2.1 q.2.2.1 q.2.2.2.1 q.2.2.2.2.1 q.2.2.2.2.2.1 q.2.2.2.2.2.2.1 q.2.2.2.2.2.2.2.1 q.2.2.2.2.2.2.2.2.1 q.2.2.2.2.2.2.2.2.2.1 q.2.2.2.2.2.2.2.2.2.2.1 q.2.2.2.2.2.2.2.2.2.2.2.1 q.2.2.2.2.2.2.2.2.2.2.2.2.1 q.2.2.2.2.2.2.2.2.2.2.2.2.2.1 q.2.2.2.2.2.2.2.2.2.2.2.2.2.2.1 ∧ (¬ r.1 = 0 → x0_start < x0_end)) := by
  have hlt : x0_start < x0_end := hT.2.2.2 (by rw [(word1 hn ev hv (L := 5) rfl (by decide) (c0 := 121) rfl).1]; decide)
  refine Sf2.mapL (years2 hn hs hT ev hv hA) ?_
  rintro ⟨g0, g1, g2, g3, g4, g5⟩ b h
  by_cases ho : g0 = 0
  · refine ⟨_, if_pos ho, ?_, fun _ => hlt⟩
    rcases h with h | h
    · exact Or.inl ⟨rfl, h.2⟩
    · exact absurd ho h.1
  · refine ⟨_, if_neg ho, ?_, fun _ => hlt⟩
    rcases h with h | h
    · exact absurd h.1 ho
    · exact Or.inr ⟨(show ¬ (1 : Int32) = 0 by decide), h.2⟩
theorem stC {n : Nat} {x0_bytes : (Nat → Int32)} {x0_size : Int32} {x0_start : Int32} {x0_end : Int32} {x0_token : Int32} {x0_value : Int32} {x1_lineCount : Int32} {x1_goodsCount : Int32} {x1_workCount : Int32} {x1_years : Int32} {x1_lines : (Nat → Int32)} {x1_goods : (Nat → Int32)} {x1_works : (Nat → Int32)} {x1_change : (Nat → Int32)} {x1_coin : (Nat → Int32)} {x1_knownFree : (Nat → Int32)} {x1_isKnown : Int32} {m_shelf : (Nat → Int32)} {m_rowSort : (Nat → Int32)} {m_rowSize : (Nat → Int32)} {m_rows : (Nat → Nat → Int64)} {m_moved : (Nat → Int64)} {m_shown : (Nat → Int32)} {m_refused : (Nat → Int32)} {m_lines : Int32} {m_line : (Nat → Nat → Int32)} {m_changes : (Nat → Int32)} {m_coins : (Nat → Int32)} {m_goods : Int32} {m_good : (Nat → Nat → Int32)} {m_works : Int32} {m_work : (Nat → Nat → Int32)} {m_years : Int32} {m_gone : Int32} {m_spent : Int32} {m_fault : Int32} {m_numbers : (Nat → Int32)} {m_statements : Int32} {m_left : (Nat → Int32)} {m_far : (Nat → Int32)} {m_tons : Int32} {m_way : (Nat → Int32)} {m_steps : Int32} {m_met : Int64} {m_queue : (Nat → Int32)} {m_totals : (Nat → Int32)} {v0 : Int32} (hn : 1000000000000 ≤ n) (hs : 0 ≤ x0_size ∧ x0_size ≤ 250) (hT : TkOk x0_size x0_start x0_end x0_token x0_value) (ev : fX3_isWord n (x0_bytes, x0_size, x0_start, x0_end, x0_token, x0_value) 7 = some v0) (hv : ¬ v0 = 0) (hA : (LaD x1_lineCount x1_goodsCount x1_workCount x1_years x1_lines x1_goods x1_works x1_change x1_coin m_lines m_line m_changes m_coins m_goods m_good m_works m_work m_years)) : Sf2 ((fX3_readChange n (x0_bytes, x0_size, x0_start, x0_end, x0_token, x0_value) (x1_lineCount, x1_goodsCount, x1_workCount, x1_years, x1_lines, x1_goods, x1_works, x1_change, x1_coin, x1_knownFree, x1_isKnown)).bind (u7 fun g0 g1 g2 g3 g4 g5 g6 => (zb g0).bind fun v28 => (some (v28, g1, g2, g3, g4, (x1_lineCount, x1_goodsCount, x1_workCount, x1_years, x1_lines, x1_goods, x1_works, g5, x1_coin, g6))))) (sChange n m_shelf m_rowSort m_rowSize m_rows m_moved m_shown x0_bytes x0_size m_refused m_lines m_line m_changes m_coins m_goods m_good m_works m_work m_years m_gone m_spent x0_end x0_token x0_start (figs x0_token x0_value) m_fault m_numbers m_statements m_left m_far m_tons m_way m_steps m_met m_queue m_totals) (fun r q => StR x0_size x0_end r.1 r.2.1 r.2.2.1 r.2.2.2.1 r.2.2.2.2.1 r.2.2.2.2.2.1 r.2.2.2.2.2.2.1 r.2.2.2.2.2.2.2.1 r.2.2.2.2.2.2.2.2.1 r.2.2.2.2.2.2.2.2.2.1 r.2.2.2.2.2.2.2.2.2.2.1 r.2.2.2.2.2.2.2.2.2.2.2.1 r.2.2.2.2.2.2.2.2.2.2.2.2.1 r.2.2.2.2.2.2.2.2.2.2.2.2.2.1 q.1 q.2.1 q.2.2.1 q.2.2.2.1 q.2.2.2.2.1 q.2.2.2.2.2.1 q.2.2.2.2.2.2.1 q.2.2.2.2.2.2.2.1 q.2.2.2.2.2.2.2.2.1 q.2.2.2.2.2.2.2.2.2.1 q.2.2.2.2.2.2.2.2.2.2.1 q.2.2.2.2.2.2.2.2.2.2.2.1 q.2.2.2.2.2.2.2.2.2.2.2.2.1 q.2.2.2.2.2.2.2.2.2.2.2.2.2.1 q.2.2.2.2.2.2.2.2.2.2.2.2.2.2.1 ∧ (¬ r.1 = 0 → x0_start < x0_end)) := by
  have hlt : x0_start < x0_end := hT.2.2.2 (by rw [(word1 hn ev hv (L := 6) rfl (by decide) (c0 := 99) rfl).1]; decide)
  refine Sf2.mapL (Sf2.andL (change2 hn hs hT ev hv hA) (sX3_readChange01 hn hs hT)) ?_
  rintro ⟨g0, g1, g2, g3, g4, g5, g6⟩ b ⟨h, h01⟩
  have h01 : g0 = 0 ∨ g0 = 1 := h01
  have ez : zb g0 = some g0 := if_pos h01
  refine ⟨_, (show (zb g0).bind _ = some _ by rw [ez]; rfl), h, fun _ => hlt⟩
theorem stO {n : Nat} {x0_bytes : (Nat → Int32)} {x0_size : Int32} {x0_start : Int32} {x0_end : Int32} {x0_token : Int32} {x0_value : Int32} {x1_lineCount : Int32} {x1_goodsCount : Int32} {x1_workCount : Int32} {x1_years : Int32} {x1_lines : (Nat → Int32)} {x1_goods : (Nat → Int32)} {x1_works : (Nat → Int32)} {x1_change : (Nat → Int32)} {x1_coin : (Nat → Int32)} {x1_knownFree : (Nat → Int32)} {x1_isKnown : Int32} {m_shelf : (Nat → Int32)} {m_rowSort : (Nat → Int32)} {m_rowSize : (Nat → Int32)} {m_rows : (Nat → Nat → Int64)} {m_moved : (Nat → Int64)} {m_shown : (Nat → Int32)} {m_refused : (Nat → Int32)} {m_lines : Int32} {m_line : (Nat → Nat → Int32)} {m_changes : (Nat → Int32)} {m_coins : (Nat → Int32)} {m_goods : Int32} {m_good : (Nat → Nat → Int32)} {m_works : Int32} {m_work : (Nat → Nat → Int32)} {m_years : Int32} {m_gone : Int32} {m_spent : Int32} {m_fault : Int32} {m_numbers : (Nat → Int32)} {m_statements : Int32} {m_left : (Nat → Int32)} {m_far : (Nat → Int32)} {m_tons : Int32} {m_way : (Nat → Int32)} {m_steps : Int32} {m_met : Int64} {m_queue : (Nat → Int32)} {m_totals : (Nat → Int32)} {v0 : Int32} (hn : 1000000000000 ≤ n) (hs : 0 ≤ x0_size ∧ x0_size ≤ 250) (hT : TkOk x0_size x0_start x0_end x0_token x0_value) (ev : fX3_isWord n (x0_bytes, x0_size, x0_start, x0_end, x0_token, x0_value) 8 = some v0) (hv : ¬ v0 = 0) (hA : (LaD x1_lineCount x1_goodsCount x1_workCount x1_years x1_lines x1_goods x1_works x1_change x1_coin m_lines m_line m_changes m_coins m_goods m_good m_works m_work m_years)) : Sf2 ((fX3_readCoin n (x0_bytes, x0_size, x0_start, x0_end, x0_token, x0_value) (x1_lineCount, x1_goodsCount, x1_workCount, x1_years, x1_lines, x1_goods, x1_works, x1_change, x1_coin, x1_knownFree, x1_isKnown)).bind (u7 fun g0 g1 g2 g3 g4 g5 g6 => (zb g0).bind fun v28 => (some (v28, g1, g2, g3, g4, (x1_lineCount, x1_goodsCount, x1_workCount, x1_years, x1_lines, x1_goods, x1_works, x1_change, g5, g6))))) (sCoin n m_shelf m_rowSort m_rowSize m_rows m_moved m_shown x0_bytes x0_size m_refused m_lines m_line m_changes m_coins m_goods m_good m_works m_work m_years m_gone m_spent x0_end x0_token x0_start (figs x0_token x0_value) m_fault m_numbers m_statements m_left m_far m_tons m_way m_steps m_met m_queue m_totals) (fun r q => StR x0_size x0_end r.1 r.2.1 r.2.2.1 r.2.2.2.1 r.2.2.2.2.1 r.2.2.2.2.2.1 r.2.2.2.2.2.2.1 r.2.2.2.2.2.2.2.1 r.2.2.2.2.2.2.2.2.1 r.2.2.2.2.2.2.2.2.2.1 r.2.2.2.2.2.2.2.2.2.2.1 r.2.2.2.2.2.2.2.2.2.2.2.1 r.2.2.2.2.2.2.2.2.2.2.2.2.1 r.2.2.2.2.2.2.2.2.2.2.2.2.2.1 q.1 q.2.1 q.2.2.1 q.2.2.2.1 q.2.2.2.2.1 q.2.2.2.2.2.1 q.2.2.2.2.2.2.1 q.2.2.2.2.2.2.2.1 q.2.2.2.2.2.2.2.2.1 q.2.2.2.2.2.2.2.2.2.1 q.2.2.2.2.2.2.2.2.2.2.1 q.2.2.2.2.2.2.2.2.2.2.2.1 q.2.2.2.2.2.2.2.2.2.2.2.2.1 q.2.2.2.2.2.2.2.2.2.2.2.2.2.1 q.2.2.2.2.2.2.2.2.2.2.2.2.2.2.1 ∧ (¬ r.1 = 0 → x0_start < x0_end)) := by
  have hlt : x0_start < x0_end := hT.2.2.2 (by rw [(word1 hn ev hv (L := 4) rfl (by decide) (c0 := 99) rfl).1]; decide)
  refine Sf2.mapL (Sf2.andL (coin2 hn hs hT ev hv hA) (sX3_readCoin01 hn hs hT)) ?_
  rintro ⟨g0, g1, g2, g3, g4, g5, g6⟩ b ⟨h, h01⟩
  have h01 : g0 = 0 ∨ g0 = 1 := h01
  have ez : zb g0 = some g0 := if_pos h01
  refine ⟨_, (show (zb g0).bind _ = some _ by rw [ez]; rfl), h, fun _ => hlt⟩
theorem stat2 {n : Nat} {x0_bytes : (Nat → Int32)} {x0_size : Int32} {x0_start : Int32} {x0_end : Int32} {x0_token : Int32} {x0_value : Int32} {x1_lineCount : Int32} {x1_goodsCount : Int32} {x1_workCount : Int32} {x1_years : Int32} {x1_lines : (Nat → Int32)} {x1_goods : (Nat → Int32)} {x1_works : (Nat → Int32)} {x1_change : (Nat → Int32)} {x1_coin : (Nat → Int32)} {x1_knownFree : (Nat → Int32)} {x1_isKnown : Int32} {m_shelf : (Nat → Int32)} {m_rowSort : (Nat → Int32)} {m_rowSize : (Nat → Int32)} {m_rows : (Nat → Nat → Int64)} {m_moved : (Nat → Int64)} {m_shown : (Nat → Int32)} {m_refused : (Nat → Int32)} {m_lines : Int32} {m_line : (Nat → Nat → Int32)} {m_changes : (Nat → Int32)} {m_coins : (Nat → Int32)} {m_goods : Int32} {m_good : (Nat → Nat → Int32)} {m_works : Int32} {m_work : (Nat → Nat → Int32)} {m_years : Int32} {m_gone : Int32} {m_spent : Int32} {m_fault : Int32} {m_numbers : (Nat → Int32)} {m_statements : Int32} {m_left : (Nat → Int32)} {m_far : (Nat → Int32)} {m_tons : Int32} {m_way : (Nat → Int32)} {m_steps : Int32} {m_met : Int64} {m_queue : (Nat → Int32)} {m_totals : (Nat → Int32)} (hn : 1000000000000 ≤ n) (hs : 0 ≤ x0_size ∧ x0_size ≤ 250) (hT : TkOk x0_size x0_start x0_end x0_token x0_value) (hlc : 0 ≤ x1_lineCount ∧ x1_lineCount ≤ 20) (hgc : 0 ≤ x1_goodsCount ∧ x1_goodsCount ≤ 8) (hwc : 0 ≤ x1_workCount ∧ x1_workCount ≤ 7) (hA : (LaD x1_lineCount x1_goodsCount x1_workCount x1_years x1_lines x1_goods x1_works x1_change x1_coin m_lines m_line m_changes m_coins m_goods m_good m_works m_work m_years)) : Sf2 (fX3_readStatement n (x0_bytes, x0_size, x0_start, x0_end, x0_token, x0_value) (x1_lineCount, x1_goodsCount, x1_workCount, x1_years, x1_lines, x1_goods, x1_works, x1_change, x1_coin, x1_knownFree, x1_isKnown)) (fX7_statement n (m_shelf, m_rowSort, m_rowSize, m_rows, m_moved, m_shown, x0_bytes, x0_size, m_refused, m_lines, m_line, m_changes, m_coins, m_goods, m_good, m_works, m_work, m_years, m_gone, m_spent, x0_end, x0_token, x0_start, (figs x0_token x0_value), m_fault, m_numbers, m_statements, m_left, m_far, m_tons, m_way, m_steps, m_met, m_queue, m_totals)) (fun r q => StR x0_size x0_end r.1 r.2.1 r.2.2.1 r.2.2.2.1 r.2.2.2.2.1 r.2.2.2.2.2.1 r.2.2.2.2.2.2.1 r.2.2.2.2.2.2.2.1 r.2.2.2.2.2.2.2.2.1 r.2.2.2.2.2.2.2.2.2.1 r.2.2.2.2.2.2.2.2.2.2.1 r.2.2.2.2.2.2.2.2.2.2.2.1 r.2.2.2.2.2.2.2.2.2.2.2.2.1 r.2.2.2.2.2.2.2.2.2.2.2.2.2.1 q.1 q.2.1 q.2.2.1 q.2.2.2.1 q.2.2.2.2.1 q.2.2.2.2.2.1 q.2.2.2.2.2.2.1 q.2.2.2.2.2.2.2.1 q.2.2.2.2.2.2.2.2.1 q.2.2.2.2.2.2.2.2.2.1 q.2.2.2.2.2.2.2.2.2.2.1 q.2.2.2.2.2.2.2.2.2.2.2.1 q.2.2.2.2.2.2.2.2.2.2.2.2.1 q.2.2.2.2.2.2.2.2.2.2.2.2.2.1 q.2.2.2.2.2.2.2.2.2.2.2.2.2.2.1 ∧ (¬ r.1 = 0 → x0_start < x0_end)) := by
  have z1 : x1_lineCount = m_lines := hA.1.1
  have z2 : x1_goodsCount = m_goods := hA.1.2.1
  have z3 : x1_workCount = m_works := hA.1.2.2.1
  have fail : ∀ {y : Option (Int32 × (Int32 × (Nat → Nat → Int32) × (Nat → Int32) × (Nat → Int32) × Int32 × (Nat → Nat → Int32) × Int32 × (Nat → Nat → Int32) × Int32 × Int32 × Int32 × Int32 × Int64 × Int32 × (Nat → Int32)))}, (∃ b, y = some b ∧ b.1 = 0 ∧ b.2.2.2.2.2.2.2.2.2.2.2.2.2.2.1 = x0_start) → Sf2 (some ((0 : Int32), x0_start, x0_end, x0_token, x0_value, (x1_lineCount, x1_goodsCount, x1_workCount, x1_years, x1_lines, x1_goods, x1_works, x1_change, x1_coin, x1_isKnown))) y (fun r q => StR x0_size x0_end r.1 r.2.1 r.2.2.1 r.2.2.2.1 r.2.2.2.2.1 r.2.2.2.2.2.1 r.2.2.2.2.2.2.1 r.2.2.2.2.2.2.2.1 r.2.2.2.2.2.2.2.2.1 r.2.2.2.2.2.2.2.2.2.1 r.2.2.2.2.2.2.2.2.2.2.1 r.2.2.2.2.2.2.2.2.2.2.2.1 r.2.2.2.2.2.2.2.2.2.2.2.2.1 r.2.2.2.2.2.2.2.2.2.2.2.2.2.1 q.1 q.2.1 q.2.2.1 q.2.2.2.1 q.2.2.2.2.1 q.2.2.2.2.2.1 q.2.2.2.2.2.2.1 q.2.2.2.2.2.2.2.1 q.2.2.2.2.2.2.2.2.1 q.2.2.2.2.2.2.2.2.2.1 q.2.2.2.2.2.2.2.2.2.2.1 q.2.2.2.2.2.2.2.2.2.2.2.1 q.2.2.2.2.2.2.2.2.2.2.2.2.1 q.2.2.2.2.2.2.2.2.2.2.2.2.2.1 q.2.2.2.2.2.2.2.2.2.2.2.2.2.2.1 ∧ (¬ r.1 = 0 → x0_start < x0_end)) := by
    rintro y ⟨b, eb, b1, b2⟩
    exact ⟨_, b, rfl, eb, Or.inl ⟨rfl, b1, b2⟩, fun h => absurd rfl h⟩
  obtain ⟨v1, ev0⟩ := isWordS (n := n) (p := 0) (x0_bytes := x0_bytes) hn hs hT (by decide)
  obtain ⟨v3, ev5⟩ := isWordS (n := n) (p := 5) (x0_bytes := x0_bytes) hn hs hT (by decide)
  obtain ⟨v5, ev6⟩ := isWordS (n := n) (p := 6) (x0_bytes := x0_bytes) hn hs hT (by decide)
  obtain ⟨v7, ev7⟩ := isWordS (n := n) (p := 7) (x0_bytes := x0_bytes) hn hs hT (by decide)
  obtain ⟨v9, ev8⟩ := isWordS (n := n) (p := 8) (x0_bytes := x0_bytes) hn hs hT (by decide)
  obtain ⟨v11, ev9⟩ := isWordS (n := n) (p := 9) (x0_bytes := x0_bytes) hn hs hT (by decide)
  rw [st_0, isWordE (p := 0) (p' := 10) rfl rfl]
  unfold fX3_readStatement
  dsimp only [u6, u11]
  rw [ev0]
  refine Sf2.ite (c := v1 = 0) (c' := v1 = 0) Iff.rfl (fun h0 => ?_) (fun h0 => ?_)
  rotate_left
  · refine Sf2.ite (c := 20 ≤ x1_lineCount) (c' := 20 ≤ m_lines) (by rw [z1]) (fun hf => ?_) (fun hf => stL hn hs hT ev0 h0 hlc hf hA)
    exact fail (w15 (wordNo (p := 0) (p' := 5) hn hs hT ev0 h0 (L := 4) rfl (by decide) (c0 := 108) rfl (by decide) (L' := 5) rfl (by decide) (c0' := 103) rfl (by decide)) (w16 (wordNo (p := 0) (p' := 6) hn hs hT ev0 h0 (L := 4) rfl (by decide) (c0 := 108) rfl (by decide) (L' := 4) rfl (by decide) (c0' := 119) rfl (by decide)) (w17 (wordNo (p := 0) (p' := 7) hn hs hT ev0 h0 (L := 4) rfl (by decide) (c0 := 108) rfl (by decide) (L' := 6) rfl (by decide) (c0' := 99) rfl (by decide)) (wordNo (p := 0) (p' := 8) hn hs hT ev0 h0 (L := 4) rfl (by decide) (c0 := 108) rfl (by decide) (L' := 4) rfl (by decide) (c0' := 99) rfl (by decide)) (wordNo (p := 0) (p' := 9) hn hs hT ev0 h0 (L := 4) rfl (by decide) (c0 := 108) rfl (by decide) (L' := 5) rfl (by decide) (c0' := 121) rfl (by decide)))))
  rw [st_1, isWordE (p := 5) (p' := 15) rfl rfl, ev5]
  refine Sf2.ite (c := v3 = 0) (c' := v3 = 0) Iff.rfl (fun h5 => ?_) (fun h5 => ?_)
  rotate_left
  · refine Sf2.ite (c := 8 ≤ x1_goodsCount) (c' := 8 ≤ m_goods) (by rw [z2]) (fun hf => ?_) (fun hf => stG hn hs hT ev5 h5 hgc hf hA)
    exact fail (w16 (wordNo (p := 5) (p' := 6) hn hs hT ev5 h5 (L := 5) rfl (by decide) (c0 := 103) rfl (by decide) (L' := 4) rfl (by decide) (c0' := 119) rfl (by decide)) (w17 (wordNo (p := 5) (p' := 7) hn hs hT ev5 h5 (L := 5) rfl (by decide) (c0 := 103) rfl (by decide) (L' := 6) rfl (by decide) (c0' := 99) rfl (by decide)) (wordNo (p := 5) (p' := 8) hn hs hT ev5 h5 (L := 5) rfl (by decide) (c0 := 103) rfl (by decide) (L' := 4) rfl (by decide) (c0' := 99) rfl (by decide)) (wordNo (p := 5) (p' := 9) hn hs hT ev5 h5 (L := 5) rfl (by decide) (c0 := 103) rfl (by decide) (L' := 5) rfl (by decide) (c0' := 121) rfl (by decide))))
  rw [st_2, isWordE (p := 6) (p' := 16) rfl rfl, ev6]
  refine Sf2.ite (c := v5 = 0) (c' := v5 = 0) Iff.rfl (fun h6 => ?_) (fun h6 => ?_)
  rotate_left
  · refine Sf2.ite (c := 7 ≤ x1_workCount) (c' := 7 ≤ m_works) (by rw [z3]) (fun hf => ?_) (fun hf => stW hn hs hT ev6 h6 hlc hwc hf hA)
    exact fail (w17 (wordNo (p := 6) (p' := 7) hn hs hT ev6 h6 (L := 4) rfl (by decide) (c0 := 119) rfl (by decide) (L' := 6) rfl (by decide) (c0' := 99) rfl (by decide)) (wordNo (p := 6) (p' := 8) hn hs hT ev6 h6 (L := 4) rfl (by decide) (c0 := 119) rfl (by decide) (L' := 4) rfl (by decide) (c0' := 99) rfl (by decide)) (wordNo (p := 6) (p' := 9) hn hs hT ev6 h6 (L := 4) rfl (by decide) (c0 := 119) rfl (by decide) (L' := 5) rfl (by decide) (c0' := 121) rfl (by decide)))
  rw [st_3, isWordE (p := 7) (p' := 17) rfl rfl, ev7]
  refine Sf2.ite (c := v7 = 0) (c' := v7 = 0) Iff.rfl (fun h7 => ?_) (fun h7 => stC hn hs hT ev7 h7 hA)
  rw [isWordE (p := 8) (p' := 18) rfl rfl, ev8]
  refine Sf2.ite (c := v9 = 0) (c' := v9 = 0) Iff.rfl (fun h8 => ?_) (fun h8 => stO hn hs hT ev8 h8 hA)
  rw [ev9]
  refine Sf2.iteL (c := v11 = 0) (fun h9 => ?_) (fun h9 => stY hn hs hT ev9 h9 hA)
  rw [h9] at ev9
  exact fail (w19 ev9)
end
section
/-! the whole tape -/
theorem lp_s {S E : Type} (step : S → Option (S ⊕ E)) (k : Nat) (s : S) : lp step (k + 1) s = (step s).bind (fun o => match o with | .inl s' => lp step k s' | .inr e => some e) := by
  show (match step s with | none => none | some (.inl s') => lp step k s' | some (.inr e) => some e) = _
  cases step s with
  | none => rfl
  | some o => cases o with
    | inl s' => rfl
    | inr e => rfl
def rdE (n : Nat) (x0_shelf : (Nat → Int32)) (x0_rowSort : (Nat → Int32)) (x0_rowSize : (Nat → Int32)) (x0_rows : (Nat → Nat → Int64)) (x0_moved : (Nat → Int64)) (x0_shown : (Nat → Int32)) (x0_tape : (Nat → Int32)) (x0_tapeSize : Int32) (x0_refused : (Nat → Int32)) (x0_lines : Int32) (x0_line : (Nat → Nat → Int32)) (x0_changes : (Nat → Int32)) (x0_coins : (Nat → Int32)) (x0_goods : Int32) (x0_good : (Nat → Nat → Int32)) (x0_works : Int32) (x0_work : (Nat → Nat → Int32)) (x0_years : Int32) (x0_gone : Int32) (x0_spent : Int32) (x0_at : Int32) (x0_token : Int32) (x0_from : Int32) (x0_figures : Int64) (x0_fault : Int32) (x0_numbers : (Nat → Int32)) (x0_statements : Int32) (x0_left : (Nat → Int32)) (x0_far : (Nat → Int32)) (x0_tons : Int32) (x0_way : (Nat → Int32)) (x0_steps : Int32) (x0_met : Int64) (x0_queue : (Nat → Int32)) (x0_totals : (Nat → Int32)) (o : (Int32 × (Nat → Nat → Int32) × (Nat → Int32) × (Nat → Int32) × Int32 × (Nat → Nat → Int32) × Int32 × (Nat → Nat → Int32) × Int32 × Int32 × Int32 × Int32 × Int64 × Int32 × (Nat → Int32) × Int32) ⊕ ((Int32 × (Nat → Nat → Int32) × (Nat → Int32) × (Nat → Int32) × Int32 × (Nat → Nat → Int32) × Int32 × (Nat → Nat → Int32) × Int32 × Int32 × Int32 × Int32 × Int64 × Int32 × (Nat → Int32) × Int32) ⊕ (Int32 × (Nat → Nat → Int32) × (Nat → Int32) × (Nat → Int32) × Int32 × (Nat → Nat → Int32) × Int32 × (Nat → Nat → Int32) × Int32 × Int32 × Int32 × Int32 × Int64 × Int32 × (Nat → Int32) × Int32))) : Option (Int32 × (Int32 × (Nat → Nat → Int32) × (Nat → Int32) × (Nat → Int32) × Int32 × (Nat → Nat → Int32) × Int32 × (Nat → Nat → Int32) × Int32 × Int32 × Int32 × Int32 × Int64 × Int32 × (Nat → Int32) × Int32)) := (Sum.elim (u16 fun w42 w43 w44 w45 w46 w47 w48 w49 w50 w51 w52 w53 w54 w55 w56 w57 => (fX7_wrong (x0_shelf, x0_rowSort, x0_rowSize, x0_rows, x0_moved, x0_shown, x0_tape, x0_tapeSize, x0_refused, w42, w43, w44, w45, w46, w47, w48, w49, w50, x0_gone, x0_spent, w51, w52, w53, w54, w55, w56, w57, x0_left, x0_far, x0_tons, x0_way, x0_steps, x0_met, x0_queue, x0_totals)).bind (u2 fun v58 g59 => (zb v58).bind fun v61 => some (v61, (w42, w43, w44, w45, w46, w47, w48, w49, w50, w51, w52, w53, w54, g59, w56, w57)))) (Sum.elim (u16 fun w62 w63 w64 w65 w66 w67 w68 w69 w70 w71 w72 w73 w74 w75 w76 w77 => some (0, (w62, w63, w64, w65, w66, w67, w68, w69, w70, w71, w72, w73, w74, w75, w76, w77))) (u16 fun w78 w79 w80 w81 w82 w83 w84 w85 w86 w87 w88 w89 w90 w91 w92 w93 => some (1, (w78, w79, w80, w81, w82, w83, w84, w85, w86, w87, w88, w89, w90, w91, w92, w93))))) o
def rdL (n b : Nat) (x0_shelf : (Nat → Int32)) (x0_rowSort : (Nat → Int32)) (x0_rowSize : (Nat → Int32)) (x0_rows : (Nat → Nat → Int64)) (x0_moved : (Nat → Int64)) (x0_shown : (Nat → Int32)) (x0_tape : (Nat → Int32)) (x0_tapeSize : Int32) (x0_refused : (Nat → Int32)) (x0_lines : Int32) (x0_line : (Nat → Nat → Int32)) (x0_changes : (Nat → Int32)) (x0_coins : (Nat → Int32)) (x0_goods : Int32) (x0_good : (Nat → Nat → Int32)) (x0_works : Int32) (x0_work : (Nat → Nat → Int32)) (x0_years : Int32) (x0_gone : Int32) (x0_spent : Int32) (x0_at : Int32) (x0_token : Int32) (x0_from : Int32) (x0_figures : Int64) (x0_fault : Int32) (x0_numbers : (Nat → Int32)) (x0_statements : Int32) (x0_left : (Nat → Int32)) (x0_far : (Nat → Int32)) (x0_tons : Int32) (x0_way : (Nat → Int32)) (x0_steps : Int32) (x0_met : Int64) (x0_queue : (Nat → Int32)) (x0_totals : (Nat → Int32)) (s : (Int32 × (Nat → Nat → Int32) × (Nat → Int32) × (Nat → Int32) × Int32 × (Nat → Nat → Int32) × Int32 × (Nat → Nat → Int32) × Int32 × Int32 × Int32 × Int32 × Int64 × Int32 × (Nat → Int32) × Int32)) : Option (Int32 × (Int32 × (Nat → Nat → Int32) × (Nat → Int32) × (Nat → Int32) × Int32 × (Nat → Nat → Int32) × Int32 × (Nat → Nat → Int32) × Int32 × Int32 × Int32 × Int32 × Int64 × Int32 × (Nat → Int32) × Int32)) := (lp (u16 (fX7_read_s23 n x0_shelf x0_rowSort x0_rowSize x0_rows x0_moved x0_shown x0_tape x0_tapeSize x0_refused x0_gone x0_spent x0_left x0_far x0_tons x0_way x0_steps x0_met x0_queue x0_totals)) b s).bind (rdE n x0_shelf x0_rowSort x0_rowSize x0_rows x0_moved x0_shown x0_tape x0_tapeSize x0_refused x0_lines x0_line x0_changes x0_coins x0_goods x0_good x0_works x0_work x0_years x0_gone x0_spent x0_at x0_token x0_from x0_figures x0_fault x0_numbers x0_statements x0_left x0_far x0_tons x0_way x0_steps x0_met x0_queue x0_totals)
def rdK (n b : Nat) (x0_shelf : (Nat → Int32)) (x0_rowSort : (Nat → Int32)) (x0_rowSize : (Nat → Int32)) (x0_rows : (Nat → Nat → Int64)) (x0_moved : (Nat → Int64)) (x0_shown : (Nat → Int32)) (x0_tape : (Nat → Int32)) (x0_tapeSize : Int32) (x0_refused : (Nat → Int32)) (x0_lines : Int32) (x0_line : (Nat → Nat → Int32)) (x0_changes : (Nat → Int32)) (x0_coins : (Nat → Int32)) (x0_goods : Int32) (x0_good : (Nat → Nat → Int32)) (x0_works : Int32) (x0_work : (Nat → Nat → Int32)) (x0_years : Int32) (x0_gone : Int32) (x0_spent : Int32) (x0_at : Int32) (x0_token : Int32) (x0_from : Int32) (x0_figures : Int64) (x0_fault : Int32) (x0_numbers : (Nat → Int32)) (x0_statements : Int32) (x0_left : (Nat → Int32)) (x0_far : (Nat → Int32)) (x0_tons : Int32) (x0_way : (Nat → Int32)) (x0_steps : Int32) (x0_met : Int64) (x0_queue : (Nat → Int32)) (x0_totals : (Nat → Int32)) (sf st : Int32) (r : Int32 × (Int32 × (Nat → Nat → Int32) × (Nat → Int32) × (Nat → Int32) × Int32 × (Nat → Nat → Int32) × Int32 × (Nat → Nat → Int32) × Int32 × Int32 × Int32 × Int32 × Int64 × Int32 × (Nat → Int32))) : Option (Int32 × (Int32 × (Nat → Nat → Int32) × (Nat → Int32) × (Nat → Int32) × Int32 × (Nat → Nat → Int32) × Int32 × (Nat → Nat → Int32) × Int32 × Int32 × Int32 × Int32 × Int64 × Int32 × (Nat → Int32) × Int32)) :=
  u2 (fun v6 G7 => u15 (fun g8 g9 g10 g11 g12 g13 g14 g15 g16 g17 g18 g19 g20 g21 g22 => if v6 = 0 then (some (0, (g8, g9, g10, g11, g12, g13, g14, g15, g16, g17, g18, g19, g20, g21, g22, sf))) else rdL n b x0_shelf x0_rowSort x0_rowSize x0_rows x0_moved x0_shown x0_tape x0_tapeSize x0_refused x0_lines x0_line x0_changes x0_coins x0_goods x0_good x0_works x0_work x0_years x0_gone x0_spent x0_at x0_token x0_from x0_figures x0_fault x0_numbers x0_statements x0_left x0_far x0_tons x0_way x0_steps x0_met x0_queue x0_totals (g8, g9, g10, g11, g12, g13, g14, g15, g16, g17, g18, g19, g20, g21, g22, st)) G7) r
theorem rdd_0 {n : Nat} {x0_shelf : (Nat → Int32)} {x0_rowSort : (Nat → Int32)} {x0_rowSize : (Nat → Int32)} {x0_rows : (Nat → Nat → Int64)} {x0_moved : (Nat → Int64)} {x0_shown : (Nat → Int32)} {x0_tape : (Nat → Int32)} {x0_tapeSize : Int32} {x0_refused : (Nat → Int32)} {x0_lines : Int32} {x0_line : (Nat → Nat → Int32)} {x0_changes : (Nat → Int32)} {x0_coins : (Nat → Int32)} {x0_goods : Int32} {x0_good : (Nat → Nat → Int32)} {x0_works : Int32} {x0_work : (Nat → Nat → Int32)} {x0_years : Int32} {x0_gone : Int32} {x0_spent : Int32} {x0_at : Int32} {x0_token : Int32} {x0_from : Int32} {x0_figures : Int64} {x0_fault : Int32} {x0_numbers : (Nat → Int32)} {x0_statements : Int32} {x0_left : (Nat → Int32)} {x0_far : (Nat → Int32)} {x0_tons : Int32} {x0_way : (Nat → Int32)} {x0_steps : Int32} {x0_met : Int64} {x0_queue : (Nat → Int32)} {x0_totals : (Nat → Int32)} : fX7_read n (x0_shelf, x0_rowSort, x0_rowSize, x0_rows, x0_moved, x0_shown, x0_tape, x0_tapeSize, x0_refused, x0_lines, x0_line, x0_changes, x0_coins, x0_goods, x0_good, x0_works, x0_work, x0_years, x0_gone, x0_spent, x0_at, x0_token, x0_from, x0_figures, x0_fault, x0_numbers, x0_statements, x0_left, x0_far, x0_tons, x0_way, x0_steps, x0_met, x0_queue, x0_totals) = (fX7_look n (x0_shelf, x0_rowSort, x0_rowSize, x0_rows, x0_moved, x0_shown, x0_tape, x0_tapeSize, x0_refused, x0_lines, x0_line, x0_changes, x0_coins, x0_goods, x0_good, x0_works, x0_work, x0_years, x0_gone, x0_spent, 0, x0_token, x0_from, x0_figures, x0_fault, x0_numbers, 1, x0_left, x0_far, x0_tons, x0_way, x0_steps, x0_met, x0_queue, x0_totals)).bind (u4 fun g1 g2 g3 g4 => (fX7_statement n (x0_shelf, x0_rowSort, x0_rowSize, x0_rows, x0_moved, x0_shown, x0_tape, x0_tapeSize, x0_refused, x0_lines, x0_line, x0_changes, x0_coins, x0_goods, x0_good, x0_works, x0_work, x0_years, x0_gone, x0_spent, g1, g2, g3, g4, x0_fault, x0_numbers, 1, x0_left, x0_far, x0_tons, x0_way, x0_steps, x0_met, x0_queue, x0_totals)).bind (rdK n n x0_shelf x0_rowSort x0_rowSize x0_rows x0_moved x0_shown x0_tape x0_tapeSize x0_refused x0_lines x0_line x0_changes x0_coins x0_goods x0_good x0_works x0_work x0_years x0_gone x0_spent x0_at x0_token x0_from x0_figures x0_fault x0_numbers x0_statements x0_left x0_far x0_tons x0_way x0_steps x0_met x0_queue x0_totals 1 1)) := rfl
/-- one more turn of the reference's loop -/
theorem rdd_1 {n b : Nat} {x0_shelf : (Nat → Int32)} {x0_rowSort : (Nat → Int32)} {x0_rowSize : (Nat → Int32)} {x0_rows : (Nat → Nat → Int64)} {x0_moved : (Nat → Int64)} {x0_shown : (Nat → Int32)} {x0_tape : (Nat → Int32)} {x0_tapeSize : Int32} {x0_refused : (Nat → Int32)} {x0_lines : Int32} {x0_line : (Nat → Nat → Int32)} {x0_changes : (Nat → Int32)} {x0_coins : (Nat → Int32)} {x0_goods : Int32} {x0_good : (Nat → Nat → Int32)} {x0_works : Int32} {x0_work : (Nat → Nat → Int32)} {x0_years : Int32} {x0_gone : Int32} {x0_spent : Int32} {x0_at : Int32} {x0_token : Int32} {x0_from : Int32} {x0_figures : Int64} {x0_fault : Int32} {x0_numbers : (Nat → Int32)} {x0_statements : Int32} {x0_left : (Nat → Int32)} {x0_far : (Nat → Int32)} {x0_tons : Int32} {x0_way : (Nat → Int32)} {x0_steps : Int32} {x0_met : Int64} {x0_queue : (Nat → Int32)} {x0_totals : (Nat → Int32)} {z40 : Int32} {g8 : Int32} {g9 : Nat → Nat → Int32} {g10 : Nat → Int32} {g11 : Nat → Int32} {g12 : Int32} {g13 : Nat → Nat → Int32} {g14 : Int32} {g15 : Nat → Nat → Int32} {g16 : Int32} {g17 : Int32} {g18 : Int32} {g19 : Int32} {g20 : Int64} {g21 : Int32} {g22 : Nat → Int32} : rdL n (b + 1) x0_shelf x0_rowSort x0_rowSize x0_rows x0_moved x0_shown x0_tape x0_tapeSize x0_refused x0_lines x0_line x0_changes x0_coins x0_goods x0_good x0_works x0_work x0_years x0_gone x0_spent x0_at x0_token x0_from x0_figures x0_fault x0_numbers x0_statements x0_left x0_far x0_tons x0_way x0_steps x0_met x0_queue x0_totals (g8, g9, g10, g11, g12, g13, g14, g15, g16, g17, g18, g19, g20, g21, g22, z40) = if g18 = 0 then some (1, (g8, g9, g10, g11, g12, g13, g14, g15, g16, g17, g18, g19, g20, g21, g22, z40)) else if g18 = 3 then (fX7_look n (x0_shelf, x0_rowSort, x0_rowSize, x0_rows, x0_moved, x0_shown, x0_tape, x0_tapeSize, x0_refused, g8, g9, g10, g11, g12, g13, g14, g15, g16, x0_gone, x0_spent, g17, g18, g19, g20, g21, g22, z40, x0_left, x0_far, x0_tons, x0_way, x0_steps, x0_met, x0_queue, x0_totals)).bind (u4 fun k1 k2 k3 k4 => (fX7_statement n (x0_shelf, x0_rowSort, x0_rowSize, x0_rows, x0_moved, x0_shown, x0_tape, x0_tapeSize, x0_refused, g8, g9, g10, g11, g12, g13, g14, g15, g16, x0_gone, x0_spent, k1, k2, k3, k4, g21, g22, z40, x0_left, x0_far, x0_tons, x0_way, x0_steps, x0_met, x0_queue, x0_totals)).bind (rdK n b x0_shelf x0_rowSort x0_rowSize x0_rows x0_moved x0_shown x0_tape x0_tapeSize x0_refused x0_lines x0_line x0_changes x0_coins x0_goods x0_good x0_works x0_work x0_years x0_gone x0_spent x0_at x0_token x0_from x0_figures x0_fault x0_numbers x0_statements x0_left x0_far x0_tons x0_way x0_steps x0_met x0_queue x0_totals z40 (z40 + 1))) else some (0, (g8, g9, g10, g11, g12, g13, g14, g15, g16, g17, g18, g19, g20, g19, g22, z40)) := by
  unfold rdL
  rw [lp_s]
  show Option.bind (Option.bind (fX7_read_s23 n x0_shelf x0_rowSort x0_rowSize x0_rows x0_moved x0_shown x0_tape x0_tapeSize x0_refused x0_gone x0_spent x0_left x0_far x0_tons x0_way x0_steps x0_met x0_queue x0_totals g8 g9 g10 g11 g12 g13 g14 g15 g16 g17 g18 g19 g20 g21 g22 z40) _) _ = _
  unfold fX7_read_s23
  by_cases h0 : g18 = 0
  · rw [if_pos h0, if_pos h0]
    rfl
  rw [if_neg h0, if_neg h0]
  by_cases h3 : g18 = 3
  · rw [if_pos h3, if_pos h3]
    simp only [Option.bind_assoc]
    congr 1
    funext q
    obtain ⟨k1, k2, k3, k4⟩ := q
    dsimp only [u4]
    simp only [Option.bind_assoc]
    congr 1
    funext q
    obtain ⟨v, y0, y1, y2, y3, y4, y5, y6, y7, y8, y9, y10, y11, y12, y13, y14⟩ := q
    unfold rdK
    dsimp only [u2, u15]
    by_cases hv : v = 0
    · rw [if_pos hv, if_pos hv]
      rfl
    · rw [if_neg hv, if_neg hv]
      rfl
  · rw [if_neg h3, if_neg h3]
    rfl
end
section
/-! the whole tape, both readers -/
def rcE (o : (Int32 × Int32 × Int32 × Int32 × Int32 × Int32 × Int32 × Int32 × (Nat → Int32) × (Nat → Int32) × (Nat → Int32) × (Nat → Int32) × (Nat → Int32) × Int32) ⊕ ((Int32 × Int32 × Int32 × Int32 × Int32 × Int32 × Int32 × Int32 × Int32 × (Nat → Int32) × (Nat → Int32) × (Nat → Int32) × (Nat → Int32) × (Nat → Int32) × Int32) ⊕ ((Int32 × Int32 × Int32 × Int32 × Int32 × Int32 × Int32 × Int32 × (Nat → Int32) × (Nat → Int32) × (Nat → Int32) × (Nat → Int32) × (Nat → Int32) × Int32) ⊕ (Int32 × Int32 × Int32 × Int32 × Int32 × Int32 × Int32 × Int32 × (Nat → Int32) × (Nat → Int32) × (Nat → Int32) × (Nat → Int32) × (Nat → Int32) × Int32)))) : Option (Int32 × Int32 × Int32 × Int32 × Int32 × (Int32 × Int32 × Int32 × Int32 × (Nat → Int32) × (Nat → Int32) × (Nat → Int32) × (Nat → Int32) × (Nat → Int32) × Int32)) := (Sum.elim (u14 fun w23 w24 w25 w26 w27 w28 w29 w30 w31 w32 w33 w34 w35 w36 => some (((-20) - w23), w23, w24, w25, w26, (w27, w28, w29, w30, w31, w32, w33, w34, w35, w36))) (Sum.elim (u15 fun w37 w38 w39 w40 w41 w42 w43 w44 w45 w46 w47 w48 w49 w50 w51 => some (w37, w38, w39, w40, w41, (w42, w43, w44, w45, w46, w47, w48, w49, w50, w51))) (Sum.elim (u14 fun w52 w53 w54 w55 w56 w57 w58 w59 w60 w61 w62 w63 w64 w65 => some (((-20) - w52), w52, w53, w54, w55, (w56, w57, w58, w59, w60, w61, w62, w63, w64, w65))) (u14 fun w66 w67 w68 w69 w70 w71 w72 w73 w74 w75 w76 w77 w78 w79 => some (((-20) - w66), w66, w67, w68, w69, (w70, w71, w72, w73, w74, w75, w76, w77, w78, w79)))))) o
def TpR (r : Int32 × Int32 × Int32 × Int32 × Int32 × (Int32 × Int32 × Int32 × Int32 × (Nat → Int32) × (Nat → Int32) × (Nat → Int32) × (Nat → Int32) × (Nat → Int32) × Int32)) (q : Int32 × (Int32 × (Nat → Nat → Int32) × (Nat → Int32) × (Nat → Int32) × Int32 × (Nat → Nat → Int32) × Int32 × (Nat → Nat → Int32) × Int32 × Int32 × Int32 × Int32 × Int64 × Int32 × (Nat → Int32) × Int32)) : Prop :=
  (r.1 < 0 ∧ q.1 = 0 ∧ r.1 = -20 - q.2.2.2.2.2.2.2.2.2.2.2.2.2.2.1) ∨ (0 ≤ r.1 ∧ ¬ q.1 = 0 ∧ r.1 = q.2.2.2.2.2.2.2.2.2.2.2.2.2.2.2.2 ∧ LaD r.2.2.2.2.2.1 r.2.2.2.2.2.2.1 r.2.2.2.2.2.2.2.1 r.2.2.2.2.2.2.2.2.1 r.2.2.2.2.2.2.2.2.2.1 r.2.2.2.2.2.2.2.2.2.2.1 r.2.2.2.2.2.2.2.2.2.2.2.1 r.2.2.2.2.2.2.2.2.2.2.2.2.1 r.2.2.2.2.2.2.2.2.2.2.2.2.2.1 q.2.1 q.2.2.1 q.2.2.2.1 q.2.2.2.2.1 q.2.2.2.2.2.1 q.2.2.2.2.2.2.1 q.2.2.2.2.2.2.2.1 q.2.2.2.2.2.2.2.2.1 q.2.2.2.2.2.2.2.2.2.1)
theorem rc_0 {n : Nat} {x0_bytes : (Nat → Int32)} {x0_size : Int32} {x0_start : Int32} {x0_end : Int32} {x0_token : Int32} {x0_value : Int32} {x1_lineCount : Int32} {x1_goodsCount : Int32} {x1_workCount : Int32} {x1_years : Int32} {x1_lines : (Nat → Int32)} {x1_goods : (Nat → Int32)} {x1_works : (Nat → Int32)} {x1_change : (Nat → Int32)} {x1_coin : (Nat → Int32)} {x1_knownFree : (Nat → Int32)} {x1_isKnown : Int32} : fX3_readInto n (x0_bytes, x0_size, x0_start, x0_end, x0_token, x0_value) (x1_lineCount, x1_goodsCount, x1_workCount, x1_years, x1_lines, x1_goods, x1_works, x1_change, x1_coin, x1_knownFree, x1_isKnown) = (fX3_next n (x0_bytes, x0_size, x0_start, 0, x0_token, x0_value)).bind (u4 fun g1 g2 g3 g4 => (lp (u15 (fX3_readInto_s11 n x0_bytes x0_size x1_knownFree)) n (1, g1, g2, g3, g4, x1_lineCount, x1_goodsCount, x1_workCount, x1_years, x1_lines, x1_goods, x1_works, x1_change, x1_coin, x1_isKnown)).bind rcE) := rfl
theorem m20 {s : Int32} (h : 0 ≤ s ∧ s ≤ 250) : (-20 : Int32) - s < 0 := by grind
theorem tapeL {n : Nat} {bb : Nat → Int32} {sz : Int32} {kf : Nat → Int32} {m_shelf : (Nat → Int32)} {m_rowSort : (Nat → Int32)} {m_rowSize : (Nat → Int32)} {m_rows : (Nat → Nat → Int64)} {m_moved : (Nat → Int64)} {m_shown : (Nat → Int32)} {m_refused : (Nat → Int32)} {m_lines : Int32} {m_line : (Nat → Nat → Int32)} {m_changes : (Nat → Int32)} {m_coins : (Nat → Int32)} {m_goods : Int32} {m_good : (Nat → Nat → Int32)} {m_works : Int32} {m_work : (Nat → Nat → Int32)} {m_years : Int32} {m_gone : Int32} {m_spent : Int32} {m_at : Int32} {m_token : Int32} {m_from : Int32} {m_figures : Int64} {m_fault : Int32} {m_numbers : (Nat → Int32)} {m_statements : Int32} {m_left : (Nat → Int32)} {m_far : (Nat → Int32)} {m_tons : Int32} {m_way : (Nat → Int32)} {m_steps : Int32} {m_met : Int64} {m_queue : (Nat → Int32)} {m_totals : (Nat → Int32)} (hn : 1000000000000 ≤ n) (hs : 0 ≤ sz ∧ sz ≤ 250) : ∀ (a b : Nat) (x0_start : Int32) (x0_end : Int32) (x0_token : Int32) (x0_value : Int32) (x1_lineCount : Int32) (x1_goodsCount : Int32) (x1_workCount : Int32) (x1_years : Int32) (x1_lines : (Nat → Int32)) (x1_goods : (Nat → Int32)) (x1_works : (Nat → Int32)) (x1_change : (Nat → Int32)) (x1_coin : (Nat → Int32)) (x1_isKnown : Int32) (z7 sf st lx gx wx yx ftx : Int32) (lnx gdx wkx : Nat → Nat → Int32) (chx cox nbx : Nat → Int32), 200 ≤ a + z7.toNatClampNeg → 200 ≤ b + z7.toNatClampNeg → (1 ≤ z7 ∧ 2 * (z7.toInt - 1) ≤ x0_start.toInt) → TkOk sz x0_start x0_end x0_token x0_value → (0 ≤ x1_lineCount ∧ x1_lineCount ≤ 20) → (0 ≤ x1_goodsCount ∧ x1_goodsCount ≤ 8) → (0 ≤ x1_workCount ∧ x1_workCount ≤ 7) → (1 ≤ x1_years ∧ x1_years ≤ 30) → LnOk x1_lines → GdOk x1_goods → WkOk x1_works → AI 0 99 x1_change → AI 0 9 x1_coin → LaD x1_lineCount x1_goodsCount x1_workCount x1_years x1_lines x1_goods x1_works x1_change x1_coin lx lnx chx cox gx gdx wx wkx yx → Sf2 ((lp (u15 (fX3_readInto_s11 n bb sz kf)) a (z7, x0_start, x0_end, x0_token, x0_value, x1_lineCount, x1_goodsCount, x1_workCount, x1_years, x1_lines, x1_goods, x1_works, x1_change, x1_coin, x1_isKnown)).bind rcE) ((fX7_statement n (m_shelf, m_rowSort, m_rowSize, m_rows, m_moved, m_shown, bb, sz, m_refused, lx, lnx, chx, cox, gx, gdx, wx, wkx, yx, m_gone, m_spent, x0_end, x0_token, x0_start, (figs x0_token x0_value), ftx, nbx, st, m_left, m_far, m_tons, m_way, m_steps, m_met, m_queue, m_totals)).bind (rdK n b m_shelf m_rowSort m_rowSize m_rows m_moved m_shown bb sz m_refused m_lines m_line m_changes m_coins m_goods m_good m_works m_work m_years m_gone m_spent m_at m_token m_from m_figures m_fault m_numbers m_statements m_left m_far m_tons m_way m_steps m_met m_queue m_totals sf z7)) TpR := by
  intro a
  induction a with
  | zero =>
    intro b x0_start x0_end x0_token x0_value x1_lineCount x1_goodsCount x1_workCount x1_years x1_lines x1_goods x1_works x1_change x1_coin x1_isKnown z7 sf st lx gx wx yx ftx lnx gdx wkx chx cox nbx ha hb hz hT
    exfalso
    have q := i32_cl (Int32.le_trans (by decide) hz.1)
    have h1 := Int32.le_iff_toInt_le.mp hT.1.2
    have h2 := Int32.le_iff_toInt_le.mp hT.2.1
    have h3 := (i32_b hs).2
    have e : (250 : Int32).toInt = 250 := by decide
    omega
  | succ a ih =>
    intro b x0_start x0_end x0_token x0_value x1_lineCount x1_goodsCount x1_workCount x1_years x1_lines x1_goods x1_works x1_change x1_coin x1_isKnown z7 sf st lx gx wx yx ftx lnx gdx wkx chx cox nbx ha hb hz hT k1 k2 k3 k4 k5 k6 k7 k8 k9 hA
    have z70 : 0 ≤ z7 := Int32.le_trans (by decide) hz.1
    have q7 := i32_cl z70
    have h1 := Int32.le_iff_toInt_le.mp hT.1.2
    have h2 := Int32.le_iff_toInt_le.mp hT.2.1
    have h3 := (i32_b hs).2
    have e250 : (250 : Int32).toInt = 250 := by decide
    have z126 : z7.toInt ≤ 126 := by omega
    obtain ⟨b', rfl⟩ : ∃ b', b = b' + 1 := ⟨b - 1, by omega⟩
    have hst : 0 ≤ x0_start ∧ x0_start ≤ 250 := ⟨hT.1.1, Int32.le_trans hT.1.2 (Int32.le_trans hT.2.1 hs.2)⟩
    have hen : 0 ≤ x0_end ∧ x0_end ≤ 250 := ⟨Int32.le_trans hT.1.1 hT.1.2, Int32.le_trans hT.2.1 hs.2⟩
    rw [lp_s]
    show Sf2 (Option.bind (Option.bind (fX3_readInto_s11 n bb sz kf z7 x0_start x0_end x0_token x0_value x1_lineCount x1_goodsCount x1_workCount x1_years x1_lines x1_goods x1_works x1_change x1_coin x1_isKnown) _) rcE) _ TpR
    unfold fX3_readInto_s11
    rw [if_neg (show ¬ (250 : Int32) < z7 from fun h => by have h := Int32.lt_iff_toInt_lt.mp h; omega), Option.bind_assoc, Option.bind_assoc]
    refine Sf2.bind (Sf2.andL (stat2 (x1_isKnown := x1_isKnown) (x1_knownFree := kf) hn hs hT k1 k2 k3 hA) (sX3_readStatement hn hs hst hen k1 k2 k3 k4 k5 k6 k7 k8 k9)) ?_
    rintro ⟨o, s, e, t, v, l0, l1, l2, l3, l4, l5, l6, l7, l8, l9⟩ ⟨o', y0, y1, y2, y3, y4, y5, y6, y7, y8, y9, y10, y11, y12, y13, y14⟩ ⟨⟨h, hpr⟩, j0, j1, j2, j3, j4, j5, j6, j7, j8, j9, j10, j11⟩
    unfold rdK
    dsimp only [u2, u6, u10, u15]
    rcases h with ⟨c1, c2, c3⟩ | ⟨c1, c2, c3, c4, c5, c6⟩
    · have c1 : o = 0 := c1
      have c2 : o' = 0 := c2
      have c3 : y13 = s := c3
      rw [if_pos c1, if_pos c2]
      refine ⟨_, _, rfl, rfl, Or.inl ⟨?_, rfl, ?_⟩⟩
      · show (-20 : Int32) - s < 0
        exact m20 j1
      · show (-20 : Int32) - s = -20 - y13
        rw [c3]
    · have c1 : ¬ o = 0 := c1
      have c2 : ¬ o' = 0 := c2
      have c3 : (y9, y10, y11, y12) = (e, t, s, figs t v) := c3
      have c4 : TkOk sz s e t v := c4
      have c5 : x0_end ≤ s := c5
      have c6 : LaD l0 l1 l2 l3 l4 l5 l6 l7 l8 y0 y1 y2 y3 y4 y5 y6 y7 y8 := c6
      have hlt := Int32.lt_iff_toInt_lt.mp (hpr c1)
      cases c3
      rw [if_neg c1, if_neg c2, rdd_1]
      by_cases t0 : t = 0
      · rw [if_pos t0, if_pos t0]
        refine ⟨_, _, rfl, rfl, Or.inr ⟨z70, ?_, rfl, c6⟩⟩
        show ¬ (1 : Int32) = 0
        decide
      rw [if_neg t0, if_neg t0]
      by_cases t3 : t = 3
      · rw [if_pos t3, if_pos t3, Option.bind_assoc]
        refine Sf2.bind (lookNext hn hs ⟨Int32.le_trans c4.1.1 c4.1.2, c4.2.1⟩ rfl rfl rfl) ?_
        rintro ⟨g97, g98, g99, g100⟩ ⟨n1, n2, n3, n4⟩ ⟨eq, ok, le⟩
        have ok : TkOk sz g97 g98 g99 g100 := ok
        have le : e ≤ g97 := le
        cases eq
        have w1 := Int32.lt_iff_toInt_lt.mp (c4.2.2.2 t0)
        have w2 := Int32.le_iff_toInt_le.mp le
        have w3 := Int32.le_iff_toInt_le.mp c5
        have z1i : (1 : Int32).toInt = 1 := by decide
        have z7i : (z7 + 1).toInt = z7.toInt + 1 := by rw [i32_add (by omega) (by omega), z1i]
        have z71 : 1 ≤ z7 + 1 := Int32.le_iff_toInt_le.mpr (by have := Int32.le_iff_toInt_le.mp hz.1; omega)
        have q71 := i32_cl (Int32.le_trans (by decide) z71)
        exact ih b' g97 g98 g99 g100 l0 l1 l2 l3 l4 l5 l6 l7 l8 l9 (z7 + 1) z7 z7 y0 y4 y6 y8 y13 y1 y5 y7 y2 y3 y14 (by omega) (by omega) ⟨z71, by omega⟩ ok j3 j4 j5 j6 j7 j8 j9 j10 j11 c6
      · rw [if_neg t3, if_neg t3]
        refine ⟨_, _, rfl, rfl, Or.inl ⟨?_, rfl, rfl⟩⟩
        show (-20 : Int32) - s < 0
        exact m20 j1
theorem tape2 {n : Nat} {x0_bytes : (Nat → Int32)} {x0_size : Int32} {x0_start : Int32} {x0_end : Int32} {x0_token : Int32} {x0_value : Int32} {x1_lineCount : Int32} {x1_goodsCount : Int32} {x1_workCount : Int32} {x1_years : Int32} {x1_lines : (Nat → Int32)} {x1_goods : (Nat → Int32)} {x1_works : (Nat → Int32)} {x1_change : (Nat → Int32)} {x1_coin : (Nat → Int32)} {x1_knownFree : (Nat → Int32)} {x1_isKnown : Int32} {m_shelf : (Nat → Int32)} {m_rowSort : (Nat → Int32)} {m_rowSize : (Nat → Int32)} {m_rows : (Nat → Nat → Int64)} {m_moved : (Nat → Int64)} {m_shown : (Nat → Int32)} {m_refused : (Nat → Int32)} {m_lines : Int32} {m_line : (Nat → Nat → Int32)} {m_changes : (Nat → Int32)} {m_coins : (Nat → Int32)} {m_goods : Int32} {m_good : (Nat → Nat → Int32)} {m_works : Int32} {m_work : (Nat → Nat → Int32)} {m_years : Int32} {m_gone : Int32} {m_spent : Int32} {m_at : Int32} {m_token : Int32} {m_from : Int32} {m_figures : Int64} {m_fault : Int32} {m_numbers : (Nat → Int32)} {m_statements : Int32} {m_left : (Nat → Int32)} {m_far : (Nat → Int32)} {m_tons : Int32} {m_way : (Nat → Int32)} {m_steps : Int32} {m_met : Int64} {m_queue : (Nat → Int32)} {m_totals : (Nat → Int32)} (hn : 1000000000000 ≤ n) (hs : 0 ≤ x0_size ∧ x0_size ≤ 250) (h_x1_lineCount : (0 ≤ x1_lineCount ∧ x1_lineCount ≤ 20)) (h_x1_goodsCount : (0 ≤ x1_goodsCount ∧ x1_goodsCount ≤ 8)) (h_x1_workCount : (0 ≤ x1_workCount ∧ x1_workCount ≤ 7)) (h_x1_years : (1 ≤ x1_years ∧ x1_years ≤ 30)) (h_x1_lines : (LnOk x1_lines)) (h_x1_goods : (GdOk x1_goods)) (h_x1_works : (WkOk x1_works)) (h_x1_change : (AI 0 99 x1_change)) (h_x1_coin : (AI 0 9 x1_coin)) (hA : (LaD x1_lineCount x1_goodsCount x1_workCount x1_years x1_lines x1_goods x1_works x1_change x1_coin m_lines m_line m_changes m_coins m_goods m_good m_works m_work m_years)) : Sf2 (fX3_readInto n (x0_bytes, x0_size, x0_start, x0_end, x0_token, x0_value) (x1_lineCount, x1_goodsCount, x1_workCount, x1_years, x1_lines, x1_goods, x1_works, x1_change, x1_coin, x1_knownFree, x1_isKnown)) (fX7_read n (m_shelf, m_rowSort, m_rowSize, m_rows, m_moved, m_shown, x0_bytes, x0_size, m_refused, m_lines, m_line, m_changes, m_coins, m_goods, m_good, m_works, m_work, m_years, m_gone, m_spent, m_at, m_token, m_from, m_figures, m_fault, m_numbers, m_statements, m_left, m_far, m_tons, m_way, m_steps, m_met, m_queue, m_totals)) TpR := by
  rw [rc_0, rdd_0]
  refine Sf2.bind (lookNext hn hs ⟨Int32.le_refl 0, hs.1⟩ rfl rfl rfl) ?_
  rintro ⟨g1, g2, g3, g4⟩ ⟨n1, n2, n3, n4⟩ ⟨eq, ok, le⟩
  have ok : TkOk x0_size g1 g2 g3 g4 := ok
  cases eq
  have q := (i32_b (show (0 : Int32) ≤ g1 ∧ g1 ≤ g1 from ⟨ok.1.1, Int32.le_refl _⟩)).1
  have z0 : (0 : Int32).toInt = 0 := by decide
  have z1 : (1 : Int32).toInt = 1 := by decide
  exact tapeL (m_shelf := m_shelf) (m_rowSort := m_rowSort) (m_rowSize := m_rowSize) (m_rows := m_rows) (m_moved := m_moved) (m_shown := m_shown) (m_refused := m_refused) (m_lines := m_lines) (m_line := m_line) (m_changes := m_changes) (m_coins := m_coins) (m_goods := m_goods) (m_good := m_good) (m_works := m_works) (m_work := m_work) (m_years := m_years) (m_gone := m_gone) (m_spent := m_spent) (m_at := m_at) (m_token := m_token) (m_from := m_from) (m_figures := m_figures) (m_fault := m_fault) (m_numbers := m_numbers) (m_statements := m_statements) (m_left := m_left) (m_far := m_far) (m_tons := m_tons) (m_way := m_way) (m_steps := m_steps) (m_met := m_met) (m_queue := m_queue) (m_totals := m_totals) hn hs n n g1 g2 g3 g4 x1_lineCount x1_goodsCount x1_workCount x1_years x1_lines x1_goods x1_works x1_change x1_coin x1_isKnown 1 1 1 m_lines m_goods m_works m_years m_fault m_line m_good m_work m_changes m_coins m_numbers (by omega) (by omega) ⟨by decide, by omega⟩ ok h_x1_lineCount h_x1_goodsCount h_x1_workCount h_x1_years h_x1_lines h_x1_goods h_x1_works h_x1_change h_x1_coin hA
end
section
/-! land() -/
theorem CpR.refl (L : Int32) (line : Nat → Nat → Int32) (ch co : Nat → Int32) (G : Int32) (good : Nat → Nat → Int32) (W : Int32) (work : Nat → Nat → Int32) (Y gn sp : Int32) : CpR L line ch co G good W work Y gn sp (L, line, ch, co, G, good, W, work, Y, gn, sp) := ⟨rfl, fun _ _ _ _ => rfl, fun _ _ => rfl, fun _ _ => rfl, rfl, fun _ _ _ _ => rfl, rfl, fun _ _ _ _ => rfl, rfl, rfl, rfl⟩
theorem CpC.refl (lc gc wc yr : Int32) (lines goods works chg coin : Nat → Int32) : CpC lc gc wc yr lines goods works chg coin (lc, gc, wc, yr, lines, goods, works, chg, coin, 0) := ⟨rfl, rfl, rfl, rfl, fun _ _ _ _ => rfl, fun _ _ _ _ => rfl, fun _ _ _ _ => rfl, fun _ _ => rfl, fun _ _ => rfl, rfl⟩
theorem dLand {n : Nat} {x0_refused : (Nat → Int32)} {x0_isKept : Int32} {x0_gone : Int32} {x0_spent : Int32} {x1_gained : Nat → Int32} {x2_lineCount : Int32} {x2_goodsCount : Int32} {x2_workCount : Int32} {x2_years : Int32} {x2_lines : (Nat → Int32)} {x2_goods : (Nat → Int32)} {x2_works : (Nat → Int32)} {x2_change : (Nat → Int32)} {x2_coin : (Nat → Int32)} {x2_knownFree : (Nat → Int32)} {x2_isKnown : Int32} {x3_lineCount : Int32} {x3_goodsCount : Int32} {x3_workCount : Int32} {x3_years : Int32} {x3_lines : (Nat → Int32)} {x3_goods : (Nat → Int32)} {x3_works : (Nat → Int32)} {x3_change : (Nat → Int32)} {x3_coin : (Nat → Int32)} {x3_knownFree : (Nat → Int32)} {x3_isKnown : Int32} {x4_bytes : (Nat → Int32)} {x4_size : Int32} {x4_start : Int32} {x4_end : Int32} {x4_token : Int32} {x4_value : Int32} {m_shelf : (Nat → Int32)} {m_rowSort : (Nat → Int32)} {m_rowSize : (Nat → Int32)} {m_rows : (Nat → Nat → Int64)} {m_moved : (Nat → Int64)} {m_shown : (Nat → Int32)} {m_tape : (Nat → Int32)} {m_tapeSize : Int32} {m_refused : (Nat → Int32)} {m_lines : Int32} {m_line : (Nat → Nat → Int32)} {m_changes : (Nat → Int32)} {m_coins : (Nat → Int32)} {m_goods : Int32} {m_good : (Nat → Nat → Int32)} {m_works : Int32} {m_work : (Nat → Nat → Int32)} {m_years : Int32} {m_gone : Int32} {m_spent : Int32} {m_at : Int32} {m_token : Int32} {m_from : Int32} {m_figures : Int64} {m_fault : Int32} {m_numbers : (Nat → Int32)} {m_statements : Int32} {m_left : (Nat → Int32)} {m_far : (Nat → Int32)} {m_tons : Int32} {m_way : (Nat → Int32)} {m_steps : Int32} {m_met : Int64} {m_queue : (Nat → Int32)} {m_totals : (Nat → Int32)} {t_shelf : (Nat → Int32)} {t_rowSort : (Nat → Int32)} {t_rowSize : (Nat → Int32)} {t_rows : (Nat → Nat → Int64)} {t_moved : (Nat → Int64)} {t_shown : (Nat → Int32)} {t_tape : (Nat → Int32)} {t_tapeSize : Int32} {t_refused : (Nat → Int32)} {t_lines : Int32} {t_line : (Nat → Nat → Int32)} {t_changes : (Nat → Int32)} {t_coins : (Nat → Int32)} {t_goods : Int32} {t_good : (Nat → Nat → Int32)} {t_works : Int32} {t_work : (Nat → Nat → Int32)} {t_years : Int32} {t_gone : Int32} {t_spent : Int32} {t_at : Int32} {t_token : Int32} {t_from : Int32} {t_figures : Int64} {t_fault : Int32} {t_numbers : (Nat → Int32)} {t_statements : Int32} {t_left : (Nat → Int32)} {t_far : (Nat → Int32)} {t_tons : Int32} {t_way : (Nat → Int32)} {t_steps : Int32} {t_met : Int64} {t_queue : (Nat → Int32)} {t_totals : (Nat → Int32)} {er e1 e2 e3 e4 e10 fr f1 f5 f7 f9 f10 f11 : Int32} {e0 e5 e6 e7 e8 e9 f3 f4 f0 : Nat → Int32} {f2 f6 f8 : Nat → Nat → Int32} {A10 : Int32 × Int32 × Int32 × Int32 × (Nat → Int32) × (Nat → Int32) × (Nat → Int32) × (Nat → Int32) × (Nat → Int32) × Int32} {B5 : Int32 × Int32 × Int32 × Int32 × Int32} {ts : Int32} {C7 : Int32 × Int32 × Int32 × Int64 × Int32 × (Nat → Int32) × Int32} {D11 : Int32 × (Nat → Nat → Int32) × (Nat → Int32) × (Nat → Int32) × Int32 × (Nat → Nat → Int32) × Int32 × (Nat → Nat → Int32) × Int32 × Int32 × Int32} (hn : 1000000000000 ≤ n) (h_x2_lineCount : (0 ≤ x2_lineCount ∧ x2_lineCount ≤ 20)) (h_x2_goodsCount : (0 ≤ x2_goodsCount ∧ x2_goodsCount ≤ 8)) (h_x2_workCount : (0 ≤ x2_workCount ∧ x2_workCount ≤ 7)) (h_x2_years : (1 ≤ x2_years ∧ x2_years ≤ 30)) (h_x2_lines : (LnOk x2_lines)) (h_x2_goods : (GdOk x2_goods)) (h_x2_works : (WkOk x2_works)) (h_x2_change : (AI 0 99 x2_change)) (h_x2_coin : (AI 0 9 x2_coin)) (h_x3_lineCount : (0 ≤ x3_lineCount ∧ x3_lineCount ≤ 20)) (h_x3_goodsCount : (0 ≤ x3_goodsCount ∧ x3_goodsCount ≤ 8)) (h_x3_workCount : (0 ≤ x3_workCount ∧ x3_workCount ≤ 7)) (h_x3_years : (1 ≤ x3_years ∧ x3_years ≤ 30)) (h_x3_lines : (LnOk x3_lines)) (h_x3_goods : (GdOk x3_goods)) (h_x3_works : (WkOk x3_works)) (h_x3_change : (AI 0 99 x3_change)) (h_x3_coin : (AI 0 9 x3_coin)) (h_x4_size : (0 ≤ x4_size ∧ x4_size ≤ 250)) (h_x4_start : (0 ≤ x4_start ∧ x4_start ≤ 250)) (h_x4_end : (0 ≤ x4_end ∧ x4_end ≤ 250)) (hA : (LaD x3_lineCount x3_goodsCount x3_workCount x3_years x3_lines x3_goods x3_works x3_change x3_coin m_lines m_line m_changes m_coins m_goods m_good m_works m_work m_years)) (hk : Kn (FrS x3_lineCount (ro 7 x3_lines) x3_change x3_coin (ro 3 x3_goods) x3_goodsCount (ro 5 x3_works) x3_workCount) x3_knownFree x3_isKnown) (hz : x4_size = m_tapeSize) (hb : x4_bytes = m_tape) (eqA : fX6_land n (x0_refused, x0_isKept, x0_gone, x0_spent) x1_gained (x2_lineCount, x2_goodsCount, x2_workCount, x2_years, x2_lines, x2_goods, x2_works, x2_change, x2_coin, x2_knownFree, x2_isKnown) (x3_lineCount, x3_goodsCount, x3_workCount, x3_years, x3_lines, x3_goods, x3_works, x3_change, x3_coin, x3_knownFree, x3_isKnown) (x4_bytes, x4_size, x4_start, x4_end, x4_token, x4_value) = some (er, e0, A10, (e1, e2, e3, e4, e5, e6, e7, e8, e9, e10), B5)) (eqB : fX7_land n (m_shelf, m_rowSort, m_rowSize, m_rows, m_moved, m_shown, m_tape, m_tapeSize, m_refused, m_lines, m_line, m_changes, m_coins, m_goods, m_good, m_works, m_work, m_years, m_gone, m_spent, m_at, m_token, m_from, m_figures, m_fault, m_numbers, m_statements, m_left, m_far, m_tons, m_way, m_steps, m_met, m_queue, m_totals) (t_shelf, t_rowSort, t_rowSize, t_rows, t_moved, t_shown, t_tape, t_tapeSize, t_refused, t_lines, t_line, t_changes, t_coins, t_goods, t_good, t_works, t_work, t_years, t_gone, t_spent, t_at, t_token, t_from, t_figures, t_fault, t_numbers, t_statements, t_left, t_far, t_tons, t_way, t_steps, t_met, t_queue, t_totals) = some (fr, (ts, f0, f1, f2, f3, f4, f5, f6, f7, f8, f9, f10, f11, C7), D11)) : er = fr ∧ LaD e1 e2 e3 e4 e5 e6 e7 e8 e9 f1 f2 f3 f4 f5 f6 f7 f8 f9 ∧ Kn (FrS e1 (ro 7 e5) e8 e9 (ro 3 e6) e2 (ro 5 e7) e3) x3_knownFree e10 := by
  subst hz hb
  unfold fX6_land at eqA
  dsimp only [u4, u11, u6] at eqA
  obtain ⟨G1, eT, eqA⟩ := bs eqA
  have cT := (takeC h_x3_lineCount h_x3_goodsCount h_x3_workCount h_x3_years h_x3_lines h_x3_goods h_x3_works h_x3_change h_x3_coin).at eT
  have bT := (sX1_take h_x2_lines h_x2_goods h_x2_works h_x2_change h_x2_coin h_x3_lineCount h_x3_goodsCount h_x3_workCount h_x3_years h_x3_lines h_x3_goods h_x3_works h_x3_change h_x3_coin).at eT
  obtain ⟨g2, g3, g4, g5, g6, g7, g8, g9, g10, g11⟩ := G1
  dsimp only [u10] at eqA
  obtain ⟨bb1, bb2, bb3, bb4, bb5, bb6, bb7, bb8, bb9⟩ := bT
  have hC : LaD g2 g3 g4 g5 g6 g7 g8 g9 g10 m_lines m_line m_changes m_coins m_goods m_good m_works m_work m_years := hA.copy h_x3_lineCount h_x3_goodsCount h_x3_workCount cT (CpR.refl _ _ _ _ _ _ _ _ _ m_gone m_spent)
  obtain ⟨r, q, eR, eQ, hR⟩ := tape2 (x0_bytes := x4_bytes) (x0_size := x4_size) (x0_start := x4_start) (x0_end := x4_end) (x0_token := x4_token) (x0_value := x4_value) (x1_knownFree := x2_knownFree) (x1_isKnown := g11) (m_shelf := m_shelf) (m_rowSort := m_rowSort) (m_rowSize := m_rowSize) (m_rows := m_rows) (m_moved := m_moved) (m_shown := m_shown) (m_refused := m_refused) (m_gone := m_gone) (m_spent := m_spent) (m_at := m_at) (m_token := m_token) (m_from := m_from) (m_figures := m_figures) (m_fault := m_fault) (m_numbers := m_numbers) (m_statements := m_statements) (m_left := m_left) (m_far := m_far) (m_tons := m_tons) (m_way := m_way) (m_steps := m_steps) (m_met := m_met) (m_queue := m_queue) (m_totals := m_totals) hn h_x4_size bb1 bb2 bb3 bb4 bb5 bb6 bb7 bb8 bb9 hC
  have bR := (sX3_readInto (x0_start := x4_start) (x0_end := x4_end) (x1_knownFree := x2_knownFree) (x1_isKnown := g11) hn h_x4_size h_x4_start h_x4_end bb1 bb2 bb3 bb4 bb5 bb6 bb7 bb8 bb9).at eR
  rw [eR] at eqA
  obtain ⟨v13, g14, g15, g16, g17, g19, g20, g21, g22, g23, g24, g25, g26, g27, g28⟩ := r
  unfold fX7_land at eqB
  dsimp only [u35] at eqB
  obtain ⟨G2, eF, eqB⟩ := bs eqB
  have cF := (freshR hn).at eF
  obtain ⟨h2, h3, h4, h5, h6, h7, h8, h9, h10, h11, h12⟩ := G2
  dsimp only [u11] at eqB
  rw [eQ] at eqB
  obtain ⟨v14, k16, k17, k18, k19, k20, k21, k22, k23, k24, k25, k26, k27, k28, k29, k30, k31⟩ := q
  have eqA : (if 0 ≤ v13 then _ else _ : Option _) = some _ := eqA
  have eqB : (if v14 = 0 then _ else _ : Option _) = some _ := eqB
  rcases hR with ⟨c1, c2, c3⟩ | ⟨c1, c2, c3, c4⟩
  · have c1 : v13 < 0 := c1
    have c2 : v14 = 0 := c2
    have c3 : v13 = -20 - k29 := c3
    rw [if_neg (Int32.not_le.mpr c1)] at eqA
    rw [if_pos c2] at eqB
    obtain ⟨o, _, eqA⟩ := bs eqA
    obtain ⟨G3, eK, eqB⟩ := bs eqB
    have cK := (takeFromR hn).at eK
    obtain ⟨i2, i3, i4, i5, i6, i7, i8, i9, i10, i11, i12⟩ := G3
    have eqB : Option.bind (fX7_refuse _ (-2)) _ = some _ := eqB
    obtain ⟨o2, _, eqB⟩ := bs eqB
    obtain ⟨o1, o1'⟩ := o
    obtain ⟨o3, o4⟩ := o2
    have eqA := Option.some.inj eqA
    have eqB := Option.some.inj eqB
    cases eqA
    have p0 : (-20 : Int32) - k29 = fr := congrArg (fun z => z.1) eqB
    have p1 : i2 = f1 := congrArg (fun z => z.2.1.2.2.1) eqB
    have p2 : i3 = f2 := congrArg (fun z => z.2.1.2.2.2.1) eqB
    have p3 : i4 = f3 := congrArg (fun z => z.2.1.2.2.2.2.1) eqB
    have p4 : i5 = f4 := congrArg (fun z => z.2.1.2.2.2.2.2.1) eqB
    have p5 : i6 = f5 := congrArg (fun z => z.2.1.2.2.2.2.2.2.1) eqB
    have p6 : i7 = f6 := congrArg (fun z => z.2.1.2.2.2.2.2.2.2.1) eqB
    have p7 : i8 = f7 := congrArg (fun z => z.2.1.2.2.2.2.2.2.2.2.1) eqB
    have p8 : i9 = f8 := congrArg (fun z => z.2.1.2.2.2.2.2.2.2.2.2.1) eqB
    have p9 : i10 = f9 := congrArg (fun z => z.2.1.2.2.2.2.2.2.2.2.2.2.1) eqB
    subst p0 p1 p2 p3 p4 p5 p6 p7 p8 p9
    have hE : LaD x3_lineCount x3_goodsCount x3_workCount x3_years x3_lines x3_goods x3_works x3_change x3_coin h2 h3 h4 h5 h6 h7 h8 h9 h10 := hA.copy h_x3_lineCount h_x3_goodsCount h_x3_workCount (CpC.refl _ _ _ _ _ _ _ _ _) cF
    exact ⟨c3, hE.copy h_x3_lineCount h_x3_goodsCount h_x3_workCount (CpC.refl _ _ _ _ _ _ _ _ _) cK, hk⟩
  · have c1 : 0 ≤ v13 := c1
    have c2 : ¬ v14 = 0 := c2
    have c3 : v13 = k31 := c3
    have c4 : LaD g19 g20 g21 g22 g23 g24 g25 g26 g27 k16 k17 k18 k19 k20 k21 k22 k23 k24 := c4
    rw [if_pos c1] at eqA
    rw [if_neg c2] at eqB
    obtain ⟨G3, eK, eqA⟩ := bs eqA
    obtain ⟨_, _, d1, d2, d3, d4, d5, d6, d7, d8, d9⟩ := bR
    have cK := (takeC d1 d2 d3 d4 d5 d6 d7 d8 d9).at eK
    obtain ⟨i2, i3, i4, i5, i6, i7, i8, i9, i10, i11⟩ := G3
    have eqA := Option.some.inj eqA
    have eqB := Option.some.inj eqB
    cases eqA
    cases eqB
    exact ⟨c3, c4.copy d1 d2 d3 cK (CpR.refl _ _ _ _ _ _ _ _ _ m_gone m_spent), Or.inl cK.2.2.2.2.2.2.2.2.2⟩
end

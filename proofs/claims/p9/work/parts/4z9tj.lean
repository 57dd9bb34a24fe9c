/-! numbers, words -/
theorem Sf.wrP {α : Type} {N : Nat} {f : Nat → α} {i M : Int32} {x : α} (hM : M.toInt = (N : Int)) (hi : 0 ≤ i ∧ i < M) : Sf (wr N f i x) (fun g => g = va_up f i.toNatClampNeg x) := by
  have h := Sf.wrb (f := f) (x := x) (k := fun g => some g) (Q := fun g => g = va_up f i.toNatClampNeg x) M hM hi (fun g e => Sf.ok e)
  obtain ⟨a, e, p⟩ := h
  cases hw : wr N f i x with
  | none => rw [hw] at e; cases e
  | some b => rw [hw] at e; cases e; exact ⟨_, rfl, p⟩
theorem isWordE {n p p' : Nat} {x0_bytes : (Nat → Int32)} {x0_size : Int32} {x0_start : Int32} {x0_end : Int32} {x0_token : Int32} {x0_value : Int32} {m_shelf : (Nat → Int32)} {m_rowSort : (Nat → Int32)} {m_rowSize : (Nat → Int32)} {m_rows : (Nat → Nat → Int64)} {m_moved : (Nat → Int64)} {m_shown : (Nat → Int32)} {m_tapeSize : Int32} {m_refused : (Nat → Int32)} {m_lines : Int32} {m_line : (Nat → Nat → Int32)} {m_changes : (Nat → Int32)} {m_coins : (Nat → Int32)} {m_goods : Int32} {m_good : (Nat → Nat → Int32)} {m_works : Int32} {m_work : (Nat → Nat → Int32)} {m_years : Int32} {m_gone : Int32} {m_spent : Int32} {m_figures : Int64} {m_fault : Int32} {m_numbers : (Nat → Int32)} {m_statements : Int32} {m_left : (Nat → Int32)} {m_far : (Nat → Int32)} {m_tons : Int32} {m_way : (Nat → Int32)} {m_steps : Int32} {m_met : Int64} {m_queue : (Nat → Int32)} {m_totals : (Nat → Int32)} (hl : slen p' = slen p) (hc : schar p' = schar p) : fX7_isWord n (m_shelf, m_rowSort, m_rowSize, m_rows, m_moved, m_shown, x0_bytes, m_tapeSize, m_refused, m_lines, m_line, m_changes, m_coins, m_goods, m_good, m_works, m_work, m_years, m_gone, m_spent, x0_end, x0_token, x0_start, m_figures, m_fault, m_numbers, m_statements, m_left, m_far, m_tons, m_way, m_steps, m_met, m_queue, m_totals) p' = fX3_isWord n (x0_bytes, x0_size, x0_start, x0_end, x0_token, x0_value) p := by
  unfold fX7_isWord fX3_isWord
  dsimp only [u35, u6]
  have e : fX7_isWord_s28 p' x0_bytes x0_start = fX3_isWord_s28 p x0_bytes x0_start := by
    funext z
    unfold fX7_isWord_s28 fX3_isWord_s28
    rw [hl, hc]
  rw [hl, e]
/-- after a number: the same token on both sides -/
def NmR (sz s e t v lo hi : Int32) (r : Int32 × Int32 × Int32 × Int32 × Int32) (ok : Int32) (q : Int32 × Int32 × Int32 × Int64 × Int32) (flt : Int32) : Prop :=
  (r = (-1, s, e, t, v) ∧ ok = 0 ∧ q = (e, t, s, figs t v, s)) ∨ ((lo ≤ r.1 ∧ r.1 ≤ hi) ∧ t = 2 ∧ r.1 = v ∧ ok = 1 ∧ q = (r.2.2.1, r.2.2.2.1, r.2.1, figs r.2.2.2.1 r.2.2.2.2, flt) ∧ TkOk sz r.2.1 r.2.2.1 r.2.2.2.1 r.2.2.2.2 ∧ e ≤ r.2.1)
theorem fg_in {v lo hi : Int32} (h : v = -1 ∨ (0 ≤ v ∧ v ≤ 999)) (hlo : 0 ≤ lo) (hhi : hi ≤ 999) : ∃ r, fX6_within v lo hi = some r ∧ fX7_in (fg v).toInt64 lo.toInt64 hi.toInt64 = some r ∧ (r = 0 ∨ (r = 1 ∧ (lo ≤ v ∧ v ≤ hi) ∧ fg v = v)) := by
  rw [inw]
  unfold fg
  by_cases e : v = -1
  · rw [if_pos e]
    have a : fX6_within v lo hi = some 0 := by
      unfold fX6_within
      rw [if_pos (by rw [e]; exact Int32.lt_of_lt_of_le (by decide) hlo)]
    have b : fX6_within 100000 lo hi = some 0 := by
      unfold fX6_within
      by_cases c : (100000 : Int32) < lo
      · rw [if_pos c]
      · rw [if_neg c, if_pos (Int32.lt_of_le_of_lt hhi (by decide))]
    exact ⟨0, a, b, Or.inl rfl⟩
  · rw [if_neg e]
    obtain ⟨r, e1, h1⟩ := sX6_within (p0 := v) (p1 := lo) (p2 := hi)
    refine ⟨r, e1, e1, ?_⟩
    rcases h1 with h1 | h1
    · exact Or.inr ⟨h1.1, h1.2, rfl⟩
    · exact Or.inl h1.1
theorem num2 {n m1 : Nat} {x0_bytes : (Nat → Int32)} {x0_size : Int32} {x0_start : Int32} {x0_end : Int32} {x0_token : Int32} {x0_value : Int32} {m_shelf : (Nat → Int32)} {m_rowSort : (Nat → Int32)} {m_rowSize : (Nat → Int32)} {m_rows : (Nat → Nat → Int64)} {m_moved : (Nat → Int64)} {m_shown : (Nat → Int32)} {m_refused : (Nat → Int32)} {m_lines : Int32} {m_line : (Nat → Nat → Int32)} {m_changes : (Nat → Int32)} {m_coins : (Nat → Int32)} {m_goods : Int32} {m_good : (Nat → Nat → Int32)} {m_works : Int32} {m_work : (Nat → Nat → Int32)} {m_years : Int32} {m_gone : Int32} {m_spent : Int32} {m_fault : Int32} {m_numbers : (Nat → Int32)} {m_statements : Int32} {m_left : (Nat → Int32)} {m_far : (Nat → Int32)} {m_tons : Int32} {m_way : (Nat → Int32)} {m_steps : Int32} {m_met : Int64} {m_queue : (Nat → Int32)} {m_totals : (Nat → Int32)} {row : Nat → Int32} {i lo hi M : Int32} (hn : 1000000000000 ≤ n) (hs : 0 ≤ x0_size ∧ x0_size ≤ 250) (hT : TkOk x0_size x0_start x0_end x0_token x0_value) (hlo : 0 ≤ lo) (hhi : hi ≤ 999) (hM : M.toInt = (m1 : Int)) (hi' : 0 ≤ i ∧ i < M) : Sf2 (fX3_number n (x0_bytes, x0_size, x0_start, x0_end, x0_token, x0_value) lo hi) (fX7_number n (m_shelf, m_rowSort, m_rowSize, m_rows, m_moved, m_shown, x0_bytes, x0_size, m_refused, m_lines, m_line, m_changes, m_coins, m_goods, m_good, m_works, m_work, m_years, m_gone, m_spent, x0_end, x0_token, x0_start, (figs x0_token x0_value), m_fault, m_numbers, m_statements, m_left, m_far, m_tons, m_way, m_steps, m_met, m_queue, m_totals) m1 row i lo hi) (fun r q => NmR x0_size x0_start x0_end x0_token x0_value lo hi r q.1 q.2.1 m_fault ∧ (q.1 = 0 ∨ q.2.2 = va_up row i.toNatClampNeg r.1)) := by
  unfold fX3_number fX7_number
  dsimp only [u35, u6]
  have bad : Sf2 (some ((-1 : Int32), x0_start, x0_end, x0_token, x0_value)) ((fX7_wrong (m_shelf, m_rowSort, m_rowSize, m_rows, m_moved, m_shown, x0_bytes, x0_size, m_refused, m_lines, m_line, m_changes, m_coins, m_goods, m_good, m_works, m_work, m_years, m_gone, m_spent, x0_end, x0_token, x0_start, (figs x0_token x0_value), m_fault, m_numbers, m_statements, m_left, m_far, m_tons, m_way, m_steps, m_met, m_queue, m_totals)).bind (u2 fun v1 g2 => (zb v1).bind fun v4 => some (v4, (x0_end, x0_token, x0_start, (figs x0_token x0_value), g2), row))) (fun r q => NmR x0_size x0_start x0_end x0_token x0_value lo hi r q.1 q.2.1 m_fault ∧ (q.1 = 0 ∨ q.2.2 = va_up row i.toNatClampNeg r.1)) := ⟨_, _, rfl, rfl, Or.inl ⟨rfl, rfl, rfl⟩, Or.inl rfl⟩
  refine Sf2.ite Iff.rfl (fun ht => ?_) (fun ht => bad)
  obtain ⟨r, e1, e2, h⟩ := fg_in (hT.2.2.1 ht) hlo hhi
  have ef : figs x0_token x0_value = (fg x0_value).toInt64 := if_pos ht
  rw [e1, ef, e2]
  show Sf2 (if r = 0 then _ else _) (if r = 0 then _ else _) _
  refine Sf2.ite Iff.rfl (fun hr => ?_) (fun hr => ?_)
  · rw [← ef]
    exact bad
  · obtain ⟨_, hv, ev⟩ : r = 1 ∧ (lo ≤ x0_value ∧ x0_value ≤ hi) ∧ fg x0_value = x0_value := by
      rcases h with h | h
      · exact absurd h hr
      · exact h
    rw [ev]
    refine Sf2.r (P := fun f => f = va_up row i.toNatClampNeg x0_value.toInt64.toInt32) (Sf.wrP hM hi') (fun f7 e7 => ?_)
    rw [Int32.toInt32_toInt64] at e7
    refine Sf2.bind (lookNext hn hs ⟨Int32.le_trans hT.1.1 hT.1.2, hT.2.1⟩ rfl rfl rfl) ?_
    rintro ⟨g3, g4, g5, g6⟩ ⟨h8, h9, h10, h11⟩ ⟨eq, ok, le⟩
    cases eq
    exact Sf2.ok ⟨Or.inr ⟨hv, ht, rfl, rfl, rfl, ok, le⟩, Or.inr e7⟩
/-- what a reading of some numbers comes to on both sides: r the class's (value, start, end, token, value here), q the reference's -/
def RdR (sz e0 : Int32) (r : Int32 × Int32 × Int32 × Int32 × Int32) (ok : Int32) (q : Int32 × Int32 × Int32 × Int64 × Int32) (flt : Int32) : Prop :=
  (r.1 = -1 ∧ ok = 0 ∧ q = (r.2.2.1, r.2.2.2.1, r.2.1, figs r.2.2.2.1 r.2.2.2.2, r.2.1)) ∨ (¬ r.1 = -1 ∧ ok = 1 ∧ q = (r.2.2.1, r.2.2.2.1, r.2.1, figs r.2.2.2.1 r.2.2.2.2, flt) ∧ TkOk sz r.2.1 r.2.2.1 r.2.2.2.1 r.2.2.2.2 ∧ e0 ≤ r.2.1)
theorem NmR.rd {sz s e t v lo hi flt ok e0 : Int32} {r : Int32 × Int32 × Int32 × Int32 × Int32} {q : Int32 × Int32 × Int32 × Int64 × Int32} (hlo : 0 ≤ lo) (h0 : e0 ≤ e) (h : NmR sz s e t v lo hi r ok q flt) : RdR sz e0 r ok q flt := by
  rcases h with ⟨h1, h2, h3⟩ | ⟨h1, h2, h3, h4, h5, h6, h7⟩
  · subst h1
    exact Or.inl ⟨rfl, h2, h3⟩
  · refine Or.inr ⟨?_, h4, h5, h6, Int32.le_trans h0 h7⟩
    intro e
    rw [e] at h1
    exact absurd (Int32.le_trans hlo h1.1) (by decide)
/-- a word and a number, where the word stands -/
theorem toldIn {γ δ : Type} {n p p' m1 : Nat} {x0_bytes : (Nat → Int32)} {x0_size : Int32} {x0_start : Int32} {x0_end : Int32} {x0_token : Int32} {x0_value : Int32} {m_shelf : (Nat → Int32)} {m_rowSort : (Nat → Int32)} {m_rowSize : (Nat → Int32)} {m_rows : (Nat → Nat → Int64)} {m_moved : (Nat → Int64)} {m_shown : (Nat → Int32)} {m_refused : (Nat → Int32)} {m_lines : Int32} {m_line : (Nat → Nat → Int32)} {m_changes : (Nat → Int32)} {m_coins : (Nat → Int32)} {m_goods : Int32} {m_good : (Nat → Nat → Int32)} {m_works : Int32} {m_work : (Nat → Nat → Int32)} {m_years : Int32} {m_gone : Int32} {m_spent : Int32} {m_fault : Int32} {m_numbers : (Nat → Int32)} {m_statements : Int32} {m_left : (Nat → Int32)} {m_far : (Nat → Int32)} {m_tons : Int32} {m_way : (Nat → Int32)} {m_steps : Int32} {m_met : Int64} {m_queue : (Nat → Int32)} {m_totals : (Nat → Int32)} {row : Nat → Int32} {i lo hi M v : Int32} {G : Int32 → Int32 → Int32 → Int32 → Int32 → Option γ} {K : Int32 × (Int32 × Int32 × Int32 × Int64 × Int32) × (Nat → Int32) → Option δ} {S : γ → δ → Prop} (hn : 1000000000000 ≤ n) (hs : 0 ≤ x0_size ∧ x0_size ≤ 250) (hT : TkOk x0_size x0_start x0_end x0_token x0_value) (hlo : 0 ≤ lo) (hhi : hi ≤ 999) (hM : M.toInt = (m1 : Int)) (hi' : 0 ≤ i ∧ i < M) (hl : slen p' = slen p) (hc : schar p' = schar p) (ev : fX3_isWord n (x0_bytes, x0_size, x0_start, x0_end, x0_token, x0_value) p = some v) (hv : ¬ v = 0) (hG : ∀ a b c d f ok q row', RdR x0_size x0_end (a, b, c, d, f) ok q m_fault → (ok = 0 ∨ ((lo ≤ a ∧ a ≤ hi) ∧ row' = va_up row i.toNatClampNeg a)) → Sf2 (G a b c d f) (K (ok, q, row')) S) : Sf2 ((fX3_next n (x0_bytes, x0_size, x0_start, x0_end, x0_token, x0_value)).bind (u4 fun g1 g2 g3 g4 => (fX3_number n (x0_bytes, x0_size, g1, g2, g3, g4) lo hi).bind (u5 fun a b c d f => G a b c d f))) ((fX7_told n (m_shelf, m_rowSort, m_rowSize, m_rows, m_moved, m_shown, x0_bytes, x0_size, m_refused, m_lines, m_line, m_changes, m_coins, m_goods, m_good, m_works, m_work, m_years, m_gone, m_spent, x0_end, x0_token, x0_start, (figs x0_token x0_value), m_fault, m_numbers, m_statements, m_left, m_far, m_tons, m_way, m_steps, m_met, m_queue, m_totals) p' m1 row i lo hi).bind K) S := by
  unfold fX7_told
  dsimp only [u35]
  rw [isWordE hl hc, ev]
  show Sf2 _ ((if v = 0 then _ else _ : Option _).bind K) S
  rw [if_neg hv, Option.bind_assoc]
  refine Sf2.bind (lookNext hn hs ⟨Int32.le_trans hT.1.1 hT.1.2, hT.2.1⟩ rfl rfl rfl) ?_
  rintro ⟨g1, g2, g3, g4⟩ ⟨k1, k2, k3, k4⟩ ⟨eq, ok, le⟩
  cases eq
  try dsimp only [u4]
  rw [Option.bind_assoc]
  refine Sf2.bind (num2 hn hs ok hlo hhi hM hi') ?_
  rintro ⟨a, b, c, d, f⟩ ⟨okk, q, row'⟩ ⟨h1, h2⟩
  obtain ⟨q1, q2, q3, q4, q5⟩ := q
  have hz : okk = 0 ∨ okk = 1 := by
    rcases h1 with h | h
    · exact Or.inl h.2.1
    · exact Or.inr h.2.2.2.1
  have ez : zb okk = some okk := if_pos hz
  show Sf2 (G a b c d f) (((zb okk).bind _).bind K) S
  rw [ez]
  refine hG a b c d f okk (q1, q2, q3, q4, q5) row' (NmR.rd hlo (Int32.le_trans le ok.1.2) h1) ?_
  rcases h2 with h2 | h2
  · exact Or.inl h2
  · rcases h1 with h | h
    · exact Or.inl h.2.1
    · exact Or.inr ⟨h.1, h2⟩
/-- a word and a number -/
theorem told2 {γ δ : Type} {n p p' m1 : Nat} {x0_bytes : (Nat → Int32)} {x0_size : Int32} {x0_start : Int32} {x0_end : Int32} {x0_token : Int32} {x0_value : Int32} {m_shelf : (Nat → Int32)} {m_rowSort : (Nat → Int32)} {m_rowSize : (Nat → Int32)} {m_rows : (Nat → Nat → Int64)} {m_moved : (Nat → Int64)} {m_shown : (Nat → Int32)} {m_refused : (Nat → Int32)} {m_lines : Int32} {m_line : (Nat → Nat → Int32)} {m_changes : (Nat → Int32)} {m_coins : (Nat → Int32)} {m_goods : Int32} {m_good : (Nat → Nat → Int32)} {m_works : Int32} {m_work : (Nat → Nat → Int32)} {m_years : Int32} {m_gone : Int32} {m_spent : Int32} {m_fault : Int32} {m_numbers : (Nat → Int32)} {m_statements : Int32} {m_left : (Nat → Int32)} {m_far : (Nat → Int32)} {m_tons : Int32} {m_way : (Nat → Int32)} {m_steps : Int32} {m_met : Int64} {m_queue : (Nat → Int32)} {m_totals : (Nat → Int32)} {row : Nat → Int32} {i lo hi M : Int32} {F0 : Option γ} {G : Int32 → Int32 → Int32 → Int32 → Int32 → Option γ} {K : Int32 × (Int32 × Int32 × Int32 × Int64 × Int32) × (Nat → Int32) → Option δ} {S : γ → δ → Prop} (hn : 1000000000000 ≤ n) (hs : 0 ≤ x0_size ∧ x0_size ≤ 250) (hT : TkOk x0_size x0_start x0_end x0_token x0_value) (hlo : 0 ≤ lo) (hhi : hi ≤ 999) (hM : M.toInt = (m1 : Int)) (hi' : 0 ≤ i ∧ i < M) (hl : slen p' = slen p) (hc : schar p' = schar p) (hw : ∃ v, fX3_isWord n (x0_bytes, x0_size, x0_start, x0_end, x0_token, x0_value) p = some v) (h0 : Sf2 F0 (K (0, (x0_end, x0_token, x0_start, figs x0_token x0_value, x0_start), row)) S) (hG : ∀ a b c d f ok q row', RdR x0_size x0_end (a, b, c, d, f) ok q m_fault → (ok = 0 ∨ ((lo ≤ a ∧ a ≤ hi) ∧ row' = va_up row i.toNatClampNeg a)) → Sf2 (G a b c d f) (K (ok, q, row')) S) : Sf2 ((fX3_isWord n (x0_bytes, x0_size, x0_start, x0_end, x0_token, x0_value) p).bind (fun v17 => if v17 = 0 then F0 else ((fX3_next n (x0_bytes, x0_size, x0_start, x0_end, x0_token, x0_value)).bind (u4 fun g1 g2 g3 g4 => (fX3_number n (x0_bytes, x0_size, g1, g2, g3, g4) lo hi).bind (u5 fun a b c d f => G a b c d f))))) ((fX7_told n (m_shelf, m_rowSort, m_rowSize, m_rows, m_moved, m_shown, x0_bytes, x0_size, m_refused, m_lines, m_line, m_changes, m_coins, m_goods, m_good, m_works, m_work, m_years, m_gone, m_spent, x0_end, x0_token, x0_start, (figs x0_token x0_value), m_fault, m_numbers, m_statements, m_left, m_far, m_tons, m_way, m_steps, m_met, m_queue, m_totals) p' m1 row i lo hi).bind K) S := by
  obtain ⟨v, ev⟩ := hw
  rw [ev]
  show Sf2 (if v = 0 then F0 else _) _ S
  by_cases hv : v = 0
  · rw [if_pos hv]
    unfold fX7_told
    dsimp only [u35]
    rw [isWordE hl hc, ev]
    show Sf2 _ ((if v = 0 then _ else _ : Option _).bind K) S
    rw [if_pos hv]
    exact h0
  · rw [if_neg hv]
    exact toldIn hn hs hT hlo hhi hM hi' hl hc ev hv hG
theorem perh2 {n p p' m1 : Nat} {x0_bytes : (Nat → Int32)} {x0_size : Int32} {x0_start : Int32} {x0_end : Int32} {x0_token : Int32} {x0_value : Int32} {m_shelf : (Nat → Int32)} {m_rowSort : (Nat → Int32)} {m_rowSize : (Nat → Int32)} {m_rows : (Nat → Nat → Int64)} {m_moved : (Nat → Int64)} {m_shown : (Nat → Int32)} {m_refused : (Nat → Int32)} {m_lines : Int32} {m_line : (Nat → Nat → Int32)} {m_changes : (Nat → Int32)} {m_coins : (Nat → Int32)} {m_goods : Int32} {m_good : (Nat → Nat → Int32)} {m_works : Int32} {m_work : (Nat → Nat → Int32)} {m_years : Int32} {m_gone : Int32} {m_spent : Int32} {m_fault : Int32} {m_numbers : (Nat → Int32)} {m_statements : Int32} {m_left : (Nat → Int32)} {m_far : (Nat → Int32)} {m_tons : Int32} {m_way : (Nat → Int32)} {m_steps : Int32} {m_met : Int64} {m_queue : (Nat → Int32)} {m_totals : (Nat → Int32)} {row : Nat → Int32} {i lo hi M df : Int32} (hn : 1000000000000 ≤ n) (hs : 0 ≤ x0_size ∧ x0_size ≤ 250) (hT : TkOk x0_size x0_start x0_end x0_token x0_value) (hlo : 0 ≤ lo) (hhi : hi ≤ 999) (hM : M.toInt = (m1 : Int)) (hi' : 0 ≤ i ∧ i < M) (hl : slen p' = slen p) (hc : schar p' = schar p) (hw : ∃ v, fX3_isWord n (x0_bytes, x0_size, x0_start, x0_end, x0_token, x0_value) p = some v) (hd : lo ≤ df ∧ df ≤ hi) (hr : row i.toNatClampNeg = df) : Sf2 (fX3_perhaps n (x0_bytes, x0_size, x0_start, x0_end, x0_token, x0_value) p lo hi df) (fX7_perhaps n (m_shelf, m_rowSort, m_rowSize, m_rows, m_moved, m_shown, x0_bytes, x0_size, m_refused, m_lines, m_line, m_changes, m_coins, m_goods, m_good, m_works, m_work, m_years, m_gone, m_spent, x0_end, x0_token, x0_start, (figs x0_token x0_value), m_fault, m_numbers, m_statements, m_left, m_far, m_tons, m_way, m_steps, m_met, m_queue, m_totals) p' m1 row i lo hi) (fun r q => RdR x0_size x0_start r q.1 q.2.1 m_fault ∧ (q.1 = 0 ∨ ((lo ≤ r.1 ∧ r.1 ≤ hi) ∧ ∀ c, q.2.2 c = va_up row i.toNatClampNeg r.1 c))) := by
  obtain ⟨v, ev⟩ := hw
  have hdn : ¬ df = -1 := by
    intro e
    rw [e] at hd
    exact absurd (Int32.le_trans hlo hd.1) (by decide)
  unfold fX3_perhaps fX7_perhaps
  dsimp only [u35, u6]
  rw [isWordE hl hc, ev]
  show Sf2 (if v = 0 then _ else _) (if v = 0 then _ else _) _
  by_cases hv : v = 0
  · rw [if_pos hv, if_pos hv]
    refine Sf2.ok ⟨Or.inr ⟨hdn, rfl, rfl, hT, Int32.le_refl _⟩, Or.inr ⟨hd, fun c => ?_⟩⟩
    show row c = va_up row i.toNatClampNeg df c
    by_cases hcc : c = i.toNatClampNeg
    · rw [hcc, va_eq, hr]
    · rw [va_ne _ _ hcc]
  · rw [if_neg hv, if_neg hv]
    refine toldIn hn hs hT hlo hhi hM hi' hl hc ev hv ?_
    rintro a b c d f ok ⟨q1, q2, q3, q4, q5⟩ row' h1 h2
    have mono : RdR x0_size x0_start (a, b, c, d, f) ok (q1, q2, q3, q4, q5) m_fault := by
      rcases h1 with h | ⟨h, h3, h4, h5, h6⟩
      · exact Or.inl h
      · exact Or.inr ⟨h, h3, h4, h5, Int32.le_trans hT.1.2 h6⟩
    show Sf2 (some (a, b, c, d, f)) (if ok = 0 then _ else _) _
    by_cases ho : ok = 0
    · rw [if_pos ho]
      rw [ho] at mono
      exact Sf2.ok ⟨mono, Or.inl rfl⟩
    · rw [if_neg ho]
      have e1 : ok = 1 := by
        rcases h1 with h | h
        · exact absurd h.2.1 ho
        · exact h.2.1
      rw [e1] at mono
      rcases h2 with h | h
      · exact absurd h ho
      · exact Sf2.ok ⟨mono, Or.inr ⟨h.1, fun c => by rw [h.2]⟩⟩
/-- two numbers that are not the same -/
theorem lg_eq (a b : Int32) : lg_cmp a.toInt64 b.toInt64 = 0 ↔ a = b := by
  have h1 := lgc_lt a.toInt64 b.toInt64
  have h2 := lgc_gt a.toInt64 b.toInt64
  rw [i64_lt] at h1 h2
  constructor
  · intro h
    rw [h] at h1 h2
    have n1 : ¬ a < b := fun q => absurd (h1.mpr q) (by decide)
    have n2 : ¬ b < a := fun q => absurd (h2.mpr q) (by decide)
    exact Int32.le_antisymm (Int32.not_lt.mp n2) (Int32.not_lt.mp n1)
  · intro h
    subst h
    have n1 : ¬ lg_cmp a.toInt64 a.toInt64 < 0 := fun q => Int32.lt_irrefl (h1.mp q)
    have n2 : ¬ 0 < lg_cmp a.toInt64 a.toInt64 := fun q => Int32.lt_irrefl (h2.mp q)
    exact Int32.le_antisymm (Int32.not_lt.mp n2) (Int32.not_lt.mp n1)
theorem unl2 {n m1 : Nat} {x0_bytes : (Nat → Int32)} {x0_size : Int32} {x0_start : Int32} {x0_end : Int32} {x0_token : Int32} {x0_value : Int32} {m_shelf : (Nat → Int32)} {m_rowSort : (Nat → Int32)} {m_rowSize : (Nat → Int32)} {m_rows : (Nat → Nat → Int64)} {m_moved : (Nat → Int64)} {m_shown : (Nat → Int32)} {m_refused : (Nat → Int32)} {m_lines : Int32} {m_line : (Nat → Nat → Int32)} {m_changes : (Nat → Int32)} {m_coins : (Nat → Int32)} {m_goods : Int32} {m_good : (Nat → Nat → Int32)} {m_works : Int32} {m_work : (Nat → Nat → Int32)} {m_years : Int32} {m_gone : Int32} {m_spent : Int32} {m_fault : Int32} {m_numbers : (Nat → Int32)} {m_statements : Int32} {m_left : (Nat → Int32)} {m_far : (Nat → Int32)} {m_tons : Int32} {m_way : (Nat → Int32)} {m_steps : Int32} {m_met : Int64} {m_queue : (Nat → Int32)} {m_totals : (Nat → Int32)} {row : Nat → Int32} {i hi M o : Int32} (hn : 1000000000000 ≤ n) (hs : 0 ≤ x0_size ∧ x0_size ≤ 250) (hT : TkOk x0_size x0_start x0_end x0_token x0_value) (hhi : hi ≤ 999) (hM : M.toInt = (m1 : Int)) (hi' : 0 ≤ i ∧ i < M) (hne : ¬ (x0_token = 2 ∧ x0_value = o)) : Sf2 (fX3_numberUnlike n (x0_bytes, x0_size, x0_start, x0_end, x0_token, x0_value) o hi) (fX7_number n (m_shelf, m_rowSort, m_rowSize, m_rows, m_moved, m_shown, x0_bytes, x0_size, m_refused, m_lines, m_line, m_changes, m_coins, m_goods, m_good, m_works, m_work, m_years, m_gone, m_spent, x0_end, x0_token, x0_start, (figs x0_token x0_value), m_fault, m_numbers, m_statements, m_left, m_far, m_tons, m_way, m_steps, m_met, m_queue, m_totals) m1 row i 0 hi) (fun r q => NmR x0_size x0_start x0_end x0_token x0_value 0 hi r q.1 q.2.1 m_fault ∧ (q.1 = 0 ∨ q.2.2 = va_up row i.toNatClampNeg r.1)) := by
  have e : fX3_numberUnlike n (x0_bytes, x0_size, x0_start, x0_end, x0_token, x0_value) o hi = fX3_number n (x0_bytes, x0_size, x0_start, x0_end, x0_token, x0_value) 0 hi := by
    have id5 : ∀ x : Option (Int32 × Int32 × Int32 × Int32 × Int32), x.bind (u5 fun v7 g8 g9 g10 g11 => some (v7, g8, g9, g10, g11)) = x := by
      intro x
      cases x with
      | none => rfl
      | some y => rfl
    unfold fX3_numberUnlike
    dsimp only [u6]
    by_cases ht : x0_token = 2
    · rw [if_pos ht, if_neg (fun h => hne ⟨ht, h⟩), id5]
    · rw [if_neg ht, id5]
  rw [e]
  exact num2 hn hs hT (by decide) hhi hM hi'

/-! small things owed -/
theorem sX3_readChange01 {n : Nat} {x0_bytes : (Nat → Int32)} {x0_size : Int32} {x0_start : Int32} {x0_end : Int32} {x0_token : Int32} {x0_value : Int32} {x1_lineCount : Int32} {x1_goodsCount : Int32} {x1_workCount : Int32} {x1_years : Int32} {x1_lines : (Nat → Int32)} {x1_goods : (Nat → Int32)} {x1_works : (Nat → Int32)} {x1_change : (Nat → Int32)} {x1_coin : (Nat → Int32)} {x1_knownFree : (Nat → Int32)} {x1_isKnown : Int32} (hn : 1000000000000 ≤ n) (hs : 0 ≤ x0_size ∧ x0_size ≤ 250) (hT : TkOk x0_size x0_start x0_end x0_token x0_value) : Sf (fX3_readChange n (x0_bytes, x0_size, x0_start, x0_end, x0_token, x0_value) (x1_lineCount, x1_goodsCount, x1_workCount, x1_years, x1_lines, x1_goods, x1_works, x1_change, x1_coin, x1_knownFree, x1_isKnown)) (fun r => r.1 = 0 ∨ r.1 = 1) := by
  have he : 0 ≤ x0_end ∧ x0_end ≤ 250 := ⟨Int32.le_trans hT.1.1 hT.1.2, Int32.le_trans hT.2.1 hs.2⟩
  have hst : 0 ≤ x0_start ∧ x0_start ≤ 250 := ⟨hT.1.1, Int32.le_trans hT.1.2 he.2⟩
  have j : ∀ k a b c d y, Sf (fX3_readChange_j28 x1_lineCount x1_goodsCount x1_workCount x1_years x1_lines x1_goods x1_works x1_change x1_coin x1_knownFree x1_isKnown k a b c d y) (fun r => r.1 = 0 ∨ r.1 = 1) := by
    intro k a b c d y
    unfold fX3_readChange_j28
    refine Sf.ite (fun _ => Sf.ok (Or.inl rfl)) (fun _ => ?_)
    refine Sf.bind (P := fun _ => True) ?_ (fun g _ => by obtain ⟨g1, g2⟩ := g; exact Sf.ok (Or.inr rfl))
    unfold fX1_putChange
    dsimp only [u11]
    refine Sf.ite (fun _ => Sf.ok trivial) (fun h1 => Sf.ite (fun _ => Sf.ok trivial) (fun h2 => ?_))
    exact Sf.wrb 12 rfl ⟨Int32.not_lt.mp h1, Int32.not_le.mp h2⟩ (fun f e => Sf.ok trivial)
  unfold fX3_readChange
  dsimp only [u6, u11]
  refine Sf.bind (sX3_next hn hs hst he) ?_
  rintro ⟨g1, g2, g3, g4⟩ ⟨h1, h2⟩
  refine Sf.bind (sX3_number hn hs h1 h2) ?_
  rintro ⟨v6, g7, g8, g9, g10⟩ h3
  try dsimp only [u5]
  refine Sf.ite (fun _ => j _ _ _ _ _ _) (fun _ => ?_)
  refine Sf.bind (P := fun _ => True) (Sf.mono (sX3_number hn hs h3.1 h3.2.1) (fun _ _ => trivial)) (fun g _ => by obtain ⟨a, b, c, d, e⟩ := g; exact j _ _ _ _ _ _)
theorem sX3_readCoin01 {n : Nat} {x0_bytes : (Nat → Int32)} {x0_size : Int32} {x0_start : Int32} {x0_end : Int32} {x0_token : Int32} {x0_value : Int32} {x1_lineCount : Int32} {x1_goodsCount : Int32} {x1_workCount : Int32} {x1_years : Int32} {x1_lines : (Nat → Int32)} {x1_goods : (Nat → Int32)} {x1_works : (Nat → Int32)} {x1_change : (Nat → Int32)} {x1_coin : (Nat → Int32)} {x1_knownFree : (Nat → Int32)} {x1_isKnown : Int32} (hn : 1000000000000 ≤ n) (hs : 0 ≤ x0_size ∧ x0_size ≤ 250) (hT : TkOk x0_size x0_start x0_end x0_token x0_value) : Sf (fX3_readCoin n (x0_bytes, x0_size, x0_start, x0_end, x0_token, x0_value) (x1_lineCount, x1_goodsCount, x1_workCount, x1_years, x1_lines, x1_goods, x1_works, x1_change, x1_coin, x1_knownFree, x1_isKnown)) (fun r => r.1 = 0 ∨ r.1 = 1) := by
  have he : 0 ≤ x0_end ∧ x0_end ≤ 250 := ⟨Int32.le_trans hT.1.1 hT.1.2, Int32.le_trans hT.2.1 hs.2⟩
  have hst : 0 ≤ x0_start ∧ x0_start ≤ 250 := ⟨hT.1.1, Int32.le_trans hT.1.2 he.2⟩
  have j : ∀ k a b c d y, Sf (fX3_readCoin_j27 x1_lineCount x1_goodsCount x1_workCount x1_years x1_lines x1_goods x1_works x1_change x1_coin x1_knownFree x1_isKnown k a b c d y) (fun r => r.1 = 0 ∨ r.1 = 1) := by
    intro k a b c d y
    unfold fX3_readCoin_j27
    refine Sf.ite (fun _ => Sf.ok (Or.inl rfl)) (fun _ => ?_)
    refine Sf.bind (P := fun _ => True) ?_ (fun g _ => by obtain ⟨g1, g2⟩ := g; exact Sf.ok (Or.inr rfl))
    unfold fX1_putCoin
    dsimp only [u11]
    refine Sf.ite (fun _ => Sf.ok trivial) (fun h1 => Sf.ite (fun _ => Sf.ok trivial) (fun h2 => ?_))
    exact Sf.wrb 3 rfl ⟨Int32.not_lt.mp h1, Int32.not_le.mp h2⟩ (fun f e => Sf.ok trivial)
  unfold fX3_readCoin
  dsimp only [u6, u11]
  refine Sf.bind (sX3_next hn hs hst he) ?_
  rintro ⟨g1, g2, g3, g4⟩ ⟨h1, h2⟩
  refine Sf.bind (sX3_number hn hs h1 h2) ?_
  rintro ⟨v6, g7, g8, g9, g10⟩ h3
  try dsimp only [u5]
  refine Sf.ite (fun _ => j _ _ _ _ _ _) (fun _ => ?_)
  refine Sf.bind (P := fun _ => True) (Sf.mono (sX3_number hn hs h3.1 h3.2.1) (fun _ _ => trivial)) (fun g _ => by obtain ⟨a, b, c, d, e⟩ := g; exact j _ _ _ _ _ _)
/-! the statement -/
theorem word1 {n p : Nat} {x0_bytes : (Nat → Int32)} {x0_size : Int32} {x0_start : Int32} {x0_end : Int32} {x0_token : Int32} {x0_value : Int32} {v L c0 : Int32} (hn : 1000000000000 ≤ n) (h : fX3_isWord n (x0_bytes, x0_size, x0_start, x0_end, x0_token, x0_value) p = some v) (hv : ¬ v = 0) (hl : slen p = some L) (h0 : ¬ L ≤ 0) (hc : schar p 0 = some c0) : x0_token = 1 ∧ x0_end - x0_start = L ∧ rd 250 x0_bytes (x0_start + 0) = some c0 := by
  obtain ⟨k, rfl⟩ : ∃ k, n = k + 1 := ⟨n - 1, by omega⟩
  unfold fX3_isWord at h
  dsimp only [u6] at h
  by_cases ht : x0_token = 1
  case neg =>
    rw [if_neg ht] at h
    cases h
    exact absurd rfl hv
  rw [if_pos ht, hl] at h
  have h : (if (x0_end - x0_start) = L then ((lp (fX3_isWord_s28 p x0_bytes x0_start) (k + 1) (0)).bind (Sum.elim (fun _ => some (0)) (fun _ => some (1)))) else (some (0))) = some v := h
  by_cases he : x0_end - x0_start = L
  case neg =>
    rw [if_neg he] at h
    cases h
    exact absurd rfl hv
  rw [if_pos he] at h
  refine ⟨ht, he, ?_⟩
  have st : fX3_isWord_s28 p x0_bytes x0_start 0 = (rd 250 x0_bytes (x0_start + 0)).bind fun v6 => if v6 = c0 then (some (.inl ((0 : Int32) + 1))) else (some (.inr (.inl ()))) := by
    unfold fX3_isWord_s28
    rw [hl]
    show (if L ≤ 0 then _ else _) = _
    rw [if_neg h0, hc]
    rfl
  cases hr : rd 250 x0_bytes (x0_start + 0) with
  | none =>
    rw [hr] at st
    have e : lp (fX3_isWord_s28 p x0_bytes x0_start) (k + 1) 0 = none := by
      unfold lp
      rw [st]
      rfl
    rw [e] at h
    cases h
  | some x =>
    rw [hr] at st
    by_cases hx : x = c0
    · rw [hx]
    · exfalso
      have st2 : fX3_isWord_s28 p x0_bytes x0_start 0 = some (.inr (.inl ())) := by
        rw [st]
        show (if x = c0 then _ else _) = _
        rw [if_neg hx]
      have e : lp (fX3_isWord_s28 p x0_bytes x0_start) (k + 1) 0 = some (.inl ()) := by
        unfold lp
        rw [st2]
      rw [e] at h
      cases h
      exact absurd rfl hv
/-- another word does not stand there -/
theorem wordNo {n p p' : Nat} {x0_bytes : (Nat → Int32)} {x0_size : Int32} {x0_start : Int32} {x0_end : Int32} {x0_token : Int32} {x0_value : Int32} {v L c0 L' c0' : Int32} (hn : 1000000000000 ≤ n) (hs : 0 ≤ x0_size ∧ x0_size ≤ 250) (hT : TkOk x0_size x0_start x0_end x0_token x0_value) (h : fX3_isWord n (x0_bytes, x0_size, x0_start, x0_end, x0_token, x0_value) p = some v) (hv : ¬ v = 0) (hl : slen p = some L) (h0 : ¬ L ≤ 0) (hc : schar p 0 = some c0) (hp : p' < 10) (hl' : slen p' = some L') (h0' : ¬ L' ≤ 0) (hc' : schar p' 0 = some c0') (hd : ¬ L = L' ∨ ¬ c0 = c0') : fX3_isWord n (x0_bytes, x0_size, x0_start, x0_end, x0_token, x0_value) p' = some 0 := by
  obtain ⟨v', e'⟩ := isWordS (n := n) (p := p') (x0_bytes := x0_bytes) hn hs hT hp
  by_cases hv' : v' = 0
  · rw [e', hv']
  · exfalso
    obtain ⟨_, a1, a2⟩ := word1 hn h hv hl h0 hc
    obtain ⟨_, b1, b2⟩ := word1 hn e' hv' hl' h0' hc'
    rcases hd with hd | hd
    · exact hd (a1.symm.trans b1)
    · rw [a2] at b2
      exact hd (Option.some.inj b2)
theorem Sf2.mapL {α β γ : Type} {x : Option α} {y : Option β} {R : α → β → Prop} {f : α → Option γ} {S : γ → β → Prop} (h : Sf2 x y R) (k : ∀ a b, R a b → ∃ c, f a = some c ∧ S c b) : Sf2 (x.bind f) y S := by
  obtain ⟨a, b, e1, e2, r⟩ := h
  obtain ⟨c, e3, s⟩ := k a b r
  rw [e1, e2]
  exact ⟨c, b, e3, rfl, s⟩
theorem w19 {n : Nat} {x0_bytes : (Nat → Int32)} {x0_size : Int32} {x0_start : Int32} {x0_end : Int32} {x0_token : Int32} {x0_value : Int32} {m_shelf : (Nat → Int32)} {m_rowSort : (Nat → Int32)} {m_rowSize : (Nat → Int32)} {m_rows : (Nat → Nat → Int64)} {m_moved : (Nat → Int64)} {m_shown : (Nat → Int32)} {m_refused : (Nat → Int32)} {m_lines : Int32} {m_line : (Nat → Nat → Int32)} {m_changes : (Nat → Int32)} {m_coins : (Nat → Int32)} {m_goods : Int32} {m_good : (Nat → Nat → Int32)} {m_works : Int32} {m_work : (Nat → Nat → Int32)} {m_years : Int32} {m_gone : Int32} {m_spent : Int32} {m_fault : Int32} {m_numbers : (Nat → Int32)} {m_statements : Int32} {m_left : (Nat → Int32)} {m_far : (Nat → Int32)} {m_tons : Int32} {m_way : (Nat → Int32)} {m_steps : Int32} {m_met : Int64} {m_queue : (Nat → Int32)} {m_totals : (Nat → Int32)} (h : fX3_isWord n (x0_bytes, x0_size, x0_start, x0_end, x0_token, x0_value) 9 = some 0) : ∃ b, sYears n m_shelf m_rowSort m_rowSize m_rows m_moved m_shown x0_bytes x0_size m_refused m_lines m_line m_changes m_coins m_goods m_good m_works m_work m_years m_gone m_spent x0_end x0_token x0_start (figs x0_token x0_value) m_fault m_numbers m_statements m_left m_far m_tons m_way m_steps m_met m_queue m_totals = some b ∧ b.1 = 0 ∧ b.2.2.2.2.2.2.2.2.2.2.2.2.2.2.1 = x0_start := by
  unfold sYears fX7_toldN
  dsimp only [u35]
  rw [isWordE (p := 9) (p' := 19) rfl rfl, h]
  exact ⟨_, rfl, rfl, rfl⟩
theorem w17 {n : Nat} {x0_bytes : (Nat → Int32)} {x0_size : Int32} {x0_start : Int32} {x0_end : Int32} {x0_token : Int32} {x0_value : Int32} {m_shelf : (Nat → Int32)} {m_rowSort : (Nat → Int32)} {m_rowSize : (Nat → Int32)} {m_rows : (Nat → Nat → Int64)} {m_moved : (Nat → Int64)} {m_shown : (Nat → Int32)} {m_refused : (Nat → Int32)} {m_lines : Int32} {m_line : (Nat → Nat → Int32)} {m_changes : (Nat → Int32)} {m_coins : (Nat → Int32)} {m_goods : Int32} {m_good : (Nat → Nat → Int32)} {m_works : Int32} {m_work : (Nat → Nat → Int32)} {m_years : Int32} {m_gone : Int32} {m_spent : Int32} {m_fault : Int32} {m_numbers : (Nat → Int32)} {m_statements : Int32} {m_left : (Nat → Int32)} {m_far : (Nat → Int32)} {m_tons : Int32} {m_way : (Nat → Int32)} {m_steps : Int32} {m_met : Int64} {m_queue : (Nat → Int32)} {m_totals : (Nat → Int32)} (h7 : fX3_isWord n (x0_bytes, x0_size, x0_start, x0_end, x0_token, x0_value) 7 = some 0) (h8 : fX3_isWord n (x0_bytes, x0_size, x0_start, x0_end, x0_token, x0_value) 8 = some 0) (h9 : fX3_isWord n (x0_bytes, x0_size, x0_start, x0_end, x0_token, x0_value) 9 = some 0) : ∃ b, fX7_statement_j214 n m_shelf m_rowSort m_rowSize m_rows m_moved m_shown x0_bytes x0_size m_refused m_lines m_line m_changes m_coins m_goods m_good m_works m_work m_years m_gone m_spent x0_end x0_token x0_start (figs x0_token x0_value) m_fault m_numbers m_statements m_left m_far m_tons m_way m_steps m_met m_queue m_totals = some b ∧ b.1 = 0 ∧ b.2.2.2.2.2.2.2.2.2.2.2.2.2.2.1 = x0_start := by
  obtain ⟨b, e, h⟩ := w19 (m_shelf := m_shelf) (m_rowSort := m_rowSort) (m_rowSize := m_rowSize) (m_rows := m_rows) (m_moved := m_moved) (m_shown := m_shown) (m_refused := m_refused) (m_lines := m_lines) (m_line := m_line) (m_changes := m_changes) (m_coins := m_coins) (m_goods := m_goods) (m_good := m_good) (m_works := m_works) (m_work := m_work) (m_years := m_years) (m_gone := m_gone) (m_spent := m_spent) (m_fault := m_fault) (m_numbers := m_numbers) (m_statements := m_statements) (m_left := m_left) (m_far := m_far) (m_tons := m_tons) (m_way := m_way) (m_steps := m_steps) (m_met := m_met) (m_queue := m_queue) (m_totals := m_totals) h9
  refine ⟨b, ?_, h⟩
  rw [st_3, isWordE (p := 7) (p' := 17) rfl rfl, h7, Option.bind_some, if_pos rfl, isWordE (p := 8) (p' := 18) rfl rfl, h8, Option.bind_some, if_pos rfl]
  exact e
theorem w16 {n : Nat} {x0_bytes : (Nat → Int32)} {x0_size : Int32} {x0_start : Int32} {x0_end : Int32} {x0_token : Int32} {x0_value : Int32} {m_shelf : (Nat → Int32)} {m_rowSort : (Nat → Int32)} {m_rowSize : (Nat → Int32)} {m_rows : (Nat → Nat → Int64)} {m_moved : (Nat → Int64)} {m_shown : (Nat → Int32)} {m_refused : (Nat → Int32)} {m_lines : Int32} {m_line : (Nat → Nat → Int32)} {m_changes : (Nat → Int32)} {m_coins : (Nat → Int32)} {m_goods : Int32} {m_good : (Nat → Nat → Int32)} {m_works : Int32} {m_work : (Nat → Nat → Int32)} {m_years : Int32} {m_gone : Int32} {m_spent : Int32} {m_fault : Int32} {m_numbers : (Nat → Int32)} {m_statements : Int32} {m_left : (Nat → Int32)} {m_far : (Nat → Int32)} {m_tons : Int32} {m_way : (Nat → Int32)} {m_steps : Int32} {m_met : Int64} {m_queue : (Nat → Int32)} {m_totals : (Nat → Int32)} (h6 : fX3_isWord n (x0_bytes, x0_size, x0_start, x0_end, x0_token, x0_value) 6 = some 0) (h : ∃ b, fX7_statement_j214 n m_shelf m_rowSort m_rowSize m_rows m_moved m_shown x0_bytes x0_size m_refused m_lines m_line m_changes m_coins m_goods m_good m_works m_work m_years m_gone m_spent x0_end x0_token x0_start (figs x0_token x0_value) m_fault m_numbers m_statements m_left m_far m_tons m_way m_steps m_met m_queue m_totals = some b ∧ b.1 = 0 ∧ b.2.2.2.2.2.2.2.2.2.2.2.2.2.2.1 = x0_start) : ∃ b, fX7_statement_j182 n m_shelf m_rowSort m_rowSize m_rows m_moved m_shown x0_bytes x0_size m_refused m_lines m_line m_changes m_coins m_goods m_good m_works m_work m_years m_gone m_spent x0_end x0_token x0_start (figs x0_token x0_value) m_fault m_numbers m_statements m_left m_far m_tons m_way m_steps m_met m_queue m_totals = some b ∧ b.1 = 0 ∧ b.2.2.2.2.2.2.2.2.2.2.2.2.2.2.1 = x0_start := by
  obtain ⟨b, e, h⟩ := h
  refine ⟨b, ?_, h⟩
  rw [st_2, isWordE (p := 6) (p' := 16) rfl rfl, h6, Option.bind_some, if_pos rfl]
  exact e
theorem w15 {n : Nat} {x0_bytes : (Nat → Int32)} {x0_size : Int32} {x0_start : Int32} {x0_end : Int32} {x0_token : Int32} {x0_value : Int32} {m_shelf : (Nat → Int32)} {m_rowSort : (Nat → Int32)} {m_rowSize : (Nat → Int32)} {m_rows : (Nat → Nat → Int64)} {m_moved : (Nat → Int64)} {m_shown : (Nat → Int32)} {m_refused : (Nat → Int32)} {m_lines : Int32} {m_line : (Nat → Nat → Int32)} {m_changes : (Nat → Int32)} {m_coins : (Nat → Int32)} {m_goods : Int32} {m_good : (Nat → Nat → Int32)} {m_works : Int32} {m_work : (Nat → Nat → Int32)} {m_years : Int32} {m_gone : Int32} {m_spent : Int32} {m_fault : Int32} {m_numbers : (Nat → Int32)} {m_statements : Int32} {m_left : (Nat → Int32)} {m_far : (Nat → Int32)} {m_tons : Int32} {m_way : (Nat → Int32)} {m_steps : Int32} {m_met : Int64} {m_queue : (Nat → Int32)} {m_totals : (Nat → Int32)} (h5 : fX3_isWord n (x0_bytes, x0_size, x0_start, x0_end, x0_token, x0_value) 5 = some 0) (h : ∃ b, fX7_statement_j182 n m_shelf m_rowSort m_rowSize m_rows m_moved m_shown x0_bytes x0_size m_refused m_lines m_line m_changes m_coins m_goods m_good m_works m_work m_years m_gone m_spent x0_end x0_token x0_start (figs x0_token x0_value) m_fault m_numbers m_statements m_left m_far m_tons m_way m_steps m_met m_queue m_totals = some b ∧ b.1 = 0 ∧ b.2.2.2.2.2.2.2.2.2.2.2.2.2.2.1 = x0_start) : ∃ b, fX7_statement_j114 n m_shelf m_rowSort m_rowSize m_rows m_moved m_shown x0_bytes x0_size m_refused m_lines m_line m_changes m_coins m_goods m_good m_works m_work m_years m_gone m_spent x0_end x0_token x0_start (figs x0_token x0_value) m_fault m_numbers m_statements m_left m_far m_tons m_way m_steps m_met m_queue m_totals = some b ∧ b.1 = 0 ∧ b.2.2.2.2.2.2.2.2.2.2.2.2.2.2.1 = x0_start := by
  obtain ⟨b, e, h⟩ := h
  refine ⟨b, ?_, h⟩
  rw [st_1, isWordE (p := 5) (p' := 15) rfl rfl, h5, Option.bind_some, if_pos rfl]
  exact e
theorem stL {n : Nat} {x0_bytes : (Nat → Int32)} {x0_size : Int32} {x0_start : Int32} {x0_end : Int32} {x0_token : Int32} {x0_value : Int32} {x1_lineCount : Int32} {x1_goodsCount : Int32} {x1_workCount : Int32} {x1_years : Int32} {x1_lines : (Nat → Int32)} {x1_goods : (Nat → Int32)} {x1_works : (Nat → Int32)} {x1_change : (Nat → Int32)} {x1_coin : (Nat → Int32)} {x1_knownFree : (Nat → Int32)} {x1_isKnown : Int32} {m_shelf : (Nat → Int32)} {m_rowSort : (Nat → Int32)} {m_rowSize : (Nat → Int32)} {m_rows : (Nat → Nat → Int64)} {m_moved : (Nat → Int64)} {m_shown : (Nat → Int32)} {m_refused : (Nat → Int32)} {m_lines : Int32} {m_line : (Nat → Nat → Int32)} {m_changes : (Nat → Int32)} {m_coins : (Nat → Int32)} {m_goods : Int32} {m_good : (Nat → Nat → Int32)} {m_works : Int32} {m_work : (Nat → Nat → Int32)} {m_years : Int32} {m_gone : Int32} {m_spent : Int32} {m_fault : Int32} {m_numbers : (Nat → Int32)} {m_statements : Int32} {m_left : (Nat → Int32)} {m_far : (Nat → Int32)} {m_tons : Int32} {m_way : (Nat → Int32)} {m_steps : Int32} {m_met : Int64} {m_queue : (Nat → Int32)} {m_totals : (Nat → Int32)} {v0 : Int32} (hn : 1000000000000 ≤ n) (hs : 0 ≤ x0_size ∧ x0_size ≤ 250) (hT : TkOk x0_size x0_start x0_end x0_token x0_value) (ev : fX3_isWord n (x0_bytes, x0_size, x0_start, x0_end, x0_token, x0_value) 0 = some v0) (hv : ¬ v0 = 0) (hlc : 0 ≤ x1_lineCount ∧ x1_lineCount ≤ 20) (hf : ¬ 20 ≤ x1_lineCount) (hA : (LaD x1_lineCount x1_goodsCount x1_workCount x1_years x1_lines x1_goods x1_works x1_change x1_coin m_lines m_line m_changes m_coins m_goods m_good m_works m_work m_years)) : Sf2 ((fX3_readLine n (x0_bytes, x0_size, x0_start, x0_end, x0_token, x0_value) (x1_lineCount, x1_goodsCount, x1_workCount, x1_years, x1_lines, x1_goods, x1_works, x1_change, x1_coin, x1_knownFree, x1_isKnown)).bind (u8 fun g0 g1 g2 g3 g4 g5 g6 g7 => if g0 = 0 then (some (0, g1, g2, g3, g4, (g5, x1_goodsCount, x1_workCount, x1_years, g6, x1_goods, x1_works, x1_change, x1_coin, g7))) else (some (1, g1, g2, g3, g4, (g5, x1_goodsCount, x1_workCount, x1_years, g6, x1_goods, x1_works, x1_change, x1_coin, g7))))) (sLine n m_shelf m_rowSort m_rowSize m_rows m_moved m_shown x0_bytes x0_size m_refused m_lines m_line m_changes m_coins m_goods m_good m_works m_work m_years m_gone m_spent x0_end x0_token x0_start (figs x0_token x0_value) m_fault m_numbers m_statements m_left m_far m_tons m_way m_steps m_met m_queue m_totals) (fun r q => StR x0_size x0_end r.1 r.2.1 r.2.2.1 r.2.2.2.1 r.2.2.2.2.1 r.2.2.2.2.2.1 r.2.2.2.2.2.2.1 r.2.2.2.2.2.2.2.1 r.2.2.2.2.2.2.2.2.1 r.2.2.2.2.2.2.2.2.2.1 r.2.2.2.2.2.2.2.2.2.2.1 r.2.2.2.2.2.2.2.2.2.2.2.1 r.2.2.2.2.2.2.2.2.2.2.2.2.1 r.2.2.2.2.2.2.2.2.2.2.2.2.2.1 q.1 q.2.1 q.2.2.1 q.2.2.2.1 q.2.2.2.2.1 q.2.2.2.2.2.1 q.2.2.2.2.2.2.1 q.2.2.2.2.2.2.2.1 q.2.2.2.2.2.2.2.2.1 q.2.2.2.2.2.2.2.2.2.1 q.2.2.2.2.2.2.2.2.2.2.1 q.2.2.2.2.2.2.2.2.2.2.2.1 q.2.2.2.2.2.2.2.2.2.2.2.2.1 q.2.2.2.2.2.2.2.2.2.2.2.2.2.1 q.2.2.2.2.2.2.2.2.2.2.2.2.2.2.1 ∧ (¬ r.1 = 0 → x0_start < x0_end)) := by
  have hlt : x0_start < x0_end := hT.2.2.2 (by rw [(word1 hn ev hv (L := 4) rfl (by decide) (c0 := 108) rfl).1]; decide)
  refine Sf2.mapL (line2 hn hs hT hlc hf hA) ?_
  rintro ⟨g0, g1, g2, g3, g4, g5, g6, g7⟩ b h
  by_cases ho : g0 = 0
  · refine ⟨_, if_pos ho, ?_, fun _ => hlt⟩
    rcases h with h | h
    · exact Or.inl ⟨rfl, h.2⟩
    · exact absurd ho h.1
  · refine ⟨_, if_neg ho, ?_, fun _ => hlt⟩
    rcases h with h | h
    · exact absurd h.1 ho
    · exact Or.inr ⟨(show ¬ (1 : Int32) = 0 by decide), h.2⟩
theorem stG {n : Nat} {x0_bytes : (Nat → Int32)} {x0_size : Int32} {x0_start : Int32} {x0_end : Int32} {x0_token : Int32} {x0_value : Int32} {x1_lineCount : Int32} {x1_goodsCount : Int32} {x1_workCount : Int32} {x1_years : Int32} {x1_lines : (Nat → Int32)} {x1_goods : (Nat → Int32)} {x1_works : (Nat → Int32)} {x1_change : (Nat → Int32)} {x1_coin : (Nat → Int32)} {x1_knownFree : (Nat → Int32)} {x1_isKnown : Int32} {m_shelf : (Nat → Int32)} {m_rowSort : (Nat → Int32)} {m_rowSize : (Nat → Int32)} {m_rows : (Nat → Nat → Int64)} {m_moved : (Nat → Int64)} {m_shown : (Nat → Int32)} {m_refused : (Nat → Int32)} {m_lines : Int32} {m_line : (Nat → Nat → Int32)} {m_changes : (Nat → Int32)} {m_coins : (Nat → Int32)} {m_goods : Int32} {m_good : (Nat → Nat → Int32)} {m_works : Int32} {m_work : (Nat → Nat → Int32)} {m_years : Int32} {m_gone : Int32} {m_spent : Int32} {m_fault : Int32} {m_numbers : (Nat → Int32)} {m_statements : Int32} {m_left : (Nat → Int32)} {m_far : (Nat → Int32)} {m_tons : Int32} {m_way : (Nat → Int32)} {m_steps : Int32} {m_met : Int64} {m_queue : (Nat → Int32)} {m_totals : (Nat → Int32)} {v0 : Int32} (hn : 1000000000000 ≤ n) (hs : 0 ≤ x0_size ∧ x0_size ≤ 250) (hT : TkOk x0_size x0_start x0_end x0_token x0_value) (ev : fX3_isWord n (x0_bytes, x0_size, x0_start, x0_end, x0_token, x0_value) 5 = some v0) (hv : ¬ v0 = 0) (hgc : 0 ≤ x1_goodsCount ∧ x1_goodsCount ≤ 8) (hf : ¬ 8 ≤ x1_goodsCount) (hA : (LaD x1_lineCount x1_goodsCount x1_workCount x1_years x1_lines x1_goods x1_works x1_change x1_coin m_lines m_line m_changes m_coins m_goods m_good m_works m_work m_years)) : Sf2 ((fX3_readGoods n (x0_bytes, x0_size, x0_start, x0_end, x0_token, x0_value) (x1_lineCount, x1_goodsCount, x1_workCount, x1_years, x1_lines, x1_goods, x1_works, x1_change, x1_coin, x1_knownFree, x1_isKnown)).bind (u8 fun g0 g1 g2 g3 g4 g5 g6 g7 => if g0 = 0 then (some (0, g1, g2, g3, g4, (x1_lineCount, g5, x1_workCount, x1_years, x1_lines, g6, x1_works, x1_change, x1_coin, g7))) else (some (1, g1, g2, g3, g4, (x1_lineCount, g5, x1_workCount, x1_years, x1_lines, g6, x1_works, x1_change, x1_coin, g7))))) (sGoods n m_shelf m_rowSort m_rowSize m_rows m_moved m_shown x0_bytes x0_size m_refused m_lines m_line m_changes m_coins m_goods m_good m_works m_work m_years m_gone m_spent x0_end x0_token x0_start (figs x0_token x0_value) m_fault m_numbers m_statements m_left m_far m_tons m_way m_steps m_met m_queue m_totals) (fun r q => StR x0_size x0_end r.1 r.2.1 r.2.2.1 r.2.2.2.1 r.2.2.2.2.1 r.2.2.2.2.2.1 r.2.2.2.2.2.2.1 r.2.2.2.2.2.2.2.1 r.2.2.2.2.2.2.2.2.1 r.2.2.2.2.2.2.2.2.2.1 r.2.2.2.2.2.2.2.2.2.2.1 r.2.2.2.2.2.2.2.2.2.2.2.1 r.2.2.2.2.2.2.2.2.2.2.2.2.1 r.2.2.2.2.2.2.2.2.2.2.2.2.2.1 q.1 q.2.1 q.2.2.1 q.2.2.2.1 q.2.2.2.2.1 q.2.2.2.2.2.1 q.2.2.2.2.2.2.1 q.2.2.2.2.2.2.2.1 q.2.2.2.2.2.2.2.2.1 q.2.2.2.2.2.2.2.2.2.1 q.2.2.2.2.2.2.2.2.2.2.1 q.2.2.2.2.2.2.2.2.2.2.2.1 q.2.2.2.2.2.2.2.2.2.2.2.2.1 q.2.2.2.2.2.2.2.2.2.2.2.2.2.1 q.2.2.2.2.2.2.2.2.2.2.2.2.2.2.1 ∧ (¬ r.1 = 0 → x0_start < x0_end)) := by
  have hlt : x0_start < x0_end := hT.2.2.2 (by rw [(word1 hn ev hv (L := 5) rfl (by decide) (c0 := 103) rfl).1]; decide)
  refine Sf2.mapL (goods2 hn hs hT hgc hf hA) ?_
  rintro ⟨g0, g1, g2, g3, g4, g5, g6, g7⟩ b h
  by_cases ho : g0 = 0
  · refine ⟨_, if_pos ho, ?_, fun _ => hlt⟩
    rcases h with h | h
    · exact Or.inl ⟨rfl, h.2⟩
    · exact absurd ho h.1
  · refine ⟨_, if_neg ho, ?_, fun _ => hlt⟩
    rcases h with h | h
    · exact absurd h.1 ho
    · exact Or.inr ⟨(show ¬ (1 : Int32) = 0 by decide), h.2⟩
theorem stW {n : Nat} {x0_bytes : (Nat → Int32)} {x0_size : Int32} {x0_start : Int32} {x0_end : Int32} {x0_token : Int32} {x0_value : Int32} {x1_lineCount : Int32} {x1_goodsCount : Int32} {x1_workCount : Int32} {x1_years : Int32} {x1_lines : (Nat → Int32)} {x1_goods : (Nat → Int32)} {x1_works : (Nat → Int32)} {x1_change : (Nat → Int32)} {x1_coin : (Nat → Int32)} {x1_knownFree : (Nat → Int32)} {x1_isKnown : Int32} {m_shelf : (Nat → Int32)} {m_rowSort : (Nat → Int32)} {m_rowSize : (Nat → Int32)} {m_rows : (Nat → Nat → Int64)} {m_moved : (Nat → Int64)} {m_shown : (Nat → Int32)} {m_refused : (Nat → Int32)} {m_lines : Int32} {m_line : (Nat → Nat → Int32)} {m_changes : (Nat → Int32)} {m_coins : (Nat → Int32)} {m_goods : Int32} {m_good : (Nat → Nat → Int32)} {m_works : Int32} {m_work : (Nat → Nat → Int32)} {m_years : Int32} {m_gone : Int32} {m_spent : Int32} {m_fault : Int32} {m_numbers : (Nat → Int32)} {m_statements : Int32} {m_left : (Nat → Int32)} {m_far : (Nat → Int32)} {m_tons : Int32} {m_way : (Nat → Int32)} {m_steps : Int32} {m_met : Int64} {m_queue : (Nat → Int32)} {m_totals : (Nat → Int32)} {v0 : Int32} (hn : 1000000000000 ≤ n) (hs : 0 ≤ x0_size ∧ x0_size ≤ 250) (hT : TkOk x0_size x0_start x0_end x0_token x0_value) (ev : fX3_isWord n (x0_bytes, x0_size, x0_start, x0_end, x0_token, x0_value) 6 = some v0) (hv : ¬ v0 = 0) (hlc : 0 ≤ x1_lineCount ∧ x1_lineCount ≤ 20) (hwc : 0 ≤ x1_workCount ∧ x1_workCount ≤ 7) (hf : ¬ 7 ≤ x1_workCount) (hA : (LaD x1_lineCount x1_goodsCount x1_workCount x1_years x1_lines x1_goods x1_works x1_change x1_coin m_lines m_line m_changes m_coins m_goods m_good m_works m_work m_years)) : Sf2 ((fX3_readWork n (x0_bytes, x0_size, x0_start, x0_end, x0_token, x0_value) (x1_lineCount, x1_goodsCount, x1_workCount, x1_years, x1_lines, x1_goods, x1_works, x1_change, x1_coin, x1_knownFree, x1_isKnown)).bind (u8 fun g0 g1 g2 g3 g4 g5 g6 g7 => if g0 = 0 then (some (0, g1, g2, g3, g4, (x1_lineCount, x1_goodsCount, g5, x1_years, x1_lines, x1_goods, g6, x1_change, x1_coin, g7))) else (some (1, g1, g2, g3, g4, (x1_lineCount, x1_goodsCount, g5, x1_years, x1_lines, x1_goods, g6, x1_change, x1_coin, g7))))) (sWork n m_shelf m_rowSort m_rowSize m_rows m_moved m_shown x0_bytes x0_size m_refused m_lines m_line m_changes m_coins m_goods m_good m_works m_work m_years m_gone m_spent x0_end x0_token x0_start (figs x0_token x0_value) m_fault m_numbers m_statements m_left m_far m_tons m_way m_steps m_met m_queue m_totals) (fun r q => StR x0_size x0_end r.1 r.2.1 r.2.2.1 r.2.2.2.1 r.2.2.2.2.1 r.2.2.2.2.2.1 r.2.2.2.2.2.2.1 r.2.2.2.2.2.2.2.1 r.2.2.2.2.2.2.2.2.1 r.2.2.2.2.2.2.2.2.2.1 r.2.2.2.2.2.2.2.2.2.2.1 r.2.2.2.2.2.2.2.2.2.2.2.1 r.2.2.2.2.2.2.2.2.2.2.2.2.1 r.2.2.2.2.2.2.2.2.2.2.2.2.2.1 q.1 q.2.1 q.2.2.1 q.2.2.2.1 q.2.2.2.2.1 q.2.2.2.2.2.1 q.2.2.2.2.2.2.1 q.2.2.2.2.2.2.2.1 q.2.2.2.2.2.2.2.2.1 q.2.2.2.2.2.2.2.2.2.1 q.2.2.2.2.2.2.2.2.2.2.1 q.2.2.2.2.2.2.2.2.2.2.2.1 q.2.2.2.2.2.2.2.2.2.2.2.2.1 q.2.2.2.2.2.2.2.2.2.2.2.2.2.1 q.2.2.2.2.2.2.2.2.2.2.2.2.2.2.1 ∧ (¬ r.1 = 0 → x0_start < x0_end)) := by
  have hlt : x0_start < x0_end := hT.2.2.2 (by rw [(word1 hn ev hv (L := 4) rfl (by decide) (c0 := 119) rfl).1]; decide)
  refine Sf2.mapL (work2 hn hs hT ev hv hlc hwc hf hA) ?_
  rintro ⟨g0, g1, g2, g3, g4, g5, g6, g7⟩ b h
  by_cases ho : g0 = 0
  · refine ⟨_, if_pos ho, ?_, fun _ => hlt⟩
    rcases h with h | h
    · exact Or.inl ⟨rfl, h.2⟩
    · exact absurd ho h.1
  · refine ⟨_, if_neg ho, ?_, fun _ => hlt⟩
    rcases h with h | h
    · exact absurd h.1 ho
    · exact Or.inr ⟨(show ¬ (1 : Int32) = 0 by decide), h.2⟩
theorem stY {n : Nat} {x0_bytes : (Nat → Int32)} {x0_size : Int32} {x0_start : Int32} {x0_end : Int32} {x0_token : Int32} {x0_value : Int32} {x1_lineCount : Int32} {x1_goodsCount : Int32} {x1_workCount : Int32} {x1_years : Int32} {x1_lines : (Nat → Int32)} {x1_goods : (Nat → Int32)} {x1_works : (Nat → Int32)} {x1_change : (Nat → Int32)} {x1_coin : (Nat → Int32)} {x1_knownFree : (Nat → Int32)} {x1_isKnown : Int32} {m_shelf : (Nat → Int32)} {m_rowSort : (Nat → Int32)} {m_rowSize : (Nat → Int32)} {m_rows : (Nat → Nat → Int64)} {m_moved : (Nat → Int64)} {m_shown : (Nat → Int32)} {m_refused : (Nat → Int32)} {m_lines : Int32} {m_line : (Nat → Nat → Int32)} {m_changes : (Nat → Int32)} {m_coins : (Nat → Int32)} {m_goods : Int32} {m_good : (Nat → Nat → Int32)} {m_works : Int32} {m_work : (Nat → Nat → Int32)} {m_years : Int32} {m_gone : Int32} {m_spent : Int32} {m_fault : Int32} {m_numbers : (Nat → Int32)} {m_statements : Int32} {m_left : (Nat → Int32)} {m_far : (Nat → Int32)} {m_tons : Int32} {m_way : (Nat → Int32)} {m_steps : Int32} {m_met : Int64} {m_queue : (Nat → Int32)} {m_totals : (Nat → Int32)} {v0 : Int32} (hn : 1000000000000 ≤ n) (hs : 0 ≤ x0_size ∧ x0_size ≤ 250) (hT : TkOk x0_size x0_start x0_end x0_token x0_value) (ev : fX3_isWord n (x0_bytes, x0_size, x0_start, x0_end, x0_token, x0_value) 9 = some v0) (hv : ¬ v0 = 0)  (hA : (LaD x1_lineCount x1_goodsCount x1_workCount x1_years x1_lines x1_goods x1_works x1_change x1_coin m_lines m_line m_changes m_coins m_goods m_good m_works m_work m_years)) : Sf2 ((fX3_readYears n (x0_bytes, x0_size, x0_start, x0_end, x0_token, x0_value) (x1_lineCount, x1_goodsCount, x1_workCount, x1_years, x1_lines, x1_goods, x1_works, x1_change, x1_coin, x1_knownFree, x1_isKnown)).bind (u6 fun g0 g1 g2 g3 g4 g5 => if g0 = 0 then (some (0, g1, g2, g3, g4, (x1_lineCount, x1_goodsCount, x1_workCount, g5, x1_lines, x1_goods, x1_works, x1_change, x1_coin, x1_isKnown))) else (some (1, g1, g2, g3, g4, (x1_lineCount, x1_goodsCount, x1_workCount, g5, x1_lines, x1_goods, x1_works, x1_change, x1_coin, x1_isKnown))))) (sYears n m_shelf m_rowSort m_rowSize m_rows m_moved m_shown x0_bytes x0_size m_refused m_lines m_line m_changes m_coins m_goods m_good m_works m_work m_years m_gone m_spent x0_end x0_token x0_start (figs x0_token x0_value) m_fault m_numbers m_statements m_left m_far m_tons m_way m_steps m_met m_queue m_totals) (fun r q => StR x0_size x0_end r.1 r.2.1 r.2.2.1 r.2.2.2.1 r.2.2.2.2.1 r.2.2.2.2.2.1 r.2.2.2.2.2.2.1 r.2.2.2.2.2.2.2.1 r.2.2.2.2.2.2.2.2.1 r.2.2.2.2.2.2.2.2.2.1 r.2.2.2.2.2.2.2.2.2.2.1 r.2.2.2.2.2.2.2.2.2.2.2.1 r.2.2.2.2.2.2.2.2.2.2.2.2.1 r.2.2.2.2.2.2.2.2.2.2.2.2.2.1 q.1 q.2.1 q.2.2.1 q.2.2.2.1 q.2.2.2.2.1 q.2.2.2.2.2.1 q.2.2.2.2.2.2.1 q.2.2.2.2.2.2.2.1 q.2.2.2.2.2.2.2.2.1 q.2.2.2.2.2.2.2.2.2.1 q.2.2.2.2.2.2.2.2.2.2.1 q.2.2.2.2.2.2.2.2.2.2.2.1 q.2.2.2.2.2.2.2.2.2.2.2.2.1 q.2.2.2.2.2.2.2.2.2.2.2.2.2.1 q.2.2.2.2.2.2.2.2.2.2.2.2.2.2.1 ∧ (¬ r.1 = 0 → x0_start < x0_end)) := by
  have hlt : x0_start < x0_end := hT.2.2.2 (by rw [(word1 hn ev hv (L := 5) rfl (by decide) (c0 := 121) rfl).1]; decide)
  refine Sf2.mapL (years2 hn hs hT ev hv hA) ?_
  rintro ⟨g0, g1, g2, g3, g4, g5⟩ b h
  by_cases ho : g0 = 0
  · refine ⟨_, if_pos ho, ?_, fun _ => hlt⟩
    rcases h with h | h
    · exact Or.inl ⟨rfl, h.2⟩
    · exact absurd ho h.1
  · refine ⟨_, if_neg ho, ?_, fun _ => hlt⟩
    rcases h with h | h
    · exact absurd h.1 ho
    · exact Or.inr ⟨(show ¬ (1 : Int32) = 0 by decide), h.2⟩
theorem stC {n : Nat} {x0_bytes : (Nat → Int32)} {x0_size : Int32} {x0_start : Int32} {x0_end : Int32} {x0_token : Int32} {x0_value : Int32} {x1_lineCount : Int32} {x1_goodsCount : Int32} {x1_workCount : Int32} {x1_years : Int32} {x1_lines : (Nat → Int32)} {x1_goods : (Nat → Int32)} {x1_works : (Nat → Int32)} {x1_change : (Nat → Int32)} {x1_coin : (Nat → Int32)} {x1_knownFree : (Nat → Int32)} {x1_isKnown : Int32} {m_shelf : (Nat → Int32)} {m_rowSort : (Nat → Int32)} {m_rowSize : (Nat → Int32)} {m_rows : (Nat → Nat → Int64)} {m_moved : (Nat → Int64)} {m_shown : (Nat → Int32)} {m_refused : (Nat → Int32)} {m_lines : Int32} {m_line : (Nat → Nat → Int32)} {m_changes : (Nat → Int32)} {m_coins : (Nat → Int32)} {m_goods : Int32} {m_good : (Nat → Nat → Int32)} {m_works : Int32} {m_work : (Nat → Nat → Int32)} {m_years : Int32} {m_gone : Int32} {m_spent : Int32} {m_fault : Int32} {m_numbers : (Nat → Int32)} {m_statements : Int32} {m_left : (Nat → Int32)} {m_far : (Nat → Int32)} {m_tons : Int32} {m_way : (Nat → Int32)} {m_steps : Int32} {m_met : Int64} {m_queue : (Nat → Int32)} {m_totals : (Nat → Int32)} {v0 : Int32} (hn : 1000000000000 ≤ n) (hs : 0 ≤ x0_size ∧ x0_size ≤ 250) (hT : TkOk x0_size x0_start x0_end x0_token x0_value) (ev : fX3_isWord n (x0_bytes, x0_size, x0_start, x0_end, x0_token, x0_value) 7 = some v0) (hv : ¬ v0 = 0) (hA : (LaD x1_lineCount x1_goodsCount x1_workCount x1_years x1_lines x1_goods x1_works x1_change x1_coin m_lines m_line m_changes m_coins m_goods m_good m_works m_work m_years)) : Sf2 ((fX3_readChange n (x0_bytes, x0_size, x0_start, x0_end, x0_token, x0_value) (x1_lineCount, x1_goodsCount, x1_workCount, x1_years, x1_lines, x1_goods, x1_works, x1_change, x1_coin, x1_knownFree, x1_isKnown)).bind (u7 fun g0 g1 g2 g3 g4 g5 g6 => (zb g0).bind fun v28 => (some (v28, g1, g2, g3, g4, (x1_lineCount, x1_goodsCount, x1_workCount, x1_years, x1_lines, x1_goods, x1_works, g5, x1_coin, g6))))) (sChange n m_shelf m_rowSort m_rowSize m_rows m_moved m_shown x0_bytes x0_size m_refused m_lines m_line m_changes m_coins m_goods m_good m_works m_work m_years m_gone m_spent x0_end x0_token x0_start (figs x0_token x0_value) m_fault m_numbers m_statements m_left m_far m_tons m_way m_steps m_met m_queue m_totals) (fun r q => StR x0_size x0_end r.1 r.2.1 r.2.2.1 r.2.2.2.1 r.2.2.2.2.1 r.2.2.2.2.2.1 r.2.2.2.2.2.2.1 r.2.2.2.2.2.2.2.1 r.2.2.2.2.2.2.2.2.1 r.2.2.2.2.2.2.2.2.2.1 r.2.2.2.2.2.2.2.2.2.2.1 r.2.2.2.2.2.2.2.2.2.2.2.1 r.2.2.2.2.2.2.2.2.2.2.2.2.1 r.2.2.2.2.2.2.2.2.2.2.2.2.2.1 q.1 q.2.1 q.2.2.1 q.2.2.2.1 q.2.2.2.2.1 q.2.2.2.2.2.1 q.2.2.2.2.2.2.1 q.2.2.2.2.2.2.2.1 q.2.2.2.2.2.2.2.2.1 q.2.2.2.2.2.2.2.2.2.1 q.2.2.2.2.2.2.2.2.2.2.1 q.2.2.2.2.2.2.2.2.2.2.2.1 q.2.2.2.2.2.2.2.2.2.2.2.2.1 q.2.2.2.2.2.2.2.2.2.2.2.2.2.1 q.2.2.2.2.2.2.2.2.2.2.2.2.2.2.1 ∧ (¬ r.1 = 0 → x0_start < x0_end)) := by
  have hlt : x0_start < x0_end := hT.2.2.2 (by rw [(word1 hn ev hv (L := 6) rfl (by decide) (c0 := 99) rfl).1]; decide)
  refine Sf2.mapL (Sf2.andL (change2 hn hs hT ev hv hA) (sX3_readChange01 hn hs hT)) ?_
  rintro ⟨g0, g1, g2, g3, g4, g5, g6⟩ b ⟨h, h01⟩
  have h01 : g0 = 0 ∨ g0 = 1 := h01
  have ez : zb g0 = some g0 := if_pos h01
  refine ⟨_, (show (zb g0).bind _ = some _ by rw [ez]; rfl), h, fun _ => hlt⟩
theorem stO {n : Nat} {x0_bytes : (Nat → Int32)} {x0_size : Int32} {x0_start : Int32} {x0_end : Int32} {x0_token : Int32} {x0_value : Int32} {x1_lineCount : Int32} {x1_goodsCount : Int32} {x1_workCount : Int32} {x1_years : Int32} {x1_lines : (Nat → Int32)} {x1_goods : (Nat → Int32)} {x1_works : (Nat → Int32)} {x1_change : (Nat → Int32)} {x1_coin : (Nat → Int32)} {x1_knownFree : (Nat → Int32)} {x1_isKnown : Int32} {m_shelf : (Nat → Int32)} {m_rowSort : (Nat → Int32)} {m_rowSize : (Nat → Int32)} {m_rows : (Nat → Nat → Int64)} {m_moved : (Nat → Int64)} {m_shown : (Nat → Int32)} {m_refused : (Nat → Int32)} {m_lines : Int32} {m_line : (Nat → Nat → Int32)} {m_changes : (Nat → Int32)} {m_coins : (Nat → Int32)} {m_goods : Int32} {m_good : (Nat → Nat → Int32)} {m_works : Int32} {m_work : (Nat → Nat → Int32)} {m_years : Int32} {m_gone : Int32} {m_spent : Int32} {m_fault : Int32} {m_numbers : (Nat → Int32)} {m_statements : Int32} {m_left : (Nat → Int32)} {m_far : (Nat → Int32)} {m_tons : Int32} {m_way : (Nat → Int32)} {m_steps : Int32} {m_met : Int64} {m_queue : (Nat → Int32)} {m_totals : (Nat → Int32)} {v0 : Int32} (hn : 1000000000000 ≤ n) (hs : 0 ≤ x0_size ∧ x0_size ≤ 250) (hT : TkOk x0_size x0_start x0_end x0_token x0_value) (ev : fX3_isWord n (x0_bytes, x0_size, x0_start, x0_end, x0_token, x0_value) 8 = some v0) (hv : ¬ v0 = 0) (hA : (LaD x1_lineCount x1_goodsCount x1_workCount x1_years x1_lines x1_goods x1_works x1_change x1_coin m_lines m_line m_changes m_coins m_goods m_good m_works m_work m_years)) : Sf2 ((fX3_readCoin n (x0_bytes, x0_size, x0_start, x0_end, x0_token, x0_value) (x1_lineCount, x1_goodsCount, x1_workCount, x1_years, x1_lines, x1_goods, x1_works, x1_change, x1_coin, x1_knownFree, x1_isKnown)).bind (u7 fun g0 g1 g2 g3 g4 g5 g6 => (zb g0).bind fun v28 => (some (v28, g1, g2, g3, g4, (x1_lineCount, x1_goodsCount, x1_workCount, x1_years, x1_lines, x1_goods, x1_works, x1_change, g5, g6))))) (sCoin n m_shelf m_rowSort m_rowSize m_rows m_moved m_shown x0_bytes x0_size m_refused m_lines m_line m_changes m_coins m_goods m_good m_works m_work m_years m_gone m_spent x0_end x0_token x0_start (figs x0_token x0_value) m_fault m_numbers m_statements m_left m_far m_tons m_way m_steps m_met m_queue m_totals) (fun r q => StR x0_size x0_end r.1 r.2.1 r.2.2.1 r.2.2.2.1 r.2.2.2.2.1 r.2.2.2.2.2.1 r.2.2.2.2.2.2.1 r.2.2.2.2.2.2.2.1 r.2.2.2.2.2.2.2.2.1 r.2.2.2.2.2.2.2.2.2.1 r.2.2.2.2.2.2.2.2.2.2.1 r.2.2.2.2.2.2.2.2.2.2.2.1 r.2.2.2.2.2.2.2.2.2.2.2.2.1 r.2.2.2.2.2.2.2.2.2.2.2.2.2.1 q.1 q.2.1 q.2.2.1 q.2.2.2.1 q.2.2.2.2.1 q.2.2.2.2.2.1 q.2.2.2.2.2.2.1 q.2.2.2.2.2.2.2.1 q.2.2.2.2.2.2.2.2.1 q.2.2.2.2.2.2.2.2.2.1 q.2.2.2.2.2.2.2.2.2.2.1 q.2.2.2.2.2.2.2.2.2.2.2.1 q.2.2.2.2.2.2.2.2.2.2.2.2.1 q.2.2.2.2.2.2.2.2.2.2.2.2.2.1 q.2.2.2.2.2.2.2.2.2.2.2.2.2.2.1 ∧ (¬ r.1 = 0 → x0_start < x0_end)) := by
  have hlt : x0_start < x0_end := hT.2.2.2 (by rw [(word1 hn ev hv (L := 4) rfl (by decide) (c0 := 99) rfl).1]; decide)
  refine Sf2.mapL (Sf2.andL (coin2 hn hs hT ev hv hA) (sX3_readCoin01 hn hs hT)) ?_
  rintro ⟨g0, g1, g2, g3, g4, g5, g6⟩ b ⟨h, h01⟩
  have h01 : g0 = 0 ∨ g0 = 1 := h01
  have ez : zb g0 = some g0 := if_pos h01
  refine ⟨_, (show (zb g0).bind _ = some _ by rw [ez]; rfl), h, fun _ => hlt⟩
theorem stat2 {n : Nat} {x0_bytes : (Nat → Int32)} {x0_size : Int32} {x0_start : Int32} {x0_end : Int32} {x0_token : Int32} {x0_value : Int32} {x1_lineCount : Int32} {x1_goodsCount : Int32} {x1_workCount : Int32} {x1_years : Int32} {x1_lines : (Nat → Int32)} {x1_goods : (Nat → Int32)} {x1_works : (Nat → Int32)} {x1_change : (Nat → Int32)} {x1_coin : (Nat → Int32)} {x1_knownFree : (Nat → Int32)} {x1_isKnown : Int32} {m_shelf : (Nat → Int32)} {m_rowSort : (Nat → Int32)} {m_rowSize : (Nat → Int32)} {m_rows : (Nat → Nat → Int64)} {m_moved : (Nat → Int64)} {m_shown : (Nat → Int32)} {m_refused : (Nat → Int32)} {m_lines : Int32} {m_line : (Nat → Nat → Int32)} {m_changes : (Nat → Int32)} {m_coins : (Nat → Int32)} {m_goods : Int32} {m_good : (Nat → Nat → Int32)} {m_works : Int32} {m_work : (Nat → Nat → Int32)} {m_years : Int32} {m_gone : Int32} {m_spent : Int32} {m_fault : Int32} {m_numbers : (Nat → Int32)} {m_statements : Int32} {m_left : (Nat → Int32)} {m_far : (Nat → Int32)} {m_tons : Int32} {m_way : (Nat → Int32)} {m_steps : Int32} {m_met : Int64} {m_queue : (Nat → Int32)} {m_totals : (Nat → Int32)} (hn : 1000000000000 ≤ n) (hs : 0 ≤ x0_size ∧ x0_size ≤ 250) (hT : TkOk x0_size x0_start x0_end x0_token x0_value) (hlc : 0 ≤ x1_lineCount ∧ x1_lineCount ≤ 20) (hgc : 0 ≤ x1_goodsCount ∧ x1_goodsCount ≤ 8) (hwc : 0 ≤ x1_workCount ∧ x1_workCount ≤ 7) (hA : (LaD x1_lineCount x1_goodsCount x1_workCount x1_years x1_lines x1_goods x1_works x1_change x1_coin m_lines m_line m_changes m_coins m_goods m_good m_works m_work m_years)) : Sf2 (fX3_readStatement n (x0_bytes, x0_size, x0_start, x0_end, x0_token, x0_value) (x1_lineCount, x1_goodsCount, x1_workCount, x1_years, x1_lines, x1_goods, x1_works, x1_change, x1_coin, x1_knownFree, x1_isKnown)) (fX7_statement n (m_shelf, m_rowSort, m_rowSize, m_rows, m_moved, m_shown, x0_bytes, x0_size, m_refused, m_lines, m_line, m_changes, m_coins, m_goods, m_good, m_works, m_work, m_years, m_gone, m_spent, x0_end, x0_token, x0_start, (figs x0_token x0_value), m_fault, m_numbers, m_statements, m_left, m_far, m_tons, m_way, m_steps, m_met, m_queue, m_totals)) (fun r q => StR x0_size x0_end r.1 r.2.1 r.2.2.1 r.2.2.2.1 r.2.2.2.2.1 r.2.2.2.2.2.1 r.2.2.2.2.2.2.1 r.2.2.2.2.2.2.2.1 r.2.2.2.2.2.2.2.2.1 r.2.2.2.2.2.2.2.2.2.1 r.2.2.2.2.2.2.2.2.2.2.1 r.2.2.2.2.2.2.2.2.2.2.2.1 r.2.2.2.2.2.2.2.2.2.2.2.2.1 r.2.2.2.2.2.2.2.2.2.2.2.2.2.1 q.1 q.2.1 q.2.2.1 q.2.2.2.1 q.2.2.2.2.1 q.2.2.2.2.2.1 q.2.2.2.2.2.2.1 q.2.2.2.2.2.2.2.1 q.2.2.2.2.2.2.2.2.1 q.2.2.2.2.2.2.2.2.2.1 q.2.2.2.2.2.2.2.2.2.2.1 q.2.2.2.2.2.2.2.2.2.2.2.1 q.2.2.2.2.2.2.2.2.2.2.2.2.1 q.2.2.2.2.2.2.2.2.2.2.2.2.2.1 q.2.2.2.2.2.2.2.2.2.2.2.2.2.2.1 ∧ (¬ r.1 = 0 → x0_start < x0_end)) := by
  have z1 : x1_lineCount = m_lines := hA.1.1
  have z2 : x1_goodsCount = m_goods := hA.1.2.1
  have z3 : x1_workCount = m_works := hA.1.2.2.1
  have fail : ∀ {y : Option (Int32 × (Int32 × (Nat → Nat → Int32) × (Nat → Int32) × (Nat → Int32) × Int32 × (Nat → Nat → Int32) × Int32 × (Nat → Nat → Int32) × Int32 × Int32 × Int32 × Int32 × Int64 × Int32 × (Nat → Int32)))}, (∃ b, y = some b ∧ b.1 = 0 ∧ b.2.2.2.2.2.2.2.2.2.2.2.2.2.2.1 = x0_start) → Sf2 (some ((0 : Int32), x0_start, x0_end, x0_token, x0_value, (x1_lineCount, x1_goodsCount, x1_workCount, x1_years, x1_lines, x1_goods, x1_works, x1_change, x1_coin, x1_isKnown))) y (fun r q => StR x0_size x0_end r.1 r.2.1 r.2.2.1 r.2.2.2.1 r.2.2.2.2.1 r.2.2.2.2.2.1 r.2.2.2.2.2.2.1 r.2.2.2.2.2.2.2.1 r.2.2.2.2.2.2.2.2.1 r.2.2.2.2.2.2.2.2.2.1 r.2.2.2.2.2.2.2.2.2.2.1 r.2.2.2.2.2.2.2.2.2.2.2.1 r.2.2.2.2.2.2.2.2.2.2.2.2.1 r.2.2.2.2.2.2.2.2.2.2.2.2.2.1 q.1 q.2.1 q.2.2.1 q.2.2.2.1 q.2.2.2.2.1 q.2.2.2.2.2.1 q.2.2.2.2.2.2.1 q.2.2.2.2.2.2.2.1 q.2.2.2.2.2.2.2.2.1 q.2.2.2.2.2.2.2.2.2.1 q.2.2.2.2.2.2.2.2.2.2.1 q.2.2.2.2.2.2.2.2.2.2.2.1 q.2.2.2.2.2.2.2.2.2.2.2.2.1 q.2.2.2.2.2.2.2.2.2.2.2.2.2.1 q.2.2.2.2.2.2.2.2.2.2.2.2.2.2.1 ∧ (¬ r.1 = 0 → x0_start < x0_end)) := by
    rintro y ⟨b, eb, b1, b2⟩
    exact ⟨_, b, rfl, eb, Or.inl ⟨rfl, b1, b2⟩, fun h => absurd rfl h⟩
  obtain ⟨v1, ev0⟩ := isWordS (n := n) (p := 0) (x0_bytes := x0_bytes) hn hs hT (by decide)
  obtain ⟨v3, ev5⟩ := isWordS (n := n) (p := 5) (x0_bytes := x0_bytes) hn hs hT (by decide)
  obtain ⟨v5, ev6⟩ := isWordS (n := n) (p := 6) (x0_bytes := x0_bytes) hn hs hT (by decide)
  obtain ⟨v7, ev7⟩ := isWordS (n := n) (p := 7) (x0_bytes := x0_bytes) hn hs hT (by decide)
  obtain ⟨v9, ev8⟩ := isWordS (n := n) (p := 8) (x0_bytes := x0_bytes) hn hs hT (by decide)
  obtain ⟨v11, ev9⟩ := isWordS (n := n) (p := 9) (x0_bytes := x0_bytes) hn hs hT (by decide)
  rw [st_0, isWordE (p := 0) (p' := 10) rfl rfl]
  unfold fX3_readStatement
  dsimp only [u6, u11]
  rw [ev0]
  refine Sf2.ite (c := v1 = 0) (c' := v1 = 0) Iff.rfl (fun h0 => ?_) (fun h0 => ?_)
  rotate_left
  · refine Sf2.ite (c := 20 ≤ x1_lineCount) (c' := 20 ≤ m_lines) (by rw [z1]) (fun hf => ?_) (fun hf => stL hn hs hT ev0 h0 hlc hf hA)
    exact fail (w15 (wordNo (p := 0) (p' := 5) hn hs hT ev0 h0 (L := 4) rfl (by decide) (c0 := 108) rfl (by decide) (L' := 5) rfl (by decide) (c0' := 103) rfl (by decide)) (w16 (wordNo (p := 0) (p' := 6) hn hs hT ev0 h0 (L := 4) rfl (by decide) (c0 := 108) rfl (by decide) (L' := 4) rfl (by decide) (c0' := 119) rfl (by decide)) (w17 (wordNo (p := 0) (p' := 7) hn hs hT ev0 h0 (L := 4) rfl (by decide) (c0 := 108) rfl (by decide) (L' := 6) rfl (by decide) (c0' := 99) rfl (by decide)) (wordNo (p := 0) (p' := 8) hn hs hT ev0 h0 (L := 4) rfl (by decide) (c0 := 108) rfl (by decide) (L' := 4) rfl (by decide) (c0' := 99) rfl (by decide)) (wordNo (p := 0) (p' := 9) hn hs hT ev0 h0 (L := 4) rfl (by decide) (c0 := 108) rfl (by decide) (L' := 5) rfl (by decide) (c0' := 121) rfl (by decide)))))
  rw [st_1, isWordE (p := 5) (p' := 15) rfl rfl, ev5]
  refine Sf2.ite (c := v3 = 0) (c' := v3 = 0) Iff.rfl (fun h5 => ?_) (fun h5 => ?_)
  rotate_left
  · refine Sf2.ite (c := 8 ≤ x1_goodsCount) (c' := 8 ≤ m_goods) (by rw [z2]) (fun hf => ?_) (fun hf => stG hn hs hT ev5 h5 hgc hf hA)
    exact fail (w16 (wordNo (p := 5) (p' := 6) hn hs hT ev5 h5 (L := 5) rfl (by decide) (c0 := 103) rfl (by decide) (L' := 4) rfl (by decide) (c0' := 119) rfl (by decide)) (w17 (wordNo (p := 5) (p' := 7) hn hs hT ev5 h5 (L := 5) rfl (by decide) (c0 := 103) rfl (by decide) (L' := 6) rfl (by decide) (c0' := 99) rfl (by decide)) (wordNo (p := 5) (p' := 8) hn hs hT ev5 h5 (L := 5) rfl (by decide) (c0 := 103) rfl (by decide) (L' := 4) rfl (by decide) (c0' := 99) rfl (by decide)) (wordNo (p := 5) (p' := 9) hn hs hT ev5 h5 (L := 5) rfl (by decide) (c0 := 103) rfl (by decide) (L' := 5) rfl (by decide) (c0' := 121) rfl (by decide))))
  rw [st_2, isWordE (p := 6) (p' := 16) rfl rfl, ev6]
  refine Sf2.ite (c := v5 = 0) (c' := v5 = 0) Iff.rfl (fun h6 => ?_) (fun h6 => ?_)
  rotate_left
  · refine Sf2.ite (c := 7 ≤ x1_workCount) (c' := 7 ≤ m_works) (by rw [z3]) (fun hf => ?_) (fun hf => stW hn hs hT ev6 h6 hlc hwc hf hA)
    exact fail (w17 (wordNo (p := 6) (p' := 7) hn hs hT ev6 h6 (L := 4) rfl (by decide) (c0 := 119) rfl (by decide) (L' := 6) rfl (by decide) (c0' := 99) rfl (by decide)) (wordNo (p := 6) (p' := 8) hn hs hT ev6 h6 (L := 4) rfl (by decide) (c0 := 119) rfl (by decide) (L' := 4) rfl (by decide) (c0' := 99) rfl (by decide)) (wordNo (p := 6) (p' := 9) hn hs hT ev6 h6 (L := 4) rfl (by decide) (c0 := 119) rfl (by decide) (L' := 5) rfl (by decide) (c0' := 121) rfl (by decide)))
  rw [st_3, isWordE (p := 7) (p' := 17) rfl rfl, ev7]
  refine Sf2.ite (c := v7 = 0) (c' := v7 = 0) Iff.rfl (fun h7 => ?_) (fun h7 => stC hn hs hT ev7 h7 hA)
  rw [isWordE (p := 8) (p' := 18) rfl rfl, ev8]
  refine Sf2.ite (c := v9 = 0) (c' := v9 = 0) Iff.rfl (fun h8 => ?_) (fun h8 => stO hn hs hT ev8 h8 hA)
  rw [ev9]
  refine Sf2.iteL (c := v11 = 0) (fun h9 => ?_) (fun h9 => stY hn hs hT ev9 h9 hA)
  rw [h9] at ev9
  exact fail (w19 ev9)

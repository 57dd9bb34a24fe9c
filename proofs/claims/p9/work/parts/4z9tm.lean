/-! the other statements -/
theorem goods2 {n : Nat} {x0_bytes : (Nat → Int32)} {x0_size : Int32} {x0_start : Int32} {x0_end : Int32} {x0_token : Int32} {x0_value : Int32} {x1_lineCount : Int32} {x1_goodsCount : Int32} {x1_workCount : Int32} {x1_years : Int32} {x1_lines : (Nat → Int32)} {x1_goods : (Nat → Int32)} {x1_works : (Nat → Int32)} {x1_change : (Nat → Int32)} {x1_coin : (Nat → Int32)} {x1_knownFree : (Nat → Int32)} {x1_isKnown : Int32} {m_shelf : (Nat → Int32)} {m_rowSort : (Nat → Int32)} {m_rowSize : (Nat → Int32)} {m_rows : (Nat → Nat → Int64)} {m_moved : (Nat → Int64)} {m_shown : (Nat → Int32)} {m_refused : (Nat → Int32)} {m_lines : Int32} {m_line : (Nat → Nat → Int32)} {m_changes : (Nat → Int32)} {m_coins : (Nat → Int32)} {m_goods : Int32} {m_good : (Nat → Nat → Int32)} {m_works : Int32} {m_work : (Nat → Nat → Int32)} {m_years : Int32} {m_gone : Int32} {m_spent : Int32} {m_fault : Int32} {m_numbers : (Nat → Int32)} {m_statements : Int32} {m_left : (Nat → Int32)} {m_far : (Nat → Int32)} {m_tons : Int32} {m_way : (Nat → Int32)} {m_steps : Int32} {m_met : Int64} {m_queue : (Nat → Int32)} {m_totals : (Nat → Int32)} (hn : 1000000000000 ≤ n) (hs : 0 ≤ x0_size ∧ x0_size ≤ 250) (hT : TkOk x0_size x0_start x0_end x0_token x0_value) (hgc : 0 ≤ x1_goodsCount ∧ x1_goodsCount ≤ 8) (hlt : ¬ 8 ≤ x1_goodsCount) (hA : (LaD x1_lineCount x1_goodsCount x1_workCount x1_years x1_lines x1_goods x1_works x1_change x1_coin m_lines m_line m_changes m_coins m_goods m_good m_works m_work m_years)) : Sf2 (fX3_readGoods n (x0_bytes, x0_size, x0_start, x0_end, x0_token, x0_value) (x1_lineCount, x1_goodsCount, x1_workCount, x1_years, x1_lines, x1_goods, x1_works, x1_change, x1_coin, x1_knownFree, x1_isKnown)) (sGoods n m_shelf m_rowSort m_rowSize m_rows m_moved m_shown x0_bytes x0_size m_refused m_lines m_line m_changes m_coins m_goods m_good m_works m_work m_years m_gone m_spent x0_end x0_token x0_start (figs x0_token x0_value) m_fault m_numbers m_statements m_left m_far m_tons m_way m_steps m_met m_queue m_totals) (fun r q => StR x0_size x0_end r.1 r.2.1 r.2.2.1 r.2.2.2.1 r.2.2.2.2.1 x1_lineCount r.2.2.2.2.2.1 x1_workCount x1_years x1_lines r.2.2.2.2.2.2.1 x1_works x1_change x1_coin q.1 q.2.1 q.2.2.1 q.2.2.2.1 q.2.2.2.2.1 q.2.2.2.2.2.1 q.2.2.2.2.2.2.1 q.2.2.2.2.2.2.2.1 q.2.2.2.2.2.2.2.2.1 q.2.2.2.2.2.2.2.2.2.1 q.2.2.2.2.2.2.2.2.2.2.1 q.2.2.2.2.2.2.2.2.2.2.2.1 q.2.2.2.2.2.2.2.2.2.2.2.2.1 q.2.2.2.2.2.2.2.2.2.2.2.2.2.1 q.2.2.2.2.2.2.2.2.2.2.2.2.2.2.1) := by
  obtain ⟨⟨z1, z2, z3, z4⟩, z5, z6, z7, z8, z9, z10⟩ := hA
  have hL : 0 ≤ m_goods ∧ m_goods < 8 := by rw [← z2]; exact ⟨hgc.1, Int32.not_le.mp hlt⟩
  unfold fX3_readGoods sGoods
  dsimp only [u6, u11]
  refine Sf2.r (P := fun q => q = m_goods.toNatClampNeg) (Sf.ckP (M := 8) rfl hL) (fun q73 e73 => ?_)
  subst e73
  refine two2 hn hs hT (M := 3) rfl (by decide) ?_
  intro v6 s e t v y ok q row1 h
  unfold fX3_readGoods_j28
  rcases h with ⟨hy, ho, hq⟩ | ⟨hy, hv6, hyr, hne, ho, hq, hk, hle, hrow⟩
  · subst hq ho
    rw [if_pos hy]
    unfold fX3_readGoods_j45
    rw [if_pos rfl]
    exact ⟨_, _, rfl, rfl, Or.inl ⟨rfl, rfl, rfl⟩⟩
  subst hq ho
  rw [if_neg hy]
  try dsimp only [u2, u3, u5, u6]
  rw [if_neg (show ¬ (1 : Int32) = 0 by decide)]
  refine Sf2.r (P := fun q => q = m_goods.toNatClampNeg) (Sf.ckP (M := 8) rfl hL) (fun q83 e83 => ?_)
  subst e83
  refine Sf2.bind (num2 hn hs hk (by decide) (by decide) (M := 3) rfl (by decide)) ?_
  rintro ⟨w, s1, e1, t1, v1⟩ ⟨ok, q, row2⟩ ⟨h, hr2⟩
  have h := NmR.rd (e0 := e) (by decide) (Int32.le_refl _) h
  unfold fX3_readGoods_j45
  rcases h with ⟨hw, ho, hq⟩ | ⟨hw, ho, hq, hk1, hle1⟩
  · have hw : w = -1 := hw
    have ho : ok = 0 := ho
    have hq : q = (e1, t1, s1, figs t1 v1, s1) := hq
    subst hq ho
    try dsimp only [u2, u3, u5, u6]
    rw [if_pos hw]
    exact ⟨_, _, rfl, rfl, Or.inl ⟨rfl, rfl, rfl⟩⟩
  have hw : ¬ w = -1 := hw
  have ho : ok = 1 := ho
  have hq : q = (e1, t1, s1, figs t1 v1, m_fault) := hq
  have hk1 : TkOk x0_size s1 e1 t1 v1 := hk1
  have hle1 : e ≤ s1 := hle1
  subst hq ho
  have hr2 : row2 = va_up (va_up m_good m_goods.toNatClampNeg row1 m_goods.toNatClampNeg) 2 w := hr2.resolve_left (by show ¬ (1 : Int32) = 0; decide)
  rw [va_eq] at hr2
  try dsimp only [u2, u3, u5, u6]
  rw [if_neg hw, if_neg (show ¬ (1 : Int32) = 0 by decide)]
  refine Sf2.l (addGoodsS ⟨hgc.1, Int32.not_le.mp hlt⟩) ?_
  rintro ⟨g22, g23, g24⟩ ⟨a1, _, C⟩
  have a1 : g22 = x1_goodsCount + 1 := a1
  have C : AddR 3 (ro 3 x1_goods) (ro 3 g23) x1_goodsCount.toNatClampNeg [v6, y, w] := C
  have D : AddR 3 m_good (va_up (va_up m_good m_goods.toNatClampNeg row1) m_goods.toNatClampNeg row2) x1_goodsCount.toNatClampNeg [v6, y, w] := by
    rw [z2]
    refine ⟨fun l hl c hc => by rw [va_ne _ _ hl, va_ne _ _ hl], fun c hc => ?_⟩
    rw [va_eq, hr2, hrow]
    rcases (show c = 0 ∨ c = 1 ∨ c = 2 by omega) with rfl | rfl | rfl <;> rfl
  refine Sf2.ok (Or.inr ⟨by show ¬ (1 : Int32) = 0; decide, by show ¬ (1 : Int32) = 0; decide, rfl, hk1, Int32.le_trans hle (Int32.le_trans hk.1.2 hle1), ?_⟩)
  show LaD x1_lineCount g22 x1_workCount x1_years x1_lines g23 x1_works x1_change x1_coin m_lines m_line m_changes m_coins (m_goods + 1) _ m_works m_work m_years
  rw [a1]
  exact ⟨⟨z1, by rw [z2], z3, z4⟩, z5, AddR.alike hgc.1 (fun h => absurd (Int32.le_trans h hgc.2) (by decide)) C D z6, z7, z8, z9, z10⟩
theorem change2 {n : Nat} {x0_bytes : (Nat → Int32)} {x0_size : Int32} {x0_start : Int32} {x0_end : Int32} {x0_token : Int32} {x0_value : Int32} {x1_lineCount : Int32} {x1_goodsCount : Int32} {x1_workCount : Int32} {x1_years : Int32} {x1_lines : (Nat → Int32)} {x1_goods : (Nat → Int32)} {x1_works : (Nat → Int32)} {x1_change : (Nat → Int32)} {x1_coin : (Nat → Int32)} {x1_knownFree : (Nat → Int32)} {x1_isKnown : Int32} {m_shelf : (Nat → Int32)} {m_rowSort : (Nat → Int32)} {m_rowSize : (Nat → Int32)} {m_rows : (Nat → Nat → Int64)} {m_moved : (Nat → Int64)} {m_shown : (Nat → Int32)} {m_refused : (Nat → Int32)} {m_lines : Int32} {m_line : (Nat → Nat → Int32)} {m_changes : (Nat → Int32)} {m_coins : (Nat → Int32)} {m_goods : Int32} {m_good : (Nat → Nat → Int32)} {m_works : Int32} {m_work : (Nat → Nat → Int32)} {m_years : Int32} {m_gone : Int32} {m_spent : Int32} {m_fault : Int32} {m_numbers : (Nat → Int32)} {m_statements : Int32} {m_left : (Nat → Int32)} {m_far : (Nat → Int32)} {m_tons : Int32} {m_way : (Nat → Int32)} {m_steps : Int32} {m_met : Int64} {m_queue : (Nat → Int32)} {m_totals : (Nat → Int32)} {v0 : Int32} (hn : 1000000000000 ≤ n) (hs : 0 ≤ x0_size ∧ x0_size ≤ 250) (hT : TkOk x0_size x0_start x0_end x0_token x0_value) (ev : fX3_isWord n (x0_bytes, x0_size, x0_start, x0_end, x0_token, x0_value) 7 = some v0) (hv : ¬ v0 = 0) (hA : (LaD x1_lineCount x1_goodsCount x1_workCount x1_years x1_lines x1_goods x1_works x1_change x1_coin m_lines m_line m_changes m_coins m_goods m_good m_works m_work m_years)) : Sf2 (fX3_readChange n (x0_bytes, x0_size, x0_start, x0_end, x0_token, x0_value) (x1_lineCount, x1_goodsCount, x1_workCount, x1_years, x1_lines, x1_goods, x1_works, x1_change, x1_coin, x1_knownFree, x1_isKnown)) (sChange n m_shelf m_rowSort m_rowSize m_rows m_moved m_shown x0_bytes x0_size m_refused m_lines m_line m_changes m_coins m_goods m_good m_works m_work m_years m_gone m_spent x0_end x0_token x0_start (figs x0_token x0_value) m_fault m_numbers m_statements m_left m_far m_tons m_way m_steps m_met m_queue m_totals) (fun r q => StR x0_size x0_end r.1 r.2.1 r.2.2.1 r.2.2.2.1 r.2.2.2.2.1 x1_lineCount x1_goodsCount x1_workCount x1_years x1_lines x1_goods x1_works r.2.2.2.2.2.1 x1_coin q.1 q.2.1 q.2.2.1 q.2.2.2.1 q.2.2.2.2.1 q.2.2.2.2.2.1 q.2.2.2.2.2.2.1 q.2.2.2.2.2.2.2.1 q.2.2.2.2.2.2.2.2.1 q.2.2.2.2.2.2.2.2.2.1 q.2.2.2.2.2.2.2.2.2.2.1 q.2.2.2.2.2.2.2.2.2.2.2.1 q.2.2.2.2.2.2.2.2.2.2.2.2.1 q.2.2.2.2.2.2.2.2.2.2.2.2.2.1 q.2.2.2.2.2.2.2.2.2.2.2.2.2.2.1) := by
  obtain ⟨⟨z1, z2, z3, z4⟩, z5, z6, z7, z8, z9, z10⟩ := hA
  unfold fX3_readChange sChange
  dsimp only [u6, u11]
  refine toldNin (p := 7) (p' := 17) hn hs hT (by decide) (by decide) (by decide) rfl rfl ev hv ?_
  intro a s e t v ok q1 q2 q3 q4 q5 row1 h hr
  rcases h with ⟨ha, ho, hq⟩ | ⟨ha, ho, hq, hk, hle⟩
  · have ha : a = -1 := ha
    cases hq
    subst ho
    rw [if_pos ha]
    unfold fX3_readChange_j28
    rw [if_pos rfl]
    exact ⟨_, _, rfl, rfl, Or.inl ⟨rfl, rfl, rfl⟩⟩
  have ha : ¬ a = -1 := ha
  have hk : TkOk x0_size s e t v := hk
  have hle : x0_end ≤ s := hle
  cases hq
  subst ho
  obtain ⟨har, hr⟩ : (0 ≤ a ∧ a ≤ 11) ∧ row1 = va_up m_numbers 0 a := hr.resolve_left (by decide)
  rw [if_neg ha]
  try dsimp only [u2, u3, u5, u6]
  rw [if_neg (show ¬ (1 : Int32) = 0 by decide)]
  have er : rd 2 row1 0 = some a := by rw [hr]; rfl
  rw [er]
  show Sf2 _ (Option.bind (fX7_numberC n _ a 0 99) _) _
  refine Sf2.bind (numC2 hn hs hk (by decide) (by decide) ⟨har.1, Int32.lt_of_le_of_lt har.2 (by decide)⟩) ?_
  rintro ⟨w, s1, e1, t1, v1⟩ ⟨ok, arr, q⟩ ⟨h, hr2⟩
  have h : NmR _ _ _ _ _ _ _ (w, s1, e1, t1, v1) ok q _ := h
  have h := NmR.rd (e0 := e) (by decide) (Int32.le_refl _) h
  unfold fX3_readChange_j28
  rcases h with ⟨hw, ho, hq⟩ | ⟨hw, ho, hq, hk1, hle1⟩
  · have hw : w = -1 := hw
    have ho : ok = 0 := ho
    have hq : q = (e1, t1, s1, figs t1 v1, s1) := hq
    subst hq ho
    try dsimp only [u2, u3, u5, u6]
    rw [if_pos hw]
    exact ⟨_, _, rfl, rfl, Or.inl ⟨rfl, rfl, rfl⟩⟩
  have hw : ¬ w = -1 := hw
  have ho : ok = 1 := ho
  have hq : q = (e1, t1, s1, figs t1 v1, m_fault) := hq
  have hk1 : TkOk x0_size s1 e1 t1 v1 := hk1
  have hle1 : e ≤ s1 := hle1
  subst hq ho
  have hr2 : arr = va_up m_changes a.toNatClampNeg w := hr2.resolve_left (by show ¬ (1 : Int32) = 0; decide)
  try dsimp only [u2, u3, u5, u6]
  rw [if_neg hw, if_neg (show ¬ (1 : Int32) = 0 by decide)]
  have ep : fX1_putChange (x1_lineCount, x1_goodsCount, x1_workCount, x1_years, x1_lines, x1_goods, x1_works, x1_change, x1_coin, x1_knownFree, x1_isKnown) a w = some (va_up x1_change a.toNatClampNeg w, 0) := by
    unfold fX1_putChange
    dsimp only [u11]
    rw [if_neg (Int32.not_lt.mpr har.1), if_neg (Int32.not_le.mpr (Int32.lt_of_le_of_lt har.2 (by decide)))]
    obtain ⟨f, ef, pf⟩ := Sf.wrP (N := 12) (f := x1_change) (i := a) (x := w) (M := 12) rfl ⟨har.1, Int32.lt_of_le_of_lt har.2 (by decide)⟩
    rw [ef, pf]
    rfl
  rw [ep]
  refine Sf2.ok (Or.inr ⟨by show ¬ (1 : Int32) = 0; decide, by show ¬ (1 : Int32) = 0; decide, rfl, hk1, Int32.le_trans hle (Int32.le_trans hk.1.2 hle1), ?_⟩)
  show LaD x1_lineCount x1_goodsCount x1_workCount x1_years x1_lines x1_goods x1_works (va_up x1_change a.toNatClampNeg w) x1_coin m_lines m_line arr m_coins m_goods m_good m_works m_work m_years
  rw [hr2]
  exact ⟨⟨z1, z2, z3, z4⟩, z5, z6, z7, up_alike z8, z9, z10⟩
theorem coin2 {n : Nat} {x0_bytes : (Nat → Int32)} {x0_size : Int32} {x0_start : Int32} {x0_end : Int32} {x0_token : Int32} {x0_value : Int32} {x1_lineCount : Int32} {x1_goodsCount : Int32} {x1_workCount : Int32} {x1_years : Int32} {x1_lines : (Nat → Int32)} {x1_goods : (Nat → Int32)} {x1_works : (Nat → Int32)} {x1_change : (Nat → Int32)} {x1_coin : (Nat → Int32)} {x1_knownFree : (Nat → Int32)} {x1_isKnown : Int32} {m_shelf : (Nat → Int32)} {m_rowSort : (Nat → Int32)} {m_rowSize : (Nat → Int32)} {m_rows : (Nat → Nat → Int64)} {m_moved : (Nat → Int64)} {m_shown : (Nat → Int32)} {m_refused : (Nat → Int32)} {m_lines : Int32} {m_line : (Nat → Nat → Int32)} {m_changes : (Nat → Int32)} {m_coins : (Nat → Int32)} {m_goods : Int32} {m_good : (Nat → Nat → Int32)} {m_works : Int32} {m_work : (Nat → Nat → Int32)} {m_years : Int32} {m_gone : Int32} {m_spent : Int32} {m_fault : Int32} {m_numbers : (Nat → Int32)} {m_statements : Int32} {m_left : (Nat → Int32)} {m_far : (Nat → Int32)} {m_tons : Int32} {m_way : (Nat → Int32)} {m_steps : Int32} {m_met : Int64} {m_queue : (Nat → Int32)} {m_totals : (Nat → Int32)} {v0 : Int32} (hn : 1000000000000 ≤ n) (hs : 0 ≤ x0_size ∧ x0_size ≤ 250) (hT : TkOk x0_size x0_start x0_end x0_token x0_value) (ev : fX3_isWord n (x0_bytes, x0_size, x0_start, x0_end, x0_token, x0_value) 8 = some v0) (hv : ¬ v0 = 0) (hA : (LaD x1_lineCount x1_goodsCount x1_workCount x1_years x1_lines x1_goods x1_works x1_change x1_coin m_lines m_line m_changes m_coins m_goods m_good m_works m_work m_years)) : Sf2 (fX3_readCoin n (x0_bytes, x0_size, x0_start, x0_end, x0_token, x0_value) (x1_lineCount, x1_goodsCount, x1_workCount, x1_years, x1_lines, x1_goods, x1_works, x1_change, x1_coin, x1_knownFree, x1_isKnown)) (sCoin n m_shelf m_rowSort m_rowSize m_rows m_moved m_shown x0_bytes x0_size m_refused m_lines m_line m_changes m_coins m_goods m_good m_works m_work m_years m_gone m_spent x0_end x0_token x0_start (figs x0_token x0_value) m_fault m_numbers m_statements m_left m_far m_tons m_way m_steps m_met m_queue m_totals) (fun r q => StR x0_size x0_end r.1 r.2.1 r.2.2.1 r.2.2.2.1 r.2.2.2.2.1 x1_lineCount x1_goodsCount x1_workCount x1_years x1_lines x1_goods x1_works x1_change r.2.2.2.2.2.1 q.1 q.2.1 q.2.2.1 q.2.2.2.1 q.2.2.2.2.1 q.2.2.2.2.2.1 q.2.2.2.2.2.2.1 q.2.2.2.2.2.2.2.1 q.2.2.2.2.2.2.2.2.1 q.2.2.2.2.2.2.2.2.2.1 q.2.2.2.2.2.2.2.2.2.2.1 q.2.2.2.2.2.2.2.2.2.2.2.1 q.2.2.2.2.2.2.2.2.2.2.2.2.1 q.2.2.2.2.2.2.2.2.2.2.2.2.2.1 q.2.2.2.2.2.2.2.2.2.2.2.2.2.2.1) := by
  obtain ⟨⟨z1, z2, z3, z4⟩, z5, z6, z7, z8, z9, z10⟩ := hA
  unfold fX3_readCoin sCoin
  dsimp only [u6, u11]
  refine toldNin (p := 8) (p' := 18) hn hs hT (by decide) (by decide) (by decide) rfl rfl ev hv ?_
  intro a s e t v ok q1 q2 q3 q4 q5 row1 h hr
  rcases h with ⟨ha, ho, hq⟩ | ⟨ha, ho, hq, hk, hle⟩
  · have ha : a = -1 := ha
    cases hq
    subst ho
    rw [if_pos ha]
    unfold fX3_readCoin_j27
    rw [if_pos rfl]
    exact ⟨_, _, rfl, rfl, Or.inl ⟨rfl, rfl, rfl⟩⟩
  have ha : ¬ a = -1 := ha
  have hk : TkOk x0_size s e t v := hk
  have hle : x0_end ≤ s := hle
  cases hq
  subst ho
  obtain ⟨har, hr⟩ : (0 ≤ a ∧ a ≤ 2) ∧ row1 = va_up m_numbers 0 a := hr.resolve_left (by decide)
  rw [if_neg ha]
  try dsimp only [u2, u3, u5, u6]
  rw [if_neg (show ¬ (1 : Int32) = 0 by decide)]
  have er : rd 2 row1 0 = some a := by rw [hr]; rfl
  rw [er]
  show Sf2 _ (Option.bind (fX7_numberO n _ a 0 9) _) _
  refine Sf2.bind (numO2 hn hs hk (by decide) (by decide) ⟨har.1, Int32.lt_of_le_of_lt har.2 (by decide)⟩) ?_
  rintro ⟨w, s1, e1, t1, v1⟩ ⟨ok, arr, q⟩ ⟨h, hr2⟩
  have h : NmR _ _ _ _ _ _ _ (w, s1, e1, t1, v1) ok q _ := h
  have h := NmR.rd (e0 := e) (by decide) (Int32.le_refl _) h
  unfold fX3_readCoin_j27
  rcases h with ⟨hw, ho, hq⟩ | ⟨hw, ho, hq, hk1, hle1⟩
  · have hw : w = -1 := hw
    have ho : ok = 0 := ho
    have hq : q = (e1, t1, s1, figs t1 v1, s1) := hq
    subst hq ho
    try dsimp only [u2, u3, u5, u6]
    rw [if_pos hw]
    exact ⟨_, _, rfl, rfl, Or.inl ⟨rfl, rfl, rfl⟩⟩
  have hw : ¬ w = -1 := hw
  have ho : ok = 1 := ho
  have hq : q = (e1, t1, s1, figs t1 v1, m_fault) := hq
  have hk1 : TkOk x0_size s1 e1 t1 v1 := hk1
  have hle1 : e ≤ s1 := hle1
  subst hq ho
  have hr2 : arr = va_up m_coins a.toNatClampNeg w := hr2.resolve_left (by show ¬ (1 : Int32) = 0; decide)
  try dsimp only [u2, u3, u5, u6]
  rw [if_neg hw, if_neg (show ¬ (1 : Int32) = 0 by decide)]
  have ep : fX1_putCoin (x1_lineCount, x1_goodsCount, x1_workCount, x1_years, x1_lines, x1_goods, x1_works, x1_change, x1_coin, x1_knownFree, x1_isKnown) a w = some (va_up x1_coin a.toNatClampNeg w, 0) := by
    unfold fX1_putCoin
    dsimp only [u11]
    rw [if_neg (Int32.not_lt.mpr har.1), if_neg (Int32.not_le.mpr (Int32.lt_of_le_of_lt har.2 (by decide)))]
    obtain ⟨f, ef, pf⟩ := Sf.wrP (N := 3) (f := x1_coin) (i := a) (x := w) (M := 3) rfl ⟨har.1, Int32.lt_of_le_of_lt har.2 (by decide)⟩
    rw [ef, pf]
    rfl
  rw [ep]
  refine Sf2.ok (Or.inr ⟨by show ¬ (1 : Int32) = 0; decide, by show ¬ (1 : Int32) = 0; decide, rfl, hk1, Int32.le_trans hle (Int32.le_trans hk.1.2 hle1), ?_⟩)
  show LaD x1_lineCount x1_goodsCount x1_workCount x1_years x1_lines x1_goods x1_works x1_change (va_up x1_coin a.toNatClampNeg w) m_lines m_line m_changes arr m_goods m_good m_works m_work m_years
  rw [hr2]
  exact ⟨⟨z1, z2, z3, z4⟩, z5, z6, z7, z8, up_alike z9, z10⟩
theorem years2 {n : Nat} {x0_bytes : (Nat → Int32)} {x0_size : Int32} {x0_start : Int32} {x0_end : Int32} {x0_token : Int32} {x0_value : Int32} {x1_lineCount : Int32} {x1_goodsCount : Int32} {x1_workCount : Int32} {x1_years : Int32} {x1_lines : (Nat → Int32)} {x1_goods : (Nat → Int32)} {x1_works : (Nat → Int32)} {x1_change : (Nat → Int32)} {x1_coin : (Nat → Int32)} {x1_knownFree : (Nat → Int32)} {x1_isKnown : Int32} {m_shelf : (Nat → Int32)} {m_rowSort : (Nat → Int32)} {m_rowSize : (Nat → Int32)} {m_rows : (Nat → Nat → Int64)} {m_moved : (Nat → Int64)} {m_shown : (Nat → Int32)} {m_refused : (Nat → Int32)} {m_lines : Int32} {m_line : (Nat → Nat → Int32)} {m_changes : (Nat → Int32)} {m_coins : (Nat → Int32)} {m_goods : Int32} {m_good : (Nat → Nat → Int32)} {m_works : Int32} {m_work : (Nat → Nat → Int32)} {m_years : Int32} {m_gone : Int32} {m_spent : Int32} {m_fault : Int32} {m_numbers : (Nat → Int32)} {m_statements : Int32} {m_left : (Nat → Int32)} {m_far : (Nat → Int32)} {m_tons : Int32} {m_way : (Nat → Int32)} {m_steps : Int32} {m_met : Int64} {m_queue : (Nat → Int32)} {m_totals : (Nat → Int32)} {v0 : Int32} (hn : 1000000000000 ≤ n) (hs : 0 ≤ x0_size ∧ x0_size ≤ 250) (hT : TkOk x0_size x0_start x0_end x0_token x0_value) (ev : fX3_isWord n (x0_bytes, x0_size, x0_start, x0_end, x0_token, x0_value) 9 = some v0) (hv : ¬ v0 = 0) (hA : (LaD x1_lineCount x1_goodsCount x1_workCount x1_years x1_lines x1_goods x1_works x1_change x1_coin m_lines m_line m_changes m_coins m_goods m_good m_works m_work m_years)) : Sf2 (fX3_readYears n (x0_bytes, x0_size, x0_start, x0_end, x0_token, x0_value) (x1_lineCount, x1_goodsCount, x1_workCount, x1_years, x1_lines, x1_goods, x1_works, x1_change, x1_coin, x1_knownFree, x1_isKnown)) (sYears n m_shelf m_rowSort m_rowSize m_rows m_moved m_shown x0_bytes x0_size m_refused m_lines m_line m_changes m_coins m_goods m_good m_works m_work m_years m_gone m_spent x0_end x0_token x0_start (figs x0_token x0_value) m_fault m_numbers m_statements m_left m_far m_tons m_way m_steps m_met m_queue m_totals) (fun r q => StR x0_size x0_end r.1 r.2.1 r.2.2.1 r.2.2.2.1 r.2.2.2.2.1 x1_lineCount x1_goodsCount x1_workCount r.2.2.2.2.2 x1_lines x1_goods x1_works x1_change x1_coin q.1 q.2.1 q.2.2.1 q.2.2.2.1 q.2.2.2.2.1 q.2.2.2.2.2.1 q.2.2.2.2.2.2.1 q.2.2.2.2.2.2.2.1 q.2.2.2.2.2.2.2.2.1 q.2.2.2.2.2.2.2.2.2.1 q.2.2.2.2.2.2.2.2.2.2.1 q.2.2.2.2.2.2.2.2.2.2.2.1 q.2.2.2.2.2.2.2.2.2.2.2.2.1 q.2.2.2.2.2.2.2.2.2.2.2.2.2.1 q.2.2.2.2.2.2.2.2.2.2.2.2.2.2.1) := by
  obtain ⟨⟨z1, z2, z3, z4⟩, z5, z6, z7, z8, z9, z10⟩ := hA
  unfold fX3_readYears sYears
  dsimp only [u6, u11]
  refine toldNin (p := 9) (p' := 19) hn hs hT (by decide) (by decide) (by decide) rfl rfl ev hv ?_
  intro a s e t v ok q1 q2 q3 q4 q5 row1 h hr
  rcases h with ⟨ha, ho, hq⟩ | ⟨ha, ho, hq, hk, hle⟩
  · have ha : a = -1 := ha
    cases hq
    subst ho
    rw [if_pos ha]
    exact ⟨_, _, rfl, rfl, Or.inl ⟨rfl, rfl, rfl⟩⟩
  have ha : ¬ a = -1 := ha
  have hk : TkOk x0_size s e t v := hk
  have hle : x0_end ≤ s := hle
  cases hq
  subst ho
  obtain ⟨har, hr⟩ : (1 ≤ a ∧ a ≤ 30) ∧ row1 = va_up m_numbers 0 a := hr.resolve_left (by decide)
  rw [if_neg ha]
  try dsimp only [u2, u3, u5, u6]
  rw [if_neg (show ¬ (1 : Int32) = 0 by decide)]
  have er : rd 2 row1 0 = some a := by rw [hr]; rfl
  rw [er]
  refine Sf2.ok (Or.inr ⟨by show ¬ (1 : Int32) = 0; decide, by show ¬ (1 : Int32) = 0; decide, rfl, hk, hle, ?_⟩)
  exact ⟨⟨z1, z2, z3, rfl⟩, z5, z6, z7, z8, z9, z10⟩

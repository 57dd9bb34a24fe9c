/-! the statements, one by one -/
theorem line2 {n : Nat} {x0_bytes : (Nat → Int32)} {x0_size : Int32} {x0_start : Int32} {x0_end : Int32} {x0_token : Int32} {x0_value : Int32} {x1_lineCount : Int32} {x1_goodsCount : Int32} {x1_workCount : Int32} {x1_years : Int32} {x1_lines : (Nat → Int32)} {x1_goods : (Nat → Int32)} {x1_works : (Nat → Int32)} {x1_change : (Nat → Int32)} {x1_coin : (Nat → Int32)} {x1_knownFree : (Nat → Int32)} {x1_isKnown : Int32} {m_shelf : (Nat → Int32)} {m_rowSort : (Nat → Int32)} {m_rowSize : (Nat → Int32)} {m_rows : (Nat → Nat → Int64)} {m_moved : (Nat → Int64)} {m_shown : (Nat → Int32)} {m_refused : (Nat → Int32)} {m_lines : Int32} {m_line : (Nat → Nat → Int32)} {m_changes : (Nat → Int32)} {m_coins : (Nat → Int32)} {m_goods : Int32} {m_good : (Nat → Nat → Int32)} {m_works : Int32} {m_work : (Nat → Nat → Int32)} {m_years : Int32} {m_gone : Int32} {m_spent : Int32} {m_fault : Int32} {m_numbers : (Nat → Int32)} {m_statements : Int32} {m_left : (Nat → Int32)} {m_far : (Nat → Int32)} {m_tons : Int32} {m_way : (Nat → Int32)} {m_steps : Int32} {m_met : Int64} {m_queue : (Nat → Int32)} {m_totals : (Nat → Int32)} (hn : 1000000000000 ≤ n) (hs : 0 ≤ x0_size ∧ x0_size ≤ 250) (hT : TkOk x0_size x0_start x0_end x0_token x0_value) (hlc : 0 ≤ x1_lineCount ∧ x1_lineCount ≤ 20) (hlt : ¬ 20 ≤ x1_lineCount) (hA : (LaD x1_lineCount x1_goodsCount x1_workCount x1_years x1_lines x1_goods x1_works x1_change x1_coin m_lines m_line m_changes m_coins m_goods m_good m_works m_work m_years)) : Sf2 (fX3_readLine n (x0_bytes, x0_size, x0_start, x0_end, x0_token, x0_value) (x1_lineCount, x1_goodsCount, x1_workCount, x1_years, x1_lines, x1_goods, x1_works, x1_change, x1_coin, x1_knownFree, x1_isKnown)) (sLine n m_shelf m_rowSort m_rowSize m_rows m_moved m_shown x0_bytes x0_size m_refused m_lines m_line m_changes m_coins m_goods m_good m_works m_work m_years m_gone m_spent x0_end x0_token x0_start (figs x0_token x0_value) m_fault m_numbers m_statements m_left m_far m_tons m_way m_steps m_met m_queue m_totals) (fun r q => StR x0_size x0_end r.1 r.2.1 r.2.2.1 r.2.2.2.1 r.2.2.2.2.1 r.2.2.2.2.2.1 x1_goodsCount x1_workCount x1_years r.2.2.2.2.2.2.1 x1_goods x1_works x1_change x1_coin q.1 q.2.1 q.2.2.1 q.2.2.2.1 q.2.2.2.2.1 q.2.2.2.2.2.1 q.2.2.2.2.2.2.1 q.2.2.2.2.2.2.2.1 q.2.2.2.2.2.2.2.2.1 q.2.2.2.2.2.2.2.2.2.1 q.2.2.2.2.2.2.2.2.2.2.1 q.2.2.2.2.2.2.2.2.2.2.2.1 q.2.2.2.2.2.2.2.2.2.2.2.2.1 q.2.2.2.2.2.2.2.2.2.2.2.2.2.1 q.2.2.2.2.2.2.2.2.2.2.2.2.2.2.1) := by
  obtain ⟨⟨z1, z2, z3, z4⟩, z5, z6, z7, z8, z9, z10⟩ := hA
  have hL : 0 ≤ m_lines ∧ m_lines < 20 := by rw [← z1]; exact ⟨hlc.1, Int32.not_le.mp hlt⟩
  unfold fX3_readLine sLine
  dsimp only [u6, u11]
  refine Sf2.r (P := fun q => q = m_lines.toNatClampNeg) (Sf.ckP rfl hL) (fun q93 e93 => ?_)
  refine Sf2.r (newLineS hL) ?_
  rintro g94 ⟨hg1, hg2⟩
  subst e93
  refine two2 hn hs hT (M := 7) rfl (by decide) ?_
  intro v6 s e t v y ok q row1 h
  unfold fX3_readLine_j28
  rcases h with ⟨hy, ho, hq⟩ | ⟨hy, hv6, hyr, hne, ho, hq, hk, hle, hrow⟩
  · subst hq ho
    rw [if_pos hy]
    exact ⟨_, _, rfl, rfl, Or.inl ⟨rfl, rfl, rfl⟩⟩
  subst hq ho
  rw [if_neg hy]
  try dsimp only [u2, u3, u5, u6]
  rw [if_neg (show ¬ (1 : Int32) = 0 by decide)]
  refine told2 (p := 1) (p' := 11) hn hs hk (by decide) (by decide) (M := 7) rfl (by decide) rfl rfl (isWordS hn hs hk (by decide)) ?_ ?_
  · exact ⟨_, _, rfl, rfl, Or.inl ⟨rfl, rfl, rfl⟩⟩
  intro w s1 e1 t1 v1 ok q row2 h hr2
  rcases h with ⟨hw, ho, hq⟩ | ⟨hw, ho, hq, hk1, hle1⟩
  · subst hq ho
    have hw : w = -1 := hw
    rw [if_pos hw]
    exact ⟨_, _, rfl, rfl, Or.inl ⟨rfl, rfl, rfl⟩⟩
  subst hq ho
  have hw : ¬ w = -1 := hw
  have hk1 : TkOk x0_size s1 e1 t1 v1 := hk1
  have hle1 : e ≤ s1 := hle1
  obtain ⟨_, hr2⟩ : (1 ≤ w ∧ w ≤ 7) ∧ row2 = _ := hr2.resolve_left (by decide)
  rw [if_neg hw]
  try dsimp only [u2, u3, u5, u6]
  rw [if_neg (show ¬ (1 : Int32) = 0 by decide)]
  refine told2 (p := 2) (p' := 12) hn hs hk1 (by decide) (by decide) (M := 7) rfl (by decide) rfl rfl (isWordS hn hs hk1 (by decide)) ?_ ?_
  · exact ⟨_, _, rfl, rfl, Or.inl ⟨rfl, rfl, rfl⟩⟩
  intro mi s2 e2 t2 v2 ok q row3 h hr3
  rcases h with ⟨hm, ho, hq⟩ | ⟨hm, ho, hq, hk2, hle2⟩
  · subst hq ho
    have hm : mi = -1 := hm
    rw [if_pos hm]
    exact ⟨_, _, rfl, rfl, Or.inl ⟨rfl, rfl, rfl⟩⟩
  subst hq ho
  have hm : ¬ mi = -1 := hm
  have hk2 : TkOk x0_size s2 e2 t2 v2 := hk2
  have hle2 : e1 ≤ s2 := hle2
  obtain ⟨_, hr3⟩ : (1 ≤ mi ∧ mi ≤ 60) ∧ row3 = _ := hr3.resolve_left (by decide)
  rw [if_neg hm]
  try dsimp only [u2, u3, u5, u6]
  rw [if_neg (show ¬ (1 : Int32) = 0 by decide)]
  rw [va_eq] at hr2 hr3
  have hr2 : row2 = va_up row1 2 w := hr2
  have hr3 : row3 = va_up row2 3 mi := hr3
  have b3 : ∀ c, c < 7 → ¬ c = 0 → ¬ c = 1 → ¬ c = 2 → ¬ c = 3 → row3 c = nlR 0 0 999 c := by
    intro c hc n0 n1 n2 n3
    rw [hr3, va_ne _ _ n3, hr2, va_ne _ _ n2, hrow, va_ne _ _ n1, va_ne _ _ n0]
    exact hg2 c hc
  refine Sf2.bind (perh2 (p := 3) (p' := 13) hn hs hk2 (by decide) (by decide) (M := 7) rfl (by decide) rfl rfl (isWordS hn hs hk2 (by decide)) (by decide) (by rw [va_eq]; exact b3 4 (by decide) (by decide) (by decide) (by decide) (by decide))) ?_
  rintro ⟨be, s3, e3, t3, v3⟩ ⟨ok, q, row4⟩ ⟨h, hr4⟩
  rcases h with ⟨hb, ho, hq⟩ | ⟨hb, ho, hq, hk3, hle3⟩
  · have hb : be = -1 := hb
    have ho : ok = 0 := ho
    have hq : q = (e3, t3, s3, figs t3 v3, s3) := hq
    subst hq ho
    try dsimp only [u2, u3, u5, u6]
    rw [if_pos hb]
    unfold fX3_readLine_j130
    rw [if_pos rfl]
    exact Sf2.ok (Or.inl ⟨rfl, rfl, rfl⟩)
  have hb : ¬ be = -1 := hb
  have ho : ok = 1 := ho
  have hq : q = (e3, t3, s3, figs t3 v3, m_fault) := hq
  have hk3 : TkOk x0_size s3 e3 t3 v3 := hk3
  have hle3 : s2 ≤ s3 := hle3
  subst hq ho
  obtain ⟨_, hr4⟩ : (1 ≤ be ∧ be ≤ 999) ∧ ∀ c, row4 c = _ := hr4.resolve_left (by show ¬ (1 : Int32) = 0; decide)
  try dsimp only [u2, u3, u5, u6]
  rw [if_neg hb, if_neg (show ¬ (1 : Int32) = 0 by decide)]
  have b4 : ∀ c, row4 c = va_up row3 4 be c := by
    intro c
    rw [hr4 c, va_eq]
    rfl
  refine Sf2.bind (perh2 (p := 4) (p' := 14) hn hs hk3 (by decide) (by decide) (M := 7) rfl (by decide) rfl rfl (isWordS hn hs hk3 (by decide)) (by decide) (by rw [va_eq]; exact (b4 5).trans ((va_ne _ _ (by decide)).trans (b3 5 (by decide) (by decide) (by decide) (by decide) (by decide))))) ?_
  rintro ⟨ow, s4, e4, t4, v4⟩ ⟨ok, q, row5⟩ ⟨h, hr5⟩
  unfold fX3_readLine_j130
  rcases h with ⟨hw', ho, hq⟩ | ⟨hw', ho, hq, hk4, hle4⟩
  · have hw' : ow = -1 := hw'
    have ho : ok = 0 := ho
    have hq : q = (e4, t4, s4, figs t4 v4, s4) := hq
    subst hq ho
    try dsimp only [u2, u3, u5, u6]
    rw [if_pos hw']
    exact ⟨_, _, rfl, rfl, Or.inl ⟨rfl, rfl, rfl⟩⟩
  have hw' : ¬ ow = -1 := hw'
  have ho : ok = 1 := ho
  have hq : q = (e4, t4, s4, figs t4 v4, m_fault) := hq
  have hk4 : TkOk x0_size s4 e4 t4 v4 := hk4
  have hle4 : s3 ≤ s4 := hle4
  subst hq ho
  obtain ⟨_, hr5⟩ : (0 ≤ ow ∧ ow ≤ 5) ∧ ∀ c, row5 c = _ := hr5.resolve_left (by show ¬ (1 : Int32) = 0; decide)
  try dsimp only [u2, u3, u5, u6]
  rw [if_neg hw', if_neg (show ¬ (1 : Int32) = 0 by decide)]
  refine Sf2.l (addLineS hlc) ?_
  rintro ⟨g54, g55, g56⟩ h
  rcases h with ⟨h, _⟩ | ⟨_, a1, a2, a3, a4⟩
  · exact absurd h hlt
  have a1 : g54 = x1_lineCount + 1 := a1
  have a3 : ∀ l c, c < 7 → l ≠ x1_lineCount.toNatClampNeg → g55 (7 * l + c) = x1_lines (7 * l + c) := a3
  have a4 : ∀ c, c < 7 → g55 (7 * x1_lineCount.toNatClampNeg + c) = ([v6, y, w, mi, be, ow, 0] : List Int32).getD c 0 := a4
  have b5 : ∀ c, row5 c = va_up row4 5 ow c := by
    intro c
    rw [hr5 c, va_eq]
    rfl
  have C : AddR 7 (ro 7 x1_lines) (ro 7 g55) x1_lineCount.toNatClampNeg [v6, y, w, mi, be, ow, 0] := ⟨fun l hl c hc => by rw [ro_eq hc, ro_eq hc]; exact a3 l c hc hl, fun c hc => by rw [ro_eq hc]; exact a4 c hc⟩
  have D : AddR 7 m_line (va_up (va_up (va_up (va_up (va_up g94 m_lines.toNatClampNeg row1) m_lines.toNatClampNeg row2) m_lines.toNatClampNeg row3) m_lines.toNatClampNeg row4) m_lines.toNatClampNeg row5) x1_lineCount.toNatClampNeg [v6, y, w, mi, be, ow, 0] := by
    rw [z1]
    refine ⟨fun l hl c hc => ?_, fun c hc => ?_⟩
    · rw [va_ne _ _ hl, va_ne _ _ hl, va_ne _ _ hl, va_ne _ _ hl, va_ne _ _ hl, hg1 l hl]
    · rw [va_eq]
      rcases (show c = 0 ∨ c = 1 ∨ c = 2 ∨ c = 3 ∨ c = 4 ∨ c = 5 ∨ c = 6 by omega) with rfl | rfl | rfl | rfl | rfl | rfl | rfl
      · rw [b5, va_ne _ _ (by decide), b4, va_ne _ _ (by decide), hr3, va_ne _ _ (by decide), hr2, va_ne _ _ (by decide), hrow, va_ne _ _ (by decide), va_eq]; rfl
      · rw [b5, va_ne _ _ (by decide), b4, va_ne _ _ (by decide), hr3, va_ne _ _ (by decide), hr2, va_ne _ _ (by decide), hrow, va_eq]; rfl
      · rw [b5, va_ne _ _ (by decide), b4, va_ne _ _ (by decide), hr3, va_ne _ _ (by decide), hr2]; rfl
      · rw [b5, va_ne _ _ (by decide), b4, va_ne _ _ (by decide), hr3]; rfl
      · rw [b5, va_ne _ _ (by decide), b4, va_eq]; rfl
      · rw [b5, va_eq]; rfl
      · rw [b5, va_ne _ _ (by decide), b4, va_ne _ _ (by decide), b3 6 (by decide) (by decide) (by decide) (by decide) (by decide)]; rfl
  refine Sf2.ok (Or.inr ⟨by show ¬ (1 : Int32) = 0; decide, by show ¬ (1 : Int32) = 0; decide, rfl, hk4, Int32.le_trans hle (Int32.le_trans hk.1.2 (Int32.le_trans hle1 (Int32.le_trans hk1.1.2 (Int32.le_trans hle2 (Int32.le_trans hle3 hle4))))), ?_⟩)
  show LaD g54 x1_goodsCount x1_workCount x1_years g55 x1_goods x1_works x1_change x1_coin (m_lines + 1) _ m_changes m_coins m_goods m_good m_works m_work m_years
  rw [a1]
  refine ⟨⟨by rw [z1], z2, z3, z4⟩, AddR.alike hlc.1 hlt C D z5, z6, z7, z8, z9, fun k hk' => (z10 k hk').mono ?_⟩
  have hl9 := Int32.not_le.mp hlt
  clear z5 z6 z7 z8 z9 z10 C D a3 a4 b3 b4 b5 hg1 hg2 hr4 hr5
  grind

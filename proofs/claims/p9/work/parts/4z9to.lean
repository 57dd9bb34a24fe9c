/-! work told; the statement -/
theorem work2 {n : Nat} {x0_bytes : (Nat → Int32)} {x0_size : Int32} {x0_start : Int32} {x0_end : Int32} {x0_token : Int32} {x0_value : Int32} {x1_lineCount : Int32} {x1_goodsCount : Int32} {x1_workCount : Int32} {x1_years : Int32} {x1_lines : (Nat → Int32)} {x1_goods : (Nat → Int32)} {x1_works : (Nat → Int32)} {x1_change : (Nat → Int32)} {x1_coin : (Nat → Int32)} {x1_knownFree : (Nat → Int32)} {x1_isKnown : Int32} {m_shelf : (Nat → Int32)} {m_rowSort : (Nat → Int32)} {m_rowSize : (Nat → Int32)} {m_rows : (Nat → Nat → Int64)} {m_moved : (Nat → Int64)} {m_shown : (Nat → Int32)} {m_refused : (Nat → Int32)} {m_lines : Int32} {m_line : (Nat → Nat → Int32)} {m_changes : (Nat → Int32)} {m_coins : (Nat → Int32)} {m_goods : Int32} {m_good : (Nat → Nat → Int32)} {m_works : Int32} {m_work : (Nat → Nat → Int32)} {m_years : Int32} {m_gone : Int32} {m_spent : Int32} {m_fault : Int32} {m_numbers : (Nat → Int32)} {m_statements : Int32} {m_left : (Nat → Int32)} {m_far : (Nat → Int32)} {m_tons : Int32} {m_way : (Nat → Int32)} {m_steps : Int32} {m_met : Int64} {m_queue : (Nat → Int32)} {m_totals : (Nat → Int32)} {v0 : Int32} (hn : 1000000000000 ≤ n) (hs : 0 ≤ x0_size ∧ x0_size ≤ 250) (hT : TkOk x0_size x0_start x0_end x0_token x0_value) (ev : fX3_isWord n (x0_bytes, x0_size, x0_start, x0_end, x0_token, x0_value) 6 = some v0) (hv0 : ¬ v0 = 0) (hlc : 0 ≤ x1_lineCount ∧ x1_lineCount ≤ 20) (hwc : 0 ≤ x1_workCount ∧ x1_workCount ≤ 7) (hlt : ¬ 7 ≤ x1_workCount) (hA : (LaD x1_lineCount x1_goodsCount x1_workCount x1_years x1_lines x1_goods x1_works x1_change x1_coin m_lines m_line m_changes m_coins m_goods m_good m_works m_work m_years)) : Sf2 (fX3_readWork n (x0_bytes, x0_size, x0_start, x0_end, x0_token, x0_value) (x1_lineCount, x1_goodsCount, x1_workCount, x1_years, x1_lines, x1_goods, x1_works, x1_change, x1_coin, x1_knownFree, x1_isKnown)) (sWork n m_shelf m_rowSort m_rowSize m_rows m_moved m_shown x0_bytes x0_size m_refused m_lines m_line m_changes m_coins m_goods m_good m_works m_work m_years m_gone m_spent x0_end x0_token x0_start (figs x0_token x0_value) m_fault m_numbers m_statements m_left m_far m_tons m_way m_steps m_met m_queue m_totals) (fun r q => StR x0_size x0_end r.1 r.2.1 r.2.2.1 r.2.2.2.1 r.2.2.2.2.1 x1_lineCount x1_goodsCount r.2.2.2.2.2.1 x1_years x1_lines x1_goods r.2.2.2.2.2.2.1 x1_change x1_coin q.1 q.2.1 q.2.2.1 q.2.2.2.1 q.2.2.2.2.1 q.2.2.2.2.2.1 q.2.2.2.2.2.2.1 q.2.2.2.2.2.2.2.1 q.2.2.2.2.2.2.2.2.1 q.2.2.2.2.2.2.2.2.2.1 q.2.2.2.2.2.2.2.2.2.2.1 q.2.2.2.2.2.2.2.2.2.2.2.1 q.2.2.2.2.2.2.2.2.2.2.2.2.1 q.2.2.2.2.2.2.2.2.2.2.2.2.2.1 q.2.2.2.2.2.2.2.2.2.2.2.2.2.2.1) := by
  obtain ⟨⟨z1, z2, z3, z4⟩, z5, z6, z7, z8, z9, z10⟩ := hA
  have hL : 0 ≤ m_works ∧ m_works < 7 := by rw [← z3]; exact ⟨hwc.1, Int32.not_le.mp hlt⟩
  have hml : 0 ≤ m_lines ∧ m_lines ≤ 20 := by rw [← z1]; exact hlc
  unfold fX3_readWork sWork
  dsimp only [u6, u11]
  refine Sf2.r (P := fun q => q = m_works.toNatClampNeg) (Sf.ckP (M := 7) rfl hL) (fun q61 e61 => ?_)
  subst e61
  unfold fX7_workTold
  dsimp only [u35]
  rw [Option.bind_assoc]
  refine Sf2.r (P := fun f => f = va_up (m_work m_works.toNatClampNeg) 4 0) (Sf.wrP (M := 5) rfl (by decide)) (fun f1 ef1 => ?_)
  rw [Option.bind_assoc]
  refine toldIn (p := 6) (p' := 16) hn hs hT (by decide) (by decide) (M := 5) rfl (by decide) rfl rfl ev hv0 ?_
  intro k s e t v ok q row1 h hr1
  rcases h with ⟨hk0, ho, hq⟩ | ⟨hk0, ho, hq, hk, hle⟩
  · have hk0 : k = -1 := hk0
    subst hq ho
    rw [if_pos hk0]
    unfold fX3_readWork_j30
    rw [if_pos rfl]
    exact ⟨_, _, rfl, rfl, Or.inl ⟨rfl, rfl, rfl⟩⟩
  have hk0 : ¬ k = -1 := hk0
  have hk : TkOk x0_size s e t v := hk
  have hle : x0_end ≤ s := hle
  subst hq ho
  obtain ⟨hkr, hr1⟩ : (1 ≤ k ∧ k ≤ 5) ∧ row1 = va_up f1 0 k := hr1.resolve_left (by decide)
  rw [if_neg hk0]
  refine Sf2.l greatA (fun v53 e53 => ?_)
  try dsimp only [u3, u5]
  rw [if_neg (show ¬ (1 : Int32) = 0 by decide)]
  have g53 : v53 ≤ 19 := by
    rw [e53]
    by_cases hk1 : k = 1 ∨ k = 2
    · rw [if_pos hk1]
      clear hk1 z5 z6 z7 z8 z9 z10
      grind
    · rw [if_neg hk1]
      decide
  have gA := gA_iff (lc := m_lines) (k := k) (a := v) hml
  rw [← z1, ← e53] at gA
  have r0 : ∀ c, rd 5 row1 c = rd 5 (va_up f1 0 k) c := fun c => by rw [hr1]
  -- the first number
  by_cases hC : t = 2 ∧ (0 ≤ v ∧ v ≤ v53)
  case neg =>
    rw [numNo (x0_bytes := x0_bytes) (x0_size := x0_size) hC]
    show Sf2 (fX3_readWork_j30 n x0_bytes x0_size x1_lineCount x1_goodsCount x1_workCount x1_years x1_lines x1_goods x1_works x1_change x1_coin x1_knownFree x1_isKnown k s e t v (-1)) _ _
    unfold fX3_readWork_j30
    rw [if_pos rfl]
    by_cases ht : t = 2
    · rw [if_pos ht]
      obtain ⟨r, er, hr⟩ := in99 ht (hk.2.2.1 ht)
      rw [er]
      show Sf2 _ ((if r = 0 then _ else _ : Option _).bind _) _
      rcases hr with ⟨hr, hv, hf⟩ | ⟨hr, hv⟩
      · rw [if_neg hr]
        have ek : rd 5 row1 0 = some k := by rw [r0]; rfl
        rw [ek]
        show Sf2 _ (((fX7_mayBeFirst _ k ((figs t v).toInt32)).bind _).bind _) _
        rw [hf]
        obtain ⟨b, eb, hb⟩ := mbF0 (x0_shelf := m_shelf) (x0_rowSort := m_rowSort) (x0_rowSize := m_rowSize) (x0_rows := m_rows) (x0_moved := m_moved) (x0_shown := m_shown) (x0_tape := x0_bytes) (x0_tapeSize := x0_size) (x0_refused := m_refused) (x0_line := m_line) (x0_changes := m_changes) (x0_coins := m_coins) (x0_goods := m_goods) (x0_good := m_good) (x0_works := m_works) (x0_work := m_work) (x0_years := m_years) (x0_gone := m_gone) (x0_spent := m_spent) (x0_at := e) (x0_token := t) (x0_from := s) (x0_figures := figs t v) (x0_fault := m_fault) (x0_numbers := m_numbers) (x0_statements := m_statements) (x0_left := m_left) (x0_far := m_far) (x0_tons := m_tons) (x0_way := m_way) (x0_steps := m_steps) (x0_met := m_met) (x0_queue := m_queue) (x0_totals := m_totals) (k := k) (a := v) hml
        rw [eb]
        have hb0 : b = 0 := by
          rcases hb with hb | hb
          · exact hb.1
          · rw [← z1] at hb; exact absurd ⟨ht, gA.mpr hb.2⟩ hC
        rw [hb0]
        exact ⟨_, _, rfl, rfl, Or.inl ⟨rfl, rfl, rfl⟩⟩
      · rw [if_pos hr]
        exact ⟨_, _, rfl, rfl, Or.inl ⟨rfl, rfl, rfl⟩⟩
    · rw [if_neg ht]
      exact ⟨_, _, rfl, rfl, Or.inl ⟨rfl, rfl, rfl⟩⟩
  case pos =>
    obtain ⟨ht, hv⟩ := hC
    have hv99 : 0 ≤ v ∧ v ≤ 99 := ⟨hv.1, Int32.le_trans hv.2 (Int32.le_trans g53 (by decide))⟩
    rw [if_pos ht]
    obtain ⟨r, er, hr⟩ := in99 ht (hk.2.2.1 ht)
    rw [er]
    show Sf2 _ ((if r = 0 then _ else _ : Option _).bind _) _
    obtain ⟨hr, _, hf⟩ : ¬ r = 0 ∧ (0 ≤ v ∧ v ≤ 99) ∧ (figs t v).toInt32 = v := by
      rcases hr with hr | hr
      · exact hr
      · exact absurd hv99 hr.2
    rw [if_neg hr]
    have ek : rd 5 row1 0 = some k := by rw [r0]; rfl
    rw [ek]
    show Sf2 _ (((fX7_mayBeFirst _ k ((figs t v).toInt32)).bind _).bind _) _
    rw [hf]
    obtain ⟨b, eb, hb⟩ := mbF0 (x0_shelf := m_shelf) (x0_rowSort := m_rowSort) (x0_rowSize := m_rowSize) (x0_rows := m_rows) (x0_moved := m_moved) (x0_shown := m_shown) (x0_tape := x0_bytes) (x0_tapeSize := x0_size) (x0_refused := m_refused) (x0_line := m_line) (x0_changes := m_changes) (x0_coins := m_coins) (x0_goods := m_goods) (x0_good := m_good) (x0_works := m_works) (x0_work := m_work) (x0_years := m_years) (x0_gone := m_gone) (x0_spent := m_spent) (x0_at := e) (x0_token := t) (x0_from := s) (x0_figures := figs t v) (x0_fault := m_fault) (x0_numbers := m_numbers) (x0_statements := m_statements) (x0_left := m_left) (x0_far := m_far) (x0_tons := m_tons) (x0_way := m_way) (x0_steps := m_steps) (x0_met := m_met) (x0_queue := m_queue) (x0_totals := m_totals) (k := k) (a := v) hml
    rw [eb]
    have hVA : VA x1_lineCount k v := gA.mp hv
    have hb0 : ¬ b = 0 := by
      rcases hb with hb | hb
      · rw [← z1] at hb; exact absurd hVA hb.2
      · exact hb.1
    show Sf2 _ ((if b = 0 then _ else _ : Option _).bind _) _
    rw [if_neg hb0, Option.bind_assoc]
    refine Sf2.bind (numOk hn hs hk ht hv hv99 (by decide) (M := 5) rfl (by decide)) ?_
    rintro ⟨a, s1, e1, t1, v1⟩ ⟨ok2, q, row2⟩ ⟨ea, eo, eq, er2, hk1, hle1⟩
    have ea : a = v := ea
    have eo : ok2 = 1 := eo
    have eq : q = (e1, t1, s1, figs t1 v1, m_fault) := eq
    have er2 : row2 = va_up row1 1 v := er2
    have hk1 : TkOk x0_size s1 e1 t1 v1 := hk1
    have hle1 : e ≤ s1 := hle1
    subst ea eo eq
    have er2 : row2 = va_up row1 1 a := er2
    have ha0 : ¬ a = -1 := by
      intro e
      rw [e] at hv
      exact absurd hv.1 (by decide)
    show Sf2 (fX3_readWork_j30 n x0_bytes x0_size x1_lineCount x1_goodsCount x1_workCount x1_years x1_lines x1_goods x1_works x1_change x1_coin x1_knownFree x1_isKnown k s1 e1 t1 v1 a) ((if t1 = 2 then _ else _ : Option _).bind _) _
    unfold fX3_readWork_j30
    rw [if_neg ha0]
    refine Sf2.l greatB (fun v17 e17 => ?_)
    have g17 : v17 ≤ 99 := by
      rw [e17]
      by_cases h1 : k = 1 ∨ k = 2
      · rw [if_pos h1]; decide
      · rw [if_neg h1]
        by_cases h3 : k = 3
        · rw [if_pos h3]; decide
        · rw [if_neg h3]; decide
    have gB := gB_iff (k := k) (a := a) (b := v1)
    rw [← e17] at gB
    have u4' : Und k 4 ↔ (¬ (k = 1 ∨ k = 2) ∧ ¬ k = 3) := by
      clear gA gB
      rcases six ⟨Int32.le_trans (by decide) hkr.1, hkr.2⟩ with rfl | rfl | rfl | rfl | rfl | rfl
      · exact absurd hkr.1 (by decide)
      all_goals decide
    refine Sf2.l (isUnderC hn hkr (by decide)) (fun v19 h19 => ?_)
    have rk : rd 5 row2 0 = some k := by rw [er2, hr1]; rfl
    have ra : rd 5 row2 1 = some a := by rw [er2]; rfl
    -- the class's second number
    have v19z : v19 = 0 ↔ ¬ Und k 4 := by
      rcases h19 with h | h
      · exact ⟨fun q => by rw [h.1] at q; exact absurd q (by decide), fun q => absurd h.2 q⟩
      · exact ⟨fun _ => h.2, fun _ => h.1⟩
    have clsN : ∀ (F : Int32 → Int32 → Int32 → Int32 → Int32 → Option (Int32 × Int32 × Int32 × Int32 × Int32 × Int32 × (Nat → Int32) × Int32)), ¬ (t1 = 2 ∧ VB k a v1) → (if v19 = 0 then ((fX3_number n (x0_bytes, x0_size, s1, e1, t1, v1) 0 v17).bind (u5 fun v41 g42 g43 g44 g45 => F v41 g42 g43 g44 g45)) else ((fX3_numberUnlike n (x0_bytes, x0_size, s1, e1, t1, v1) a v17).bind (u5 fun v47 g48 g49 g50 g51 => F v47 g48 g49 g50 g51))) = F (-1) s1 e1 t1 v1 := by
      intro F hno
      by_cases hu : Und k 4
      · rw [if_neg (fun q => v19z.mp q hu)]
        unfold fX3_numberUnlike
        dsimp only [u6]
        by_cases ht1 : t1 = 2
        · rw [if_pos ht1]
          by_cases he : v1 = a
          · rw [if_pos he]
            rfl
          · rw [if_neg he]
            have hB : ¬ (0 ≤ v1 ∧ v1 ≤ v17) := fun q => hno ⟨ht1, gB.mp ⟨q, fun _ => he⟩⟩
            rw [numNo (fun h => hB h.2)]
            rfl
        · rw [if_neg ht1, numNo (fun h => ht1 h.1)]
          rfl
      · rw [if_pos (v19z.mpr hu)]
        have hB : ¬ (t1 = 2 ∧ (0 ≤ v1 ∧ v1 ≤ v17)) := fun q => hno ⟨q.1, gB.mp ⟨q.2, fun h => absurd (u4'.mpr h) hu⟩⟩
        rw [numNo hB]
        rfl
    have clsY : ∀ (F : Int32 → Int32 → Int32 → Int32 → Int32 → Option (Int32 × Int32 × Int32 × Int32 × Int32 × Int32 × (Nat → Int32) × Int32)), (t1 = 2 ∧ VB k a v1) → (if v19 = 0 then ((fX3_number n (x0_bytes, x0_size, s1, e1, t1, v1) 0 v17).bind (u5 fun v41 g42 g43 g44 g45 => F v41 g42 g43 g44 g45)) else ((fX3_numberUnlike n (x0_bytes, x0_size, s1, e1, t1, v1) a v17).bind (u5 fun v47 g48 g49 g50 g51 => F v47 g48 g49 g50 g51))) = (fX3_number n (x0_bytes, x0_size, s1, e1, t1, v1) 0 v17).bind (u5 fun v41 g42 g43 g44 g45 => F v41 g42 g43 g44 g45) := by
      intro F hyes
      by_cases hu : Und k 4
      · rw [if_neg (fun q => v19z.mp q hu)]
        unfold fX3_numberUnlike
        dsimp only [u6]
        have he : ¬ v1 = a := (hyes.2.2.2 (u4'.mp hu)).2
        rw [if_pos hyes.1, if_neg he]
        cases fX3_number n (x0_bytes, x0_size, s1, e1, t1, v1) 0 v17 with
        | none => rfl
        | some y => rfl
      · rw [if_pos (v19z.mpr hu)]
    show Sf2 (if v19 = 0 then _ else _) _ _
    by_cases hD : t1 = 2 ∧ VB k a v1
    case neg =>
      rw [clsN (fun y c1 c2 c3 c4 => fX3_readWork_j70 n x0_bytes x0_size x1_lineCount x1_goodsCount x1_workCount x1_years x1_lines x1_goods x1_works x1_change x1_coin x1_knownFree x1_isKnown k a c1 c2 c3 c4 y) hD]
      unfold fX3_readWork_j70
      rw [if_pos rfl]
      unfold fX3_readWork_j90
      rw [if_pos rfl]
      by_cases ht1 : t1 = 2
      · rw [if_pos ht1]
        obtain ⟨r, er, hr⟩ := in99 ht1 (hk1.2.2.1 ht1)
        rw [er]
        show Sf2 _ ((if r = 0 then _ else _ : Option _).bind _) _
        rcases hr with ⟨hr, hvv, hf⟩ | ⟨hr, hvv⟩
        · rw [if_neg hr, rk]
          dsimp only [Option.bind_some]
          rw [ra]
          dsimp only [Option.bind_some]
          rw [hf]
          obtain ⟨b2, eb2, hb2⟩ := mbS (k := k) (a := a) (b := v1)
          rw [eb2]
          have hb20 : b2 = 0 := by
            rcases hb2 with hb | hb
            · exact hb.1
            · exact absurd ⟨ht1, hb.2⟩ hD
          rw [hb20]
          exact ⟨_, _, rfl, rfl, Or.inl ⟨rfl, rfl, rfl⟩⟩
        · rw [if_pos hr]
          exact ⟨_, _, rfl, rfl, Or.inl ⟨rfl, rfl, rfl⟩⟩
      · rw [if_neg ht1]
        exact ⟨_, _, rfl, rfl, Or.inl ⟨rfl, rfl, rfl⟩⟩
    case pos =>
      rw [clsY (fun y c1 c2 c3 c4 => fX3_readWork_j70 n x0_bytes x0_size x1_lineCount x1_goodsCount x1_workCount x1_years x1_lines x1_goods x1_works x1_change x1_coin x1_knownFree x1_isKnown k a c1 c2 c3 c4 y) hD]
      obtain ⟨ht1, hVB⟩ := hD
      have hvb : 0 ≤ v1 ∧ v1 ≤ v17 := (gB.mpr hVB).1
      have hvb99 : 0 ≤ v1 ∧ v1 ≤ 99 := ⟨hvb.1, Int32.le_trans hvb.2 g17⟩
      rw [if_pos ht1]
      obtain ⟨r, er, hr⟩ := in99 ht1 (hk1.2.2.1 ht1)
      rw [er]
      show Sf2 _ ((if r = 0 then _ else _ : Option _).bind _) _
      obtain ⟨hr, _, hf⟩ : ¬ r = 0 ∧ (0 ≤ v1 ∧ v1 ≤ 99) ∧ (figs t1 v1).toInt32 = v1 := by
        rcases hr with hr | hr
        · exact hr
        · exact absurd hvb99 hr.2
      rw [if_neg hr, rk]
      dsimp only [Option.bind_some]
      rw [ra]
      dsimp only [Option.bind_some]
      rw [hf]
      obtain ⟨b2, eb2, hb2⟩ := mbS (k := k) (a := a) (b := v1)
      rw [eb2]
      have hb20 : ¬ b2 = 0 := by
        rcases hb2 with hb | hb
        · exact absurd hVB hb.2
        · exact hb.1
      show Sf2 _ ((if b2 = 0 then _ else _ : Option _).bind _) _
      rw [if_neg hb20, Option.bind_assoc]
      refine Sf2.bind (numOk hn hs hk1 ht1 hvb hvb99 (by decide) (M := 5) rfl (by decide)) ?_
      rintro ⟨y, s2, e2, t2, v2⟩ ⟨ok3, q, row3⟩ ⟨ey, eo3, eq3, er3, hk2, hle2⟩
      have ey9 : y = v1 := ey
      have eo9 : ok3 = 1 := eo3
      have eq9 : q = (e2, t2, s2, figs t2 v2, m_fault) := eq3
      have er3 : row3 = va_up row2 2 v1 := er3
      have hk2 : TkOk x0_size s2 e2 t2 v2 := hk2
      have hle2 : e1 ≤ s2 := hle2
      subst ey9 eo9 eq9
      have er3 : row3 = va_up row2 2 y := er3
      have hy0 : ¬ y = -1 := by
        intro e
        rw [e] at hvb
        exact absurd hvb.1 (by decide)
      show Sf2 (fX3_readWork_j70 n x0_bytes x0_size x1_lineCount x1_goodsCount x1_workCount x1_years x1_lines x1_goods x1_works x1_change x1_coin x1_knownFree x1_isKnown k a s2 e2 t2 v2 y) _ _
      unfold fX3_readWork_j70
      rw [if_neg hy0]
      show Sf2 _ ((_ : Option _).bind _) _
      try dsimp only [u3, u5]
      rw [Option.bind_assoc]
      refine Sf2.bind (num2 hn hs hk2 (by decide) (by decide) (M := 5) rfl (by decide)) ?_
      rintro ⟨w, s3, e3, t3, v3⟩ ⟨ok, q, row4⟩ ⟨h, hr4⟩
      have h := NmR.rd (e0 := e2) (by decide) (Int32.le_refl _) h
      unfold fX3_readWork_j90
      rcases h with ⟨hw, ho, hq⟩ | ⟨hw, ho, hq, hk3, hle3⟩
      · have hw : w = -1 := hw
        have ho : ok = 0 := ho
        have hq : q = (e3, t3, s3, figs t3 v3, s3) := hq
        subst hq ho
        show Sf2 (if w = -1 then _ else _) _ _
        rw [if_pos hw]
        exact ⟨_, _, rfl, rfl, Or.inl ⟨rfl, rfl, rfl⟩⟩
      have hw : ¬ w = -1 := hw
      have ho : ok = 1 := ho
      have hq : q = (e3, t3, s3, figs t3 v3, m_fault) := hq
      have hk3 : TkOk x0_size s3 e3 t3 v3 := hk3
      have hle3 : e2 ≤ s3 := hle3
      subst hq ho
      have hr4 : row4 = va_up row3 3 w := hr4.resolve_left (by show ¬ (1 : Int32) = 0; decide)
      show Sf2 (if w = -1 then _ else _) _ _
      rw [if_neg hw]
      refine Sf2.l (addWorkS ⟨hwc.1, Int32.not_le.mp hlt⟩) ?_
      rintro ⟨g31, g32, g33⟩ ⟨a1, _, C⟩
      have a1 : g31 = x1_workCount + 1 := a1
      have C : AddR 5 (ro 5 x1_works) (ro 5 g32) x1_workCount.toNatClampNeg [k, a, y, w, 0] := C
      have er2 : row2 = va_up row1 1 a := er2
      have er3 : row3 = va_up row2 2 y := er3
      have D : AddR 5 m_work (va_up m_work m_works.toNatClampNeg row4) x1_workCount.toNatClampNeg [k, a, y, w, 0] := by
        rw [z3]
        refine ⟨fun l hl c hc => by rw [va_ne _ _ hl], fun c hc => ?_⟩
        rw [va_eq, hr4, er3, er2, hr1, ef1]
        rcases (show c = 0 ∨ c = 1 ∨ c = 2 ∨ c = 3 ∨ c = 4 by omega) with rfl | rfl | rfl | rfl | rfl <;> rfl
      have h20 : ¬ (20 : Int32) ≤ x1_workCount := fun h => absurd (Int32.le_trans h hwc.2) (by decide)
      refine ⟨_, _, rfl, rfl, Or.inr ⟨by show ¬ (1 : Int32) = 0; decide, by show ¬ (1 : Int32) = 0; decide, rfl, hk3, Int32.le_trans hle (Int32.le_trans hk.1.2 (Int32.le_trans hle1 (Int32.le_trans hk1.1.2 (Int32.le_trans hle2 (Int32.le_trans hk2.1.2 hle3))))), ?_⟩⟩
      show LaD x1_lineCount x1_goodsCount g31 x1_years x1_lines x1_goods g32 x1_change x1_coin m_lines m_line m_changes m_coins m_goods m_good (m_works + 1) (va_up m_work m_works.toNatClampNeg row4) m_years
      rw [a1]
      refine ⟨⟨z1, z2, by rw [z3], z4⟩, z5, z6, AddR.alike hwc.1 h20 C D z7, z8, z9, fun j hj => ?_⟩
      rw [(up1 hwc.1 (B := 20) (by decide) h20).2.1] at hj
      by_cases ej : j = x1_workCount.toNatClampNeg
      · rw [ej]
        exact Wf1_of ⟨hkr, hVA, hVB⟩ C.2
      · exact (z10 j (by omega)).congr (fun c hc => (C.1 j ej c (by omega)).symm)

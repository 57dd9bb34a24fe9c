/-! two places; the statements -/
theorem Sf.ckP {N : Nat} {i M : Int32} (hM : M.toInt = (N : Int)) (hi : 0 ≤ i ∧ i < M) : Sf (ck i N) (fun q => q = i.toNatClampNeg) := by
  have h := Sf.ckb (i := i) (N := N) (k := fun q => some q) (Q := fun q => q = i.toNatClampNeg) M hM hi (fun q e _ => Sf.ok e)
  obtain ⟨a, e, p⟩ := h
  cases hw : ck i N with
  | none => rw [hw] at e; cases e
  | some b => rw [hw] at e; cases e; exact ⟨_, rfl, p⟩
def TwR (sz e0 v6 s e t v y ok : Int32) (q : Int32 × Int32 × Int32 × Int64 × Int32) (row row' : Nat → Int32) (flt : Int32) : Prop := (y = -1 ∧ ok = 0 ∧ q = (e, t, s, figs t v, s)) ∨ (¬ y = -1 ∧ (0 ≤ v6 ∧ v6 ≤ 11) ∧ (0 ≤ y ∧ y ≤ 11) ∧ ¬ v6 = y ∧ ok = 1 ∧ q = (e, t, s, figs t v, flt) ∧ TkOk sz s e t v ∧ e0 ≤ s ∧ row' = va_up (va_up row 0 v6) 1 y)
theorem two2 {γ δ : Type} {n m1 : Nat} {x0_bytes : (Nat → Int32)} {x0_size : Int32} {x0_start : Int32} {x0_end : Int32} {x0_token : Int32} {x0_value : Int32} {m_shelf : (Nat → Int32)} {m_rowSort : (Nat → Int32)} {m_rowSize : (Nat → Int32)} {m_rows : (Nat → Nat → Int64)} {m_moved : (Nat → Int64)} {m_shown : (Nat → Int32)} {m_refused : (Nat → Int32)} {m_lines : Int32} {m_line : (Nat → Nat → Int32)} {m_changes : (Nat → Int32)} {m_coins : (Nat → Int32)} {m_goods : Int32} {m_good : (Nat → Nat → Int32)} {m_works : Int32} {m_work : (Nat → Nat → Int32)} {m_years : Int32} {m_gone : Int32} {m_spent : Int32} {m_fault : Int32} {m_numbers : (Nat → Int32)} {m_statements : Int32} {m_left : (Nat → Int32)} {m_far : (Nat → Int32)} {m_tons : Int32} {m_way : (Nat → Int32)} {m_steps : Int32} {m_met : Int64} {m_queue : (Nat → Int32)} {m_totals : (Nat → Int32)} {row : Nat → Int32} {M : Int32} {J : Int32 → Int32 → Int32 → Int32 → Int32 → Int32 → Option γ} {K : Int32 × (Int32 × Int32 × Int32 × Int64 × Int32) × (Nat → Int32) → Option δ} {S : γ → δ → Prop} (hn : 1000000000000 ≤ n) (hs : 0 ≤ x0_size ∧ x0_size ≤ 250) (hT : TkOk x0_size x0_start x0_end x0_token x0_value) (hM : M.toInt = (m1 : Int)) (hM2 : (1 : Int32) < M) (hJ : ∀ v6 s e t v y ok q row', TwR x0_size x0_end v6 s e t v y ok q row row' m_fault → Sf2 (J v6 s e t v y) (K (ok, q, row')) S) : Sf2 ((fX3_next n (x0_bytes, x0_size, x0_start, x0_end, x0_token, x0_value)).bind (u4 fun g1 g2 g3 g4 => (fX3_number n (x0_bytes, x0_size, g1, g2, g3, g4) 0 11).bind (u5 fun v6 g7 g8 g9 g10 => if v6 = (-1) then (J v6 g7 g8 g9 g10 (-1)) else ((fX3_numberUnlike n (x0_bytes, x0_size, g7, g8, g9, g10) v6 11).bind (u5 fun y b c d f => J v6 b c d f y))))) ((fX7_two n (m_shelf, m_rowSort, m_rowSize, m_rows, m_moved, m_shown, x0_bytes, x0_size, m_refused, m_lines, m_line, m_changes, m_coins, m_goods, m_good, m_works, m_work, m_years, m_gone, m_spent, x0_end, x0_token, x0_start, (figs x0_token x0_value), m_fault, m_numbers, m_statements, m_left, m_far, m_tons, m_way, m_steps, m_met, m_queue, m_totals) m1 row).bind K) S := by
  have hM0 : (0 : Int32) < M := Int32.lt_of_le_of_lt (by decide) hM2
  unfold fX7_two
  dsimp only [u35]
  rw [Option.bind_assoc]
  refine Sf2.bind (lookNext hn hs ⟨Int32.le_trans hT.1.1 hT.1.2, hT.2.1⟩ rfl rfl rfl) ?_
  rintro ⟨g1, g2, g3, g4⟩ ⟨k1, k2, k3, k4⟩ ⟨eq, ok, le⟩
  cases eq
  try dsimp only [u4]
  rw [Option.bind_assoc]
  refine Sf2.bind (num2 hn hs ok (by decide) (by decide) hM ⟨by decide, hM0⟩) ?_
  rintro ⟨v6, s, e, t, v⟩ ⟨okk, ⟨q1, q2, q3, q4, q5⟩, row1⟩ ⟨h1, h2⟩
  show Sf2 (if v6 = -1 then _ else _) ((if okk = 0 then _ else _ : Option _).bind K) S
  rcases h1 with ⟨h, ho, hq⟩ | ⟨hr, ht0, hv0, ho, hq, hk, hle⟩
  · have ho1 : okk = 0 := ho
    have hq1 : (q1, q2, q3, q4, q5) = (g2, g3, g1, figs g3 g4, g1) := hq
    clear ho hq h2
    cases h
    cases hq1
    rw [if_pos rfl, if_pos ho1]
    exact hJ _ _ _ _ _ _ 0 _ row1 (Or.inl ⟨rfl, rfl, rfl⟩)
  · have hr1 : 0 ≤ v6 ∧ v6 ≤ 11 := hr
    have ho1 : okk = 1 := ho
    have hk1 : TkOk x0_size s e t v := hk
    have hle1 : g2 ≤ s := hle
    have le2 : x0_end ≤ s := Int32.le_trans (Int32.le_trans le ok.1.2) hle1
    have hq1 : (q1, q2, q3, q4, q5) = (e, t, s, figs t v, m_fault) := hq
    have h21 : okk = 0 ∨ row1 = va_up row 0 v6 := h2
    clear hr ho hk hle hq h2 ht0 hv0
    have hr := hr1
    have ho := ho1
    have hk := hk1
    have hle := hle1
    have h2 := h21
    clear hr1 ho1 hk1 hle1 h21
    cases hq1
    have hv6 : ¬ v6 = -1 := by
      intro e
      rw [e] at hr
      exact absurd hr.1 (by decide)
    have hrow : row1 = va_up row 0 v6 := by
      rcases h2 with h | h
      · rw [ho] at h
        exact absurd h (by decide)
      · exact h
    rw [if_neg hv6, if_neg (by rw [ho]; decide)]
    have fin : ¬ (t = 2 ∧ v = v6) → Sf2 ((fX3_numberUnlike n (x0_bytes, x0_size, s, e, t, v) v6 11).bind (u5 fun y b c d f => J v6 b c d f y)) ((fX7_two_j43 n m1 m_shelf m_rowSort m_rowSize m_rows m_moved m_shown x0_bytes x0_size m_refused m_lines m_line m_changes m_coins m_goods m_good m_works m_work m_years m_gone m_spent m_numbers m_statements m_left m_far m_tons m_way m_steps m_met m_queue m_totals e t s (figs t v) m_fault row1).bind K) S := by
      intro hne
      unfold fX7_two_j43
      rw [Option.bind_assoc]
      refine Sf2.bind (unl2 hn hs hk (by decide) hM ⟨by decide, hM2⟩ hne) ?_
      rintro ⟨y, s', e', t', v'⟩ ⟨ok2, ⟨q1, q2, q3, q4, q5⟩, row2⟩ ⟨h1, h2⟩
      have hz : ok2 = 0 ∨ ok2 = 1 := by
        rcases h1 with h | h
        · exact Or.inl h.2.1
        · exact Or.inr h.2.2.2.1
      have ez : zb ok2 = some ok2 := if_pos hz
      show Sf2 (J v6 s' e' t' v' y) (((zb ok2).bind _).bind K) S
      rw [ez]
      refine hJ v6 s' e' t' v' y ok2 _ row2 ?_
      rcases h1 with ⟨h, ho2, hq2⟩ | ⟨hr2, ht2, hv2, ho2, hq2, hk2, hle2⟩
      · have ho2 : ok2 = 0 := ho2
        have hq2 : (q1, q2, q3, q4, q5) = (e, t, s, figs t v, s) := hq2
        cases h
        exact Or.inl ⟨rfl, ho2, hq2⟩
      · have hr2 : 0 ≤ y ∧ y ≤ 11 := hr2
        have hv2 : y = v := hv2
        have hle2 : e ≤ s' := hle2
        have hk2 : TkOk x0_size s' e' t' v' := hk2
        have ho2 : ok2 = 1 := ho2
        have hrow2 : row2 = va_up row1 1 y := by
          rcases h2 with h | h
          · have h : ok2 = 0 := h
            rw [ho2] at h
            exact absurd h (by decide)
          · exact h
        refine Or.inr ⟨?_, hr, hr2, ?_, ho2, hq2, hk2, Int32.le_trans le2 (Int32.le_trans hk.1.2 hle2), by rw [hrow2, hrow]⟩
        · intro e
          rw [e] at hr2
          exact absurd hr2.1 (by decide)
        · intro e
          exact hne ⟨ht2, by rw [← hv2, e]⟩
    show Sf2 _ ((if t = 2 then _ else _ : Option _).bind K) S
    by_cases ht : t = 2
    · rw [if_pos ht]
      have er : rd m1 row1 0 = some v6 := by
        obtain ⟨a, ea, pa⟩ := Sf.rdb (f := row1) (k := fun g => some g) (Q := fun g => g = row1 (0 : Int32).toNatClampNeg) M hM ⟨Int32.le_refl 0, hM0⟩ (fun g e => Sf.ok e)
        cases hw : rd m1 row1 0 with
        | none => rw [hw] at ea; cases ea
        | some b =>
          rw [hw] at ea
          cases ea
          rw [pa, hrow]
          rfl
      rw [er]
      show Sf2 _ ((if lg_cmp (figs t v) v6.toInt64 = 0 then _ else _ : Option _).bind K) S
      have ef : figs t v = (fg v).toInt64 := if_pos ht
      have eiff : lg_cmp (figs t v) v6.toInt64 = 0 ↔ v = v6 := by
        rw [ef, lg_eq]
        unfold fg
        by_cases hv : v = -1
        · rw [if_pos hv]
          constructor
          · intro h
            rw [← h] at hr
            exact absurd hr.2 (by decide)
          · intro h
            exact absurd (h.symm.trans hv) hv6
        · rw [if_neg hv]
      by_cases hv : v = v6
      · rw [if_pos (eiff.mpr hv)]
        have eu : fX3_numberUnlike n (x0_bytes, x0_size, s, e, t, v) v6 11 = some ((-1), s, e, t, v) := by
          unfold fX3_numberUnlike
          dsimp only [u6]
          rw [if_pos ht, if_pos hv]
        rw [eu]
        exact hJ v6 s e t v (-1) 0 _ row1 (Or.inl ⟨rfl, rfl, rfl⟩)
      · rw [if_neg (fun h => hv (eiff.mp h))]
        exact fin (fun h => hv h.2)
    · rw [if_neg ht]
      exact fin (fun h => ht h.1)
/-- what a statement comes to -/
def StR (sz e0 : Int32) (ok s e t v lc gc wc yr : Int32) (lines goods works chg coin : Nat → Int32) (ok' L : Int32) (line : Nat → Nat → Int32) (ch co : Nat → Int32) (G : Int32) (good : Nat → Nat → Int32) (W : Int32) (work : Nat → Nat → Int32) (Y at' tok from' : Int32) (fig : Int64) (flt : Int32) : Prop :=
  (ok = 0 ∧ ok' = 0 ∧ flt = s) ∨ (¬ ok = 0 ∧ ¬ ok' = 0 ∧ (at', tok, from', fig) = (e, t, s, figs t v) ∧ TkOk sz s e t v ∧ e0 ≤ s ∧ LaD lc gc wc yr lines goods works chg coin L line ch co G good W work Y)
theorem isWordS {n p : Nat} {x0_bytes : (Nat → Int32)} {x0_size : Int32} {x0_start : Int32} {x0_end : Int32} {x0_token : Int32} {x0_value : Int32} (hn : 1000000000000 ≤ n) (hs : 0 ≤ x0_size ∧ x0_size ≤ 250) (hT : TkOk x0_size x0_start x0_end x0_token x0_value) (hp : p < 10) : ∃ v, fX3_isWord n (x0_bytes, x0_size, x0_start, x0_end, x0_token, x0_value) p = some v := by
  obtain ⟨v, e, _⟩ := sX3_isWord (p1 := p) hn (show 0 ≤ x0_start ∧ x0_start ≤ 250 from ⟨hT.1.1, Int32.le_trans hT.1.2 (Int32.le_trans hT.2.1 hs.2)⟩) (show 0 ≤ x0_end ∧ x0_end ≤ 250 from ⟨Int32.le_trans hT.1.1 hT.1.2, Int32.le_trans hT.2.1 hs.2⟩) (Nat.lt_trans hp (by decide))
  exact ⟨v, e⟩

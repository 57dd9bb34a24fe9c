/-! years that go by -/
abbrev S1 : Type := Ab × (Nat → Nat → Int32)
def yearA (k : Int32) (S : S1) : S1 := if k = -1 then S else (doA S.2 k.toNatClampNeg S.1, va_up S.2 k.toNatClampNeg (va_up (S.2 k.toNatClampNeg) 4 1))
noncomputable def costA (coins : Nat → Int32) (good : Nat → Nat → Int32) (G k : Int32) (S : S1) : Int32 := (if k = -1 then 0 else S.2 k.toNatClampNeg 3) + FrA (yearA k S).1 coins good G
def SEq (W : Nat) (S S' : S1) : Prop := AbEq S.1 S'.1 ∧ ∀ k, k < W → ∀ c, c < 5 → S.2 k c = S'.2 k c
def WfS (W : Nat) (S : S1) : Prop := (0 ≤ S.1.1 ∧ S.1.1 ≤ 20) ∧ ∀ k, k < W → Wf1 S.2 S.1.1 k
theorem SEq.refl {W : Nat} (S : S1) : SEq W S S := ⟨AbEq.refl _, fun _ _ _ _ => rfl⟩
theorem SEq.symm {W : Nat} {S S' : S1} (h : SEq W S S') : SEq W S' S := ⟨h.1.symm, fun k hk c hc => (h.2 k hk c hc).symm⟩
theorem SEq.trans {W : Nat} {S S' S'' : S1} (h : SEq W S S') (h' : SEq W S' S'') : SEq W S S'' := ⟨h.1.trans h'.1, fun k hk c hc => (h.2 k hk c hc).trans (h'.2 k hk c hc)⟩
theorem WfS.congr {W : Nat} {S S' : S1} (h : WfS W S) (e : SEq W S S') : WfS W S' := by
  obtain ⟨⟨e1, _, _⟩, e2⟩ := e
  refine ⟨by rw [← e1]; exact h.1, fun k hk => ?_⟩
  have := (h.2 k hk).congr (fun c hc => e2 k hk c (by omega))
  rw [e1] at this
  exact this
def okK (W : Nat) (k : Int32) : Prop := k = -1 ∨ (0 ≤ k ∧ k.toNatClampNeg < W)
theorem yearA_congr {W : Nat} {S S' : S1} {k : Int32} (h : SEq W S S') (hw : WfS W S) (hk : okK W k) : SEq W (yearA k S) (yearA k S') := by
  unfold yearA
  by_cases e : k = -1
  · rw [if_pos e, if_pos e]
    exact h
  · rw [if_neg e, if_neg e]
    have hkW : k.toNatClampNeg < W := by
      rcases hk with hk | hk
      · exact absurd hk e
      · exact hk.2
    refine ⟨doA_congr h.1 (fun c hc => h.2 _ hkW c (by omega)) (hw.2 _ hkW) hw.1, fun j hj c hc => ?_⟩
    show va_up S.2 k.toNatClampNeg (va_up (S.2 k.toNatClampNeg) 4 1) j c = va_up S'.2 k.toNatClampNeg (va_up (S'.2 k.toNatClampNeg) 4 1) j c
    by_cases hjk : j = k.toNatClampNeg
    · rw [hjk, va_eq, va_eq]
      by_cases h4 : c = 4
      · rw [h4, va_eq, va_eq]
      · rw [va_ne _ _ h4, va_ne _ _ h4]
        exact h.2 _ hkW c hc
    · rw [va_ne _ _ hjk, va_ne _ _ hjk]
      exact h.2 j hj c hc
theorem yearA_wf {W : Nat} {S : S1} {k : Int32} (hw : WfS W S) : WfS W (yearA k S) := by
  unfold yearA
  by_cases e : k = -1
  · rw [if_pos e]
    exact hw
  · rw [if_neg e]
    have q := doA_L (work := S.2) (k := k.toNatClampNeg) hw.1
    refine ⟨q.2, fun j hj => ?_⟩
    refine ((hw.2 j hj).mono q.1).congr (fun c hc => ?_)
    show S.2 j c = va_up S.2 k.toNatClampNeg (va_up (S.2 k.toNatClampNeg) 4 1) j c
    by_cases hjk : j = k.toNatClampNeg
    · rw [← hjk, va_eq, va_ne _ _ (by omega)]
    · rw [va_ne _ _ hjk]
theorem costA_congr {W : Nat} {S S' : S1} {k G : Int32} {coins coins' : Nat → Int32} {good good' : Nat → Nat → Int32} (h : SEq W S S') (hw : WfS W S) (hk : okK W k) (hco : ∀ w, w < 3 → coins w = coins' w) (hg : ∀ g, g < G.toNatClampNeg → ∀ c, c < 3 → good g c = good' g c) : costA coins good G k S = costA coins' good' G k S' := by
  unfold costA
  rw [FrA_congr (yearA_congr h hw hk).1 hco hg]
  by_cases e : k = -1
  · rw [if_pos e, if_pos e]
  · rw [if_neg e, if_neg e]
    rcases hk with hk | hk
    · exact absurd hk e
    · rw [h.2 _ hk.2 3 (by decide)]
theorem frW_ok (w : Nat → Int32) (work : Nat → Nat → Int32) : ∀ K : Nat, K ≤ 1000 → (frW w work K).1 = -1 ∨ ((0 ≤ (frW w work K).1 ∧ (frW w work K).1.toNatClampNeg < K) ∧ work (frW w work K).1.toNatClampNeg 4 = 0)
  | 0, _ => Or.inl rfl
  | K + 1, hK => by
    have ih := frW_ok w work K (by omega)
    show (if work K 4 = 0 ∧ ¬ w K ≤ (frW w work K).2 then (Int32.ofNat K, w K) else frW w work K).1 = -1 ∨ ((0 ≤ (if work K 4 = 0 ∧ ¬ w K ≤ (frW w work K).2 then (Int32.ofNat K, w K) else frW w work K).1 ∧ (if work K 4 = 0 ∧ ¬ w K ≤ (frW w work K).2 then (Int32.ofNat K, w K) else frW w work K).1.toNatClampNeg < K + 1) ∧ work (if work K 4 = 0 ∧ ¬ w K ≤ (frW w work K).2 then (Int32.ofNat K, w K) else frW w work K).1.toNatClampNeg 4 = 0)
    by_cases h : work K 4 = 0 ∧ ¬ w K ≤ (frW w work K).2
    · rw [if_pos h]
      have ti : (Int32.ofNat K).toInt = (K : Int) := by
        rw [Int32.toInt_ofNat_of_lt (by omega)]
      have h0 : 0 ≤ Int32.ofNat K := Int32.le_iff_toInt_le.mpr (by rw [ti]; exact Int.natCast_nonneg K)
      have hn : (Int32.ofNat K).toNatClampNeg = K := by
        have := i32_cl h0
        omega
      refine Or.inr ⟨⟨h0, ?_⟩, ?_⟩
      · show (Int32.ofNat K).toNatClampNeg < K + 1
        omega
      · show work (Int32.ofNat K).toNatClampNeg 4 = 0
        rw [hn]
        exact h.1
    · rw [if_neg h]
      rcases ih with ih | ih
      · exact Or.inl ih
      · exact Or.inr ⟨⟨ih.1.1, by omega⟩, ih.2⟩
noncomputable def runA (coins : Nat → Int32) (good : Nat → Nat → Int32) (G W yr : Int32) : Nat → Int32 × S1 → Int32 × S1
  | 0, x => x
  | i + 1, x => ((runA coins good G W yr i x).1 + costA coins good G (FirA (runA coins good G W yr i x).2.1 coins good G (runA coins good G W yr i x).2.2 W yr) (runA coins good G W yr i x).2, yearA (FirA (runA coins good G W yr i x).2.1 coins good G (runA coins good G W yr i x).2.2 W yr) (runA coins good G W yr i x).2)
theorem runA_wf {coins : Nat → Int32} {good : Nat → Nat → Int32} {G W yr : Int32} {x : Int32 × S1} (h : WfS W.toNatClampNeg x.2) : ∀ i : Nat, WfS W.toNatClampNeg (runA coins good G W yr i x).2
  | 0 => h
  | i + 1 => yearA_wf (runA_wf h i)
theorem SEq.fir {S S' : S1} {coins coins' : Nat → Int32} {good good' : Nat → Nat → Int32} {G W yr : Int32} (h : SEq W.toNatClampNeg S S') (hw : WfS W.toNatClampNeg S) (hco : ∀ w, w < 3 → coins w = coins' w) (hg : ∀ g, g < G.toNatClampNeg → ∀ c, c < 3 → good g c = good' g c) : FirA S.1 coins good G S.2 W yr = FirA S'.1 coins' good' G S'.2 W yr := FirA_congr h.1 hw.1 hco hg h.2 hw.2
theorem FirA_ok {A : Ab} {coins : Nat → Int32} {good : Nat → Nat → Int32} {G W yr : Int32} {work : Nat → Nat → Int32} (hW : 0 ≤ W ∧ W ≤ 7) : okK W.toNatClampNeg (FirA A coins good G work W yr) := by
  have hK : W.toNatClampNeg ≤ 7 := nlt (M := 7) (N := 7) rfl hW
  rcases frW_ok (WoA A coins good G work yr) work W.toNatClampNeg (by omega) with h | h
  · exact Or.inl h
  · exact Or.inr h.1
/-- the reference's year -/
theorem goesR {n : Nat} {x0_shelf : (Nat → Int32)} {x0_rowSort : (Nat → Int32)} {x0_rowSize : (Nat → Int32)} {x0_rows : (Nat → Nat → Int64)} {x0_moved : (Nat → Int64)} {x0_shown : (Nat → Int32)} {x0_tape : (Nat → Int32)} {x0_tapeSize : Int32} {x0_refused : (Nat → Int32)} {x0_lines : Int32} {x0_line : (Nat → Nat → Int32)} {x0_changes : (Nat → Int32)} {x0_coins : (Nat → Int32)} {x0_goods : Int32} {x0_good : (Nat → Nat → Int32)} {x0_works : Int32} {x0_work : (Nat → Nat → Int32)} {x0_years : Int32} {x0_gone : Int32} {x0_spent : Int32} {x0_at : Int32} {x0_token : Int32} {x0_from : Int32} {x0_figures : Int64} {x0_fault : Int32} {x0_numbers : (Nat → Int32)} {x0_statements : Int32} {x0_left : (Nat → Int32)} {x0_far : (Nat → Int32)} {x0_tons : Int32} {x0_way : (Nat → Int32)} {x0_steps : Int32} {x0_met : Int64} {x0_queue : (Nat → Int32)} {x0_totals : (Nat → Int32)} {p1 : Int32} (hn : 1000000000000 ≤ n) (h_x0_shelf : (AI 0 2 x0_shelf)) (h_x0_rowSize : (AI 0 40 x0_rowSize)) (h_x0_tapeSize : (0 ≤ x0_tapeSize ∧ x0_tapeSize ≤ 250)) (h_x0_lines : (0 ≤ x0_lines ∧ x0_lines ≤ 20)) (h_x0_line : (LnM x0_line)) (h_x0_changes : (AI 0 99 x0_changes)) (h_x0_coins : (AI 0 9 x0_coins)) (h_x0_goods : (0 ≤ x0_goods ∧ x0_goods ≤ 8)) (h_x0_good : (GdM x0_good)) (h_x0_works : (0 ≤ x0_works ∧ x0_works ≤ 7)) (h_x0_work : (WkM x0_work)) (h_x0_years : (1 ≤ x0_years ∧ x0_years ≤ 30)) (h_x0_from : (0 ≤ x0_from ∧ x0_from ≤ 250)) (h_x0_far : (AI 0 1000000000 x0_far)) (h_x0_way : (AI 0 22 x0_way)) (h_x0_steps : (0 ≤ x0_steps ∧ x0_steps ≤ 37)) (h_x0_queue : (AI 0 35 x0_queue)) (hp : okK x0_works.toNatClampNeg p1) : Sf (fX7_goes n (x0_shelf, x0_rowSort, x0_rowSize, x0_rows, x0_moved, x0_shown, x0_tape, x0_tapeSize, x0_refused, x0_lines, x0_line, x0_changes, x0_coins, x0_goods, x0_good, x0_works, x0_work, x0_years, x0_gone, x0_spent, x0_at, x0_token, x0_from, x0_figures, x0_fault, x0_numbers, x0_statements, x0_left, x0_far, x0_tons, x0_way, x0_steps, x0_met, x0_queue, x0_totals) p1) (fun r => r.1 = costA x0_coins x0_good x0_goods p1 ((x0_lines, x0_line, x0_changes), x0_work) ∧ SEq x0_works.toNatClampNeg ((r.2.1, r.2.2.1, r.2.2.2.1), r.2.2.2.2.1) (yearA p1 ((x0_lines, x0_line, x0_changes), x0_work))) := by
  have h7 : x0_works.toNatClampNeg ≤ 7 := nlt (M := 7) (N := 7) rfl h_x0_works
  unfold fX7_goes
  dsimp only [u35]
  refine Sf.ite (fun hc => ?_) (fun hc => ?_)
  · unfold fX7_goes_j17
    rw [if_pos hc]
    unfold fX7_goes_j28
    refine Sf.bind (freeR hn h_x0_shelf h_x0_rowSize h_x0_tapeSize h_x0_lines h_x0_line h_x0_changes h_x0_coins h_x0_goods h_x0_good h_x0_works h_x0_work h_x0_years h_x0_from h_x0_far h_x0_way h_x0_steps h_x0_queue) ?_
    rintro ⟨v6, g7, g8, g9⟩ e6
    have e6 : v6 = FrA (x0_lines, x0_line, x0_changes) x0_coins x0_good x0_goods := e6
    have ey : yearA p1 ((x0_lines, x0_line, x0_changes), x0_work) = ((x0_lines, x0_line, x0_changes), x0_work) := if_pos hc
    refine Sf.ok ⟨?_, ?_⟩
    · show 0 + v6 = _
      unfold costA
      rw [if_pos hc, ey, e6]
    · rw [ey]
      exact SEq.refl _
  · have hp2 : 0 ≤ p1 ∧ p1.toNatClampNeg < x0_works.toNatClampNeg := by
      rcases hp with hp | hp
      · exact absurd hp hc
      · exact hp
    have hp6 : 0 ≤ p1 ∧ p1 ≤ 6 := by
      refine ⟨hp2.1, Int32.le_iff_toInt_le.mpr ?_⟩
      have a := i32_cl hp2.1
      have e : (6 : Int32).toInt = 6 := by decide
      omega
    refine Sf.ckb 7 rfl ⟨hp6.1, Int32.lt_of_le_of_lt hp6.2 (by decide)⟩ (fun q16 e16 _ => ?_)
    refine Sf.rdl 3 rfl rfl (fun v17 e17 => ?_)
    rw [e16] at e17
    unfold fX7_goes_j17
    rw [if_neg hc]
    refine Sf.bind (Sf.and (sX7_does h_x0_shelf h_x0_rowSize h_x0_tapeSize h_x0_lines h_x0_line h_x0_changes h_x0_coins h_x0_goods h_x0_good h_x0_works h_x0_work h_x0_years h_x0_from h_x0_far h_x0_way h_x0_steps h_x0_queue hp6) (doesR h_x0_lines h_x0_work hp6)) ?_
    rintro ⟨g11, g12, g13, g14⟩ ⟨⟨d1, d2, d3, d4, _⟩, e11, e14⟩
    have e14 : g14 = _ := e14
    have e11 : AbEq (g11, g12, g13) _ := e11
    try dsimp only [u4]
    unfold fX7_goes_j28
    refine Sf.bind (freeR hn h_x0_shelf h_x0_rowSize h_x0_tapeSize d1 d2 d3 h_x0_coins h_x0_goods h_x0_good h_x0_works d4 h_x0_years h_x0_from h_x0_far h_x0_way h_x0_steps h_x0_queue) ?_
    rintro ⟨v6, g7, g8, g9⟩ e6
    have e6 : v6 = FrA (g11, g12, g13) x0_coins x0_good x0_goods := e6
    have ey : yearA p1 ((x0_lines, x0_line, x0_changes), x0_work) = (doA x0_work p1.toNatClampNeg (x0_lines, x0_line, x0_changes), va_up x0_work p1.toNatClampNeg (va_up (x0_work p1.toNatClampNeg) 4 1)) := if_neg hc
    refine Sf.ok ⟨?_, ?_⟩
    · show v17 + v6 = _
      unfold costA
      rw [if_neg hc, ey, e6, e17, FrA_congr e11 (fun _ _ => rfl) (fun _ _ _ _ => rfl)]
    · rw [ey]
      refine ⟨e11, fun k _ c _ => ?_⟩
      show g14 k c = _
      rw [e14]

theorem far_init {p1 : Int32} (hp : 0 ≤ p1 ∧ p1 ≤ 11) : ∀ (n : Nat) (z : Int32) (f : Nat → Int32), 0 ≤ z → z ≤ 36 → AI 0 1000000000 f → (∀ u : Nat, u < z.toNatClampNeg → f u = if u / 3 = p1.toNatClampNeg then 0 else 1000000000) → muUp z < n → Sf (lp (u2 (fX7_findFar_s7 p1)) n (z, f)) (fun r => AI 0 1000000000 r ∧ ∀ u : Nat, u < 36 → r u = if u / 3 = p1.toNatClampNeg then 0 else 1000000000) := by
  intro n z f h0 h1 hA hf hn
  refine Sf.loop2 (fun (z : Int32) (f : Nat → Int32) => (0 ≤ z ∧ z ≤ 36) ∧ AI 0 1000000000 f ∧ ∀ u : Nat, u < z.toNatClampNeg → f u = if u / 3 = p1.toNatClampNeg then 0 else 1000000000) (fun (z : Int32) (f : Nat → Int32) => muUp z) (fun z f hh => ?_) ⟨⟨h0, h1⟩, hA, hf⟩ hn
  obtain ⟨⟨h0, h1⟩, hA, hf⟩ := hh
  unfold fX7_findFar_s7
  refine Sf.ite (fun h => Sf.inr ⟨hA, fun u hu => hf u ?_⟩) (fun h => ?_)
  · have a := Int32.le_iff_toInt_le.mp h
    have b := i32_cl h0
    have z3 : (36 : Int32).toInt = 36 := by decide
    rw [z3] at a
    omega
  obtain ⟨h2, n2, hlt⟩ := up1 h0 (by decide) h
  have h35 : 0 ≤ z ∧ z ≤ 35 := by grind
  have dn := dv_n h35
  have up : ∀ (x : Int32) (g : Nat → Int32), (0 ≤ x ∧ x ≤ 1000000000) → g = va_up f z.toNatClampNeg x → x = (if z.toNatClampNeg / 3 = p1.toNatClampNeg then 0 else 1000000000) → Sf (some (.inl (z + 1, g) : (Int32 × (Nat → Int32)) ⊕ (Nat → Int32))) (LQ (u2 (fun (z : Int32) (f : Nat → Int32) => (0 ≤ z ∧ z ≤ 36) ∧ AI 0 1000000000 f ∧ ∀ u : Nat, u < z.toNatClampNeg → f u = if u / 3 = p1.toNatClampNeg then 0 else 1000000000)) (u2 (fun (z : Int32) (f : Nat → Int32) => muUp z)) (muUp z) (fun r => AI 0 1000000000 r ∧ ∀ u : Nat, u < 36 → r u = if u / 3 = p1.toNatClampNeg then 0 else 1000000000)) := by
    intro x g hx eg ex
    subst eg
    refine Sf.inl ⟨⟨h2, by grind⟩, hA.up hx, fun u hu => ?_⟩ (muUp_lt h)
    have hu : u < (z + 1).toNatClampNeg := hu
    rw [n2] at hu
    by_cases hk : u = z.toNatClampNeg
    · subst hk
      show va_up f z.toNatClampNeg x z.toNatClampNeg = _
      rw [va_up_self]; exact ex
    · show va_up f z.toNatClampNeg x u = _
      rw [va_up_ne _ _ hk]; exact hf u (by omega)
  have i36 : 0 ≤ z ∧ z < 36 := ⟨h0, hlt⟩
  refine Sf.ite (fun he => ?_) (fun he => ?_)
  · exact Sf.wrb 36 rfl i36 (fun g eg => up 0 g (by decide) eg (by rw [if_pos]; rw [← dn, he]))
  · refine Sf.wrb 36 rfl i36 (fun g eg => up 1000000000 g (by decide) eg (by
      rw [if_neg]
      intro hx
      apply he
      have e1 : z / 3 = Int32.ofNat (z / 3).toNatClampNeg := (Int32.ofNat_toNatClampNeg _ (dv3 h35).1).symm
      have e2 : p1 = Int32.ofNat p1.toNatClampNeg := (Int32.ofNat_toNatClampNeg _ hp.1).symm
      rw [e1, e2, dn, hx]))
theorem farS {n : Nat} {x0_shelf x0_rowSort x0_rowSize : (Nat → Int32)} {x0_rows : (Nat → Nat → Int64)} {x0_moved : (Nat → Int64)} {x0_shown x0_tape : (Nat → Int32)} {x0_tapeSize : Int32} {x0_refused : (Nat → Int32)} {x0_lines : Int32} {x0_line : (Nat → Nat → Int32)} {x0_changes x0_coins : (Nat → Int32)} {x0_goods : Int32} {x0_good : (Nat → Nat → Int32)} {x0_works : Int32} {x0_work : (Nat → Nat → Int32)} {x0_years x0_gone x0_spent x0_at x0_token x0_from : Int32} {x0_figures : Int64} {x0_fault : Int32} {x0_numbers : (Nat → Int32)} {x0_statements : Int32} {x0_left x0_far : (Nat → Int32)} {x0_tons : Int32} {x0_way : (Nat → Int32)} {x0_steps : Int32} {x0_met : Int64} {x0_queue x0_totals : (Nat → Int32)} {p1 p2 : Int32} (hn : 1000000000000 ≤ n) (h_x0_shelf : (AI 0 2 x0_shelf)) (h_x0_rowSize : (AI 0 40 x0_rowSize)) (h_x0_tapeSize : (0 ≤ x0_tapeSize ∧ x0_tapeSize ≤ 250)) (h_x0_lines : (0 ≤ x0_lines ∧ x0_lines ≤ 20)) (h_x0_line : (LnM x0_line)) (h_x0_changes : (AI 0 99 x0_changes)) (h_x0_coins : (AI 0 9 x0_coins)) (h_x0_goods : (0 ≤ x0_goods ∧ x0_goods ≤ 8)) (h_x0_good : (GdM x0_good)) (h_x0_works : (0 ≤ x0_works ∧ x0_works ≤ 7)) (h_x0_work : (WkM x0_work)) (h_x0_years : (1 ≤ x0_years ∧ x0_years ≤ 30)) (h_x0_from : (0 ≤ x0_from ∧ x0_from ≤ 250)) (h_x0_far : (AI 0 1000000000 x0_far)) (h_x0_way : (AI 0 22 x0_way)) (h_x0_steps : (0 ≤ x0_steps ∧ x0_steps ≤ 37)) (h_x0_queue : (AI 0 35 x0_queue)) (h_p1 : (0 ≤ p1 ∧ p1 ≤ 11)) : Sf (fX7_findFar n (x0_shelf, x0_rowSort, x0_rowSize, x0_rows, x0_moved, x0_shown, x0_tape, x0_tapeSize, x0_refused, x0_lines, x0_line, x0_changes, x0_coins, x0_goods, x0_good, x0_works, x0_work, x0_years, x0_gone, x0_spent, x0_at, x0_token, x0_from, x0_figures, x0_fault, x0_numbers, x0_statements, x0_left, x0_far, x0_tons, x0_way, x0_steps, x0_met, x0_queue, x0_totals) p1 p2) (fun r => (AI 0 1000000000 r.1) ∧ (At (Ed x0_lines.toNatClampNeg x0_line x0_changes x0_coins x0_left p2) (fun u => u / 3 = p1.toNatClampNeg) r.1 ∧ ((∀ l : Nat, l < x0_lines.toNatClampNeg → ∀ w : Nat, w < 3 → OKl x0_line x0_coins x0_left p2 r.1 l w) ∧ (∀ m : Nat, m < 36 → ∀ w : Nat, w < 3 → OKc x0_changes r.1 m w)) ∧ r.2 = p2)) := by
  unfold fX7_findFar
  dsimp only [u35]
  refine Sf.bind (far_init h_p1 n 0 x0_far (by decide) (by decide) h_x0_far (fun u hu => absurd hu (Nat.not_lt_zero _)) (muUp_n hn)) (fun w5 hw5 => ?_)
  obtain ⟨a5, i5⟩ := hw5
  have z0 : (0 : Int32).toInt = 0 := by decide
  have zF : (1000000000 : Int32).toInt = 1000000000 := by decide
  have at5 : At (Ed x0_lines.toNatClampNeg x0_line x0_changes x0_coins x0_left p2) (fun u => u / 3 = p1.toNatClampNeg) w5 := by
    refine ⟨fun u hu hg => by rw [i5 u hu, if_pos hg], ?_⟩
    intro u hu hl
    by_cases hg : u / 3 = p1.toNatClampNeg
    · refine ⟨0, hg, ?_⟩
      rw [i5 u hu, if_pos hg, z0]
    · rw [i5 u hu, if_neg hg, zF] at hl
      omega
  have mu5 : faMu 1 w5 < n := by
    have := S36_n a5
    unfold faMu
    rw [if_neg (by decide)]
    omega
  refine Sf.bind (Sf.loop2 (Q := fun e => AI 0 1000000000 e ∧ At (Ed x0_lines.toNatClampNeg x0_line x0_changes x0_coins x0_left p2) (fun u => u / 3 = p1.toNatClampNeg) e ∧ (∀ l : Nat, l < x0_lines.toNatClampNeg → ∀ w : Nat, w < 3 → OKl x0_line x0_coins x0_left p2 e l w) ∧ (∀ m : Nat, m < 36 → ∀ w : Nat, w < 3 → OKc x0_changes e m w)) (fun (z7 : Int32) (z8 : Nat → Int32) => AI 0 1000000000 z8 ∧ At (Ed x0_lines.toNatClampNeg x0_line x0_changes x0_coins x0_left p2) (fun u => u / 3 = p1.toNatClampNeg) z8 ∧ (z7 = 0 → (∀ l : Nat, l < x0_lines.toNatClampNeg → ∀ w : Nat, w < 3 → OKl x0_line x0_coins x0_left p2 z8 l w) ∧ (∀ m : Nat, m < 36 → ∀ w : Nat, w < 3 → OKc x0_changes z8 m w))) (fun (z7 : Int32) (z8 : Nat → Int32) => faMu z7 z8) (fun z7 z8 hh => T_s40 hn h_x0_lines h_x0_line h_x0_coins h_x0_changes hh) (n := n) (s := (1, w5)) ⟨a5, at5, fun h => absurd h (show ¬ (1 : Int32) = 0 by decide)⟩ mu5) (fun w10 hw => ?_)
  obtain ⟨hA, hAt, hF⟩ := hw
  exact Sf.ok ⟨hA, hAt, hF, rfl⟩
theorem sX7_findFar {n : Nat} {x0_shelf x0_rowSort x0_rowSize : (Nat → Int32)} {x0_rows : (Nat → Nat → Int64)} {x0_moved : (Nat → Int64)} {x0_shown x0_tape : (Nat → Int32)} {x0_tapeSize : Int32} {x0_refused : (Nat → Int32)} {x0_lines : Int32} {x0_line : (Nat → Nat → Int32)} {x0_changes x0_coins : (Nat → Int32)} {x0_goods : Int32} {x0_good : (Nat → Nat → Int32)} {x0_works : Int32} {x0_work : (Nat → Nat → Int32)} {x0_years x0_gone x0_spent x0_at x0_token x0_from : Int32} {x0_figures : Int64} {x0_fault : Int32} {x0_numbers : (Nat → Int32)} {x0_statements : Int32} {x0_left x0_far : (Nat → Int32)} {x0_tons : Int32} {x0_way : (Nat → Int32)} {x0_steps : Int32} {x0_met : Int64} {x0_queue x0_totals : (Nat → Int32)} {p1 p2 : Int32} (hn : 1000000000000 ≤ n) (h_x0_shelf : (AI 0 2 x0_shelf)) (h_x0_rowSize : (AI 0 40 x0_rowSize)) (h_x0_tapeSize : (0 ≤ x0_tapeSize ∧ x0_tapeSize ≤ 250)) (h_x0_lines : (0 ≤ x0_lines ∧ x0_lines ≤ 20)) (h_x0_line : (LnM x0_line)) (h_x0_changes : (AI 0 99 x0_changes)) (h_x0_coins : (AI 0 9 x0_coins)) (h_x0_goods : (0 ≤ x0_goods ∧ x0_goods ≤ 8)) (h_x0_good : (GdM x0_good)) (h_x0_works : (0 ≤ x0_works ∧ x0_works ≤ 7)) (h_x0_work : (WkM x0_work)) (h_x0_years : (1 ≤ x0_years ∧ x0_years ≤ 30)) (h_x0_from : (0 ≤ x0_from ∧ x0_from ≤ 250)) (h_x0_far : (AI 0 1000000000 x0_far)) (h_x0_way : (AI 0 22 x0_way)) (h_x0_steps : (0 ≤ x0_steps ∧ x0_steps ≤ 37)) (h_x0_queue : (AI 0 35 x0_queue)) (h_p1 : (0 ≤ p1 ∧ p1 ≤ 11)) : Sf (fX7_findFar n (x0_shelf, x0_rowSort, x0_rowSize, x0_rows, x0_moved, x0_shown, x0_tape, x0_tapeSize, x0_refused, x0_lines, x0_line, x0_changes, x0_coins, x0_goods, x0_good, x0_works, x0_work, x0_years, x0_gone, x0_spent, x0_at, x0_token, x0_from, x0_figures, x0_fault, x0_numbers, x0_statements, x0_left, x0_far, x0_tons, x0_way, x0_steps, x0_met, x0_queue, x0_totals) p1 p2) (fun r => (AI 0 1000000000 r.1)) := (farS hn h_x0_shelf h_x0_rowSize h_x0_tapeSize h_x0_lines h_x0_line h_x0_changes h_x0_coins h_x0_goods h_x0_good h_x0_works h_x0_work h_x0_years h_x0_from h_x0_far h_x0_way h_x0_steps h_x0_queue h_p1).mono (fun _ h => h.1)

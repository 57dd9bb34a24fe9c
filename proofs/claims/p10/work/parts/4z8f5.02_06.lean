theorem T_s40 {n : Nat} {G : Nat → Prop} {p2 : Int32} {x0_shelf x0_rowSort x0_rowSize : (Nat → Int32)} {x0_rows : (Nat → Nat → Int64)} {x0_moved : (Nat → Int64)} {x0_shown x0_tape : (Nat → Int32)} {x0_tapeSize : Int32} {x0_refused : (Nat → Int32)} {x0_lines : Int32} {x0_line : (Nat → Nat → Int32)} {x0_changes x0_coins : (Nat → Int32)} {x0_goods : Int32} {x0_good : (Nat → Nat → Int32)} {x0_works : Int32} {x0_work : (Nat → Nat → Int32)} {x0_years x0_gone x0_spent x0_at x0_token x0_from : Int32} {x0_figures : Int64} {x0_fault : Int32} {x0_numbers : (Nat → Int32)} {x0_statements : Int32} {x0_left x0_way : (Nat → Int32)} {x0_steps : Int32} {x0_met : Int64} {x0_queue x0_totals : (Nat → Int32)} {z7 : Int32} {z8 : (Nat → Int32)} (hn : 1000000000000 ≤ n) (h_lines : 0 ≤ x0_lines ∧ x0_lines ≤ 20) (h_x0_line : LnM x0_line) (h_coins : AI 0 9 x0_coins) (h_ch : AI 0 99 x0_changes) (hI : AI 0 1000000000 z8 ∧ At (Ed x0_lines.toNatClampNeg x0_line x0_changes x0_coins x0_left p2) G z8 ∧ (z7 = 0 → (∀ l : Nat, l < x0_lines.toNatClampNeg → ∀ w : Nat, w < 3 → OKl x0_line x0_coins x0_left p2 z8 l w) ∧ (∀ m : Nat, m < 36 → ∀ w : Nat, w < 3 → OKc x0_changes z8 m w))) :
    Sf (fX7_findFar_s40 n p2 x0_shelf x0_rowSort x0_rowSize x0_rows x0_moved x0_shown x0_tape x0_tapeSize x0_refused x0_lines x0_line x0_changes x0_coins x0_goods x0_good x0_works x0_work x0_years x0_gone x0_spent x0_at x0_token x0_from x0_figures x0_fault x0_numbers x0_statements x0_left x0_way x0_steps x0_met x0_queue x0_totals z7 z8) (LQ (u2 (fun (z7 : Int32) (z8 : Nat → Int32) => AI 0 1000000000 z8 ∧ At (Ed x0_lines.toNatClampNeg x0_line x0_changes x0_coins x0_left p2) G z8 ∧ (z7 = 0 → (∀ l : Nat, l < x0_lines.toNatClampNeg → ∀ w : Nat, w < 3 → OKl x0_line x0_coins x0_left p2 z8 l w) ∧ (∀ m : Nat, m < 36 → ∀ w : Nat, w < 3 → OKc x0_changes z8 m w)))) (u2 (fun (z7 : Int32) (z8 : Nat → Int32) => faMu z7 z8)) (faMu z7 z8) (fun e => AI 0 1000000000 e ∧ At (Ed x0_lines.toNatClampNeg x0_line x0_changes x0_coins x0_left p2) G e ∧ (∀ l : Nat, l < x0_lines.toNatClampNeg → ∀ w : Nat, w < 3 → OKl x0_line x0_coins x0_left p2 e l w) ∧ (∀ m : Nat, m < 36 → ∀ w : Nat, w < 3 → OKc x0_changes e m w))) := by
  unfold fX7_findFar_s40
  obtain ⟨hA, hAt, hK⟩ := hI
  refine Sf.ite (fun h => Sf.inr ⟨hA, hAt, hK h⟩) (fun h => ?_)
  have hD : ∀ p w w' : Nat, p < 12 → w < 3 → w' < 3 → (Ed x0_lines.toNatClampNeg x0_line x0_changes x0_coins x0_left p2) (3 * p + w) (3 * p + w') (x0_changes p).toInt := fun p w w' h1 h2 h3 => Or.inr ⟨p, w, w', h1, h2, h3, rfl, rfl, rfl⟩
  refine Sf.bind (Sf.loop3 (Q := fun e => Jf (Ed x0_lines.toNatClampNeg x0_line x0_changes x0_coins x0_left p2) G z8 e.1 e.2 ∧ (e.1 = 0 → ∀ l : Nat, l < x0_lines.toNatClampNeg → ∀ w : Nat, w < 3 → OKl x0_line x0_coins x0_left p2 z8 l w)) (fun (z12 : Int32) (z13 : Int32) (z14 : Nat → Int32) => Jf (Ed x0_lines.toNatClampNeg x0_line x0_changes x0_coins x0_left p2) G z8 z12 z14 ∧ 0 ≤ z13 ∧ (z12 = 0 → ∀ l : Nat, l < z13.toNatClampNeg → ∀ w : Nat, w < 3 → OKl x0_line x0_coins x0_left p2 z8 l w)) (fun (z12 : Int32) (z13 : Int32) (z14 : Nat → Int32) => muUp z13) (fun z12 z13 z14 hh => T_s49 hn h_lines h_x0_line h_coins hh) (n := n) (s := (0, 0, z8)) ⟨⟨hA, hAt, Or.inl ⟨rfl, rfl⟩⟩, Int32.le_refl _, fun _ l hl => absurd hl (Nat.not_lt_zero _)⟩ (muUp_n hn)) ?_
  rintro ⟨w16, w17⟩ ⟨j, k⟩
  refine Sf.bind (Sf.loop3 (Q := fun e => Jf (Ed x0_lines.toNatClampNeg x0_line x0_changes x0_coins x0_left p2) G z8 e.1 e.2 ∧ (e.1 = 0 → (∀ l : Nat, l < x0_lines.toNatClampNeg → ∀ w : Nat, w < 3 → OKl x0_line x0_coins x0_left p2 z8 l w) ∧ ∀ m : Nat, m < 36 → ∀ w : Nat, w < 3 → OKc x0_changes z8 m w)) (fun (z19 : Int32) (z20 : Int32) (z21 : Nat → Int32) => Jf (Ed x0_lines.toNatClampNeg x0_line x0_changes x0_coins x0_left p2) G z8 z19 z21 ∧ 0 ≤ z20 ∧ (z19 = 0 → (∀ l : Nat, l < x0_lines.toNatClampNeg → ∀ w : Nat, w < 3 → OKl x0_line x0_coins x0_left p2 z8 l w) ∧ ∀ m : Nat, m < z20.toNatClampNeg → ∀ w : Nat, w < 3 → OKc x0_changes z8 m w)) (fun (z19 : Int32) (z20 : Int32) (z21 : Nat → Int32) => muUp z20) (fun z19 z20 z21 hh => T_s222 hn hD h_ch hh) (n := n) (s := (w16, 0, w17)) ⟨j, Int32.le_refl _, fun h0 => ⟨k h0, fun m hm => absurd hm (Nat.not_lt_zero _)⟩⟩ (muUp_n hn)) ?_
  rintro ⟨w23, w24⟩ ⟨j2, k2⟩
  refine Sf.inl ⟨j2.1, j2.2.1, fun h0 => ?_⟩ ?_
  · have hg : w24 = z8 := by
      rcases j2.2.2 with jj | jj
      · exact jj.2
      · rw [h0] at jj; exact absurd jj.1 (by decide)
    rw [hg]
    exact k2 h0
  · show faMu w23 w24 < faMu z7 z8
    unfold faMu
    rw [if_neg h]
    rcases j2.2.2 with ⟨ja, jb⟩ | ⟨ja, jb⟩
    · have ja : w23 = 0 := ja
      have jb : w24 = z8 := jb
      rw [if_pos ja, jb]; omega
    · have ja : w23 = 1 := ja
      have jb : S36 w24 < S36 z8 := jb
      rw [if_neg (by rw [ja]; decide)]; omega

theorem BQ.none {E : Nat → Nat → Prop} {G M : Nat → Prop} {nn m : Nat} {seen : Int64} {q : Nat → Int32} (hE : ∀ u v, E u v → v < 36) (h : BQ E M nn seen m q) (hP : PR E G seen m q) : ¬ ∃ k, Pk E G M k nn := by
  rintro ⟨k, hk⟩
  obtain ⟨hA, hc, hn0, h2, h3, h4⟩ := h
  refine Pk.closed (C := fun u => u < 36 ∧ ∃ j, j < m ∧ (q j).toNatClampNeg = u) ?_ ?_ k nn ?_ hk
  · rintro u ⟨_, j, hj, e⟩
    rw [← e]
    exact (hP j hj).1
  · rintro u v ⟨_, j, hj, e1⟩ e
    have hv := hE u v e
    rw [← e1] at e
    rcases h3 v hv ((hP j hj).2 v hv e) with hm | ⟨j', hj', e'⟩
    · exact Or.inl hm
    · exact Or.inr ⟨hv, j', hj', e'⟩
  · refine ⟨hn0.2.1, ?_⟩
    rcases h3 nn hn0.2.1 hn0.1 with hm | hj
    · exact absurd hm hn0.2.2
    · exact hj
theorem BQ.goal {E : Nat → Nat → Prop} {G M : Nat → Prop} {nn m i : Nat} {seen : Int64} {q : Nat → Int32} (h : BQ E M nn seen m q) (hi : i < m) (hG : G (q i).toNatClampNeg) : ∃ k, Pk E G M k nn := by
  obtain ⟨k, hk⟩ := (h.2.2.2.1 i hi).2
  have nm : ¬ M (q i).toNatClampNeg := by
    cases k with
    | zero => obtain ⟨ea, eb⟩ := hk; rw [ea]; exact eb
    | succ k => exact hk.1
  exact Rk.way (G := G) k _ 0 hk ⟨nm, hG⟩
theorem EP.lt {L : Nat} {line : Nat → Nat → Int32} {changes coins left far : Nat → Int32} {tons : Int32} (u v : Nat) (h : EP L line changes coins left far tons u v) : v < 36 := h.1
theorem T_s37 {n : Nat} {M : Nat → Prop} {nn : Nat} {p2 : Int32} {x0_shelf x0_rowSort x0_rowSize : (Nat → Int32)} {x0_rows : (Nat → Nat → Int64)} {x0_moved : (Nat → Int64)} {x0_shown x0_tape : (Nat → Int32)} {x0_tapeSize : Int32} {x0_refused : (Nat → Int32)} {x0_lines : Int32} {x0_line : (Nat → Nat → Int32)} {x0_changes x0_coins : (Nat → Int32)} {x0_goods : Int32} {x0_good : (Nat → Nat → Int32)} {x0_works : Int32} {x0_work : (Nat → Nat → Int32)} {x0_years x0_gone x0_spent x0_at x0_token x0_from : Int32} {x0_figures : Int64} {x0_fault : Int32} {x0_numbers : (Nat → Int32)} {x0_statements : Int32} {x0_left x0_far : (Nat → Int32)} {x0_tons : Int32} {x0_way : (Nat → Int32)} {x0_steps : Int32} {x0_met : Int64} {x0_totals : (Nat → Int32)} {z4 : Int64} {z5 z6 : Int32} {z7 : (Nat → Int32)} (hn : 1000000000000 ≤ n) (h_x0_shelf : (AI 0 2 x0_shelf)) (h_x0_rowSize : (AI 0 40 x0_rowSize)) (h_x0_tapeSize : (0 ≤ x0_tapeSize ∧ x0_tapeSize ≤ 250)) (h_x0_lines : (0 ≤ x0_lines ∧ x0_lines ≤ 20)) (h_x0_line : (LnM x0_line)) (h_x0_changes : (AI 0 99 x0_changes)) (h_x0_coins : (AI 0 9 x0_coins)) (h_x0_goods : (0 ≤ x0_goods ∧ x0_goods ≤ 8)) (h_x0_good : (GdM x0_good)) (h_x0_works : (0 ≤ x0_works ∧ x0_works ≤ 7)) (h_x0_work : (WkM x0_work)) (h_x0_years : (1 ≤ x0_years ∧ x0_years ≤ 30)) (h_x0_from : (0 ≤ x0_from ∧ x0_from ≤ 250)) (h_x0_far : (AI 0 1000000000 x0_far)) (h_x0_way : (AI 0 22 x0_way)) (h_x0_steps : (0 ≤ x0_steps ∧ x0_steps ≤ 37)) (hp2 : 0 ≤ p2 ∧ p2 ≤ 11) (hI : BQ (EP x0_lines.toNatClampNeg x0_line x0_changes x0_coins x0_left x0_far x0_tons) M nn z4 z5.toNatClampNeg z7 ∧ (0 ≤ z5 ∧ z5 ≤ 36) ∧ (0 ≤ z6 ∧ z6 ≤ z5) ∧ PR (EP x0_lines.toNatClampNeg x0_line x0_changes x0_coins x0_left x0_far x0_tons) (fun u => u / 3 = p2.toNatClampNeg) z4 z6.toNatClampNeg z7) :
    Sf (fX7_canEnd_s37 n p2 x0_shelf x0_rowSort x0_rowSize x0_rows x0_moved x0_shown x0_tape x0_tapeSize x0_refused x0_lines x0_line x0_changes x0_coins x0_goods x0_good x0_works x0_work x0_years x0_gone x0_spent x0_at x0_token x0_from x0_figures x0_fault x0_numbers x0_statements x0_left x0_far x0_tons x0_way x0_steps x0_met x0_totals z4 z5 z6 z7) (LQ (u4 (fun (z4 : Int64) (z5 z6 : Int32) (z7 : Nat → Int32) => BQ (EP x0_lines.toNatClampNeg x0_line x0_changes x0_coins x0_left x0_far x0_tons) M nn z4 z5.toNatClampNeg z7 ∧ (0 ≤ z5 ∧ z5 ≤ 36) ∧ (0 ≤ z6 ∧ z6 ≤ z5) ∧ PR (EP x0_lines.toNatClampNeg x0_line x0_changes x0_coins x0_left x0_far x0_tons) (fun u => u / 3 = p2.toNatClampNeg) z4 z6.toNatClampNeg z7)) (u4 (fun (z4 : Int64) (z5 z6 : Int32) (z7 : Nat → Int32) => muUp z6)) (muUp z6) (Sum.elim (fun a => AI 0 35 a ∧ ∃ k, Pk (EP x0_lines.toNatClampNeg x0_line x0_changes x0_coins x0_left x0_far x0_tons) (fun u => u / 3 = p2.toNatClampNeg) M k nn) (fun b => AI 0 35 b ∧ ¬ ∃ k, Pk (EP x0_lines.toNatClampNeg x0_line x0_changes x0_coins x0_left x0_far x0_tons) (fun u => u / 3 = p2.toNatClampNeg) M k nn))) := by
  unfold fX7_canEnd_s37
  obtain ⟨hB, h5, h6, hP⟩ := hI
  refine Sf.ite (fun h => ?_) (fun h => ?_)
  · refine Sf.inr (show AI 0 35 z7 ∧ ¬ ∃ k, Pk (EP x0_lines.toNatClampNeg x0_line x0_changes x0_coins x0_left x0_far x0_tons) (fun u => u / 3 = p2.toNatClampNeg) M k nn from ⟨hB.1, ?_⟩)
    have a := Int32.le_iff_toInt_le.mp h
    have b := i32_cl h5.1
    have c := i32_cl h6.1
    have d := Int32.le_iff_toInt_le.mp h6.2
    have e : z6.toNatClampNeg = z5.toNatClampNeg := by omega
    rw [e] at hP
    exact BQ.none EP.lt hB hP
  have hlt : z6 < z5 := Int32.not_le.mp h
  have i6 : 0 ≤ z6 ∧ z6 < 36 := ⟨h6.1, Int32.lt_of_lt_of_le hlt h5.2⟩
  obtain ⟨p6, n6, _⟩ := up1 h6.1 (Int32.le_trans h5.2 (by decide)) h
  have l6 : z6.toNatClampNeg < z5.toNatClampNeg := by
    have a := Int32.lt_iff_toInt_lt.mp hlt
    have b := i32_cl h5.1
    have c := i32_cl h6.1
    omega
  refine Sf.rdI 36 rfl hB.1 i6 (fun v11 b11 e11 => ?_)
  have dn := dv_n b11
  refine Sf.ite (fun hg => ?_) (fun hg => ?_)
  · refine Sf.inr (show AI 0 35 z7 ∧ ∃ k, Pk (EP x0_lines.toNatClampNeg x0_line x0_changes x0_coins x0_left x0_far x0_tons) (fun u => u / 3 = p2.toNatClampNeg) M k nn from ⟨hB.1, ?_⟩)
    have hG : (z7 z6.toNatClampNeg).toNatClampNeg / 3 = p2.toNatClampNeg := by rw [← e11, ← dn, hg]
    exact BQ.goal (G := (fun u => u / 3 = p2.toNatClampNeg)) hB l6 hG
  have hG' : ¬ ((z7 z6.toNatClampNeg).toNatClampNeg / 3 = p2.toNatClampNeg) := by
    rw [← e11]
    intro hx
    apply hg
    have e1 : v11 / 3 = Int32.ofNat (v11 / 3).toNatClampNeg := (Int32.ofNat_toNatClampNeg _ (dv3 b11).1).symm
    have e2 : p2 = Int32.ofNat p2.toNatClampNeg := (Int32.ofNat_toNatClampNeg _ hp2.1).symm
    rw [e1, e2, dn, hx]
  have l3 := l23 h_x0_lines
  have init : BQ (EP x0_lines.toNatClampNeg x0_line x0_changes x0_coins x0_left x0_far x0_tons) M nn z4 z5.toNatClampNeg z7 ∧ (0 ≤ z5 ∧ z5 ≤ 36) ∧ (0 ≤ (0 : Int32) ∧ (0 : Int32) ≤ 3 + x0_lines) ∧ z6.toNatClampNeg < z5.toNatClampNeg ∧ ¬ (fun u => u / 3 = p2.toNatClampNeg) (z7 z6.toNatClampNeg).toNatClampNeg ∧ PR (EP x0_lines.toNatClampNeg x0_line x0_changes x0_coins x0_left x0_far x0_tons) (fun u => u / 3 = p2.toNatClampNeg) z4 z6.toNatClampNeg z7 ∧ (∀ s : Nat, s < (0 : Int32).toNatClampNeg → ∀ v : Nat, v < 36 → stF x0_line x0_changes x0_coins x0_left x0_far x0_tons (z7 z6.toNatClampNeg) (Int32.ofNat s) = some (Int32.ofNat v) → tb z4 v = true) := ⟨hB, h5, ⟨Int32.le_refl _, Int32.le_trans (show (0 : Int32) ≤ 3 by decide) l3.2.1⟩, l6, hG', hP, fun s hs => absurd hs (Nat.not_lt_zero _)⟩
  have st : ∀ (z13 : Int64) (z14 z15 : Int32) (z16 : Nat → Int32), (BQ (EP x0_lines.toNatClampNeg x0_line x0_changes x0_coins x0_left x0_far x0_tons) M nn z13 z14.toNatClampNeg z16 ∧ (0 ≤ z14 ∧ z14 ≤ 36) ∧ (0 ≤ z15 ∧ z15 ≤ 3 + x0_lines) ∧ z6.toNatClampNeg < z14.toNatClampNeg ∧ ¬ (fun u => u / 3 = p2.toNatClampNeg) (z16 z6.toNatClampNeg).toNatClampNeg ∧ PR (EP x0_lines.toNatClampNeg x0_line x0_changes x0_coins x0_left x0_far x0_tons) (fun u => u / 3 = p2.toNatClampNeg) z13 z6.toNatClampNeg z16 ∧ (∀ s : Nat, s < z15.toNatClampNeg → ∀ v : Nat, v < 36 → stF x0_line x0_changes x0_coins x0_left x0_far x0_tons (z16 z6.toNatClampNeg) (Int32.ofNat s) = some (Int32.ofNat v) → tb z13 v = true)) → Sf (fX7_canEnd_s62 x0_shelf x0_rowSort x0_rowSize x0_rows x0_moved x0_shown x0_tape x0_tapeSize x0_refused x0_lines x0_line x0_changes x0_coins x0_goods x0_good x0_works x0_work x0_years x0_gone x0_spent x0_at x0_token x0_from x0_figures x0_fault x0_numbers x0_statements x0_left x0_far x0_tons x0_way x0_steps x0_met x0_totals z6 z13 z14 z15 z16) (LQ (u4 (fun (z13 : Int64) (z14 z15 : Int32) (z16 : Nat → Int32) => BQ (EP x0_lines.toNatClampNeg x0_line x0_changes x0_coins x0_left x0_far x0_tons) M nn z13 z14.toNatClampNeg z16 ∧ (0 ≤ z14 ∧ z14 ≤ 36) ∧ (0 ≤ z15 ∧ z15 ≤ 3 + x0_lines) ∧ z6.toNatClampNeg < z14.toNatClampNeg ∧ ¬ (fun u => u / 3 = p2.toNatClampNeg) (z16 z6.toNatClampNeg).toNatClampNeg ∧ PR (EP x0_lines.toNatClampNeg x0_line x0_changes x0_coins x0_left x0_far x0_tons) (fun u => u / 3 = p2.toNatClampNeg) z13 z6.toNatClampNeg z16 ∧ (∀ s : Nat, s < z15.toNatClampNeg → ∀ v : Nat, v < 36 → stF x0_line x0_changes x0_coins x0_left x0_far x0_tons (z16 z6.toNatClampNeg) (Int32.ofNat s) = some (Int32.ofNat v) → tb z13 v = true))) (u4 (fun (z13 : Int64) (z14 z15 : Int32) (z16 : Nat → Int32) => muUp z15)) (muUp z15) (fun e => BQ (EP x0_lines.toNatClampNeg x0_line x0_changes x0_coins x0_left x0_far x0_tons) M nn e.1 e.2.1.toNatClampNeg e.2.2 ∧ (0 ≤ e.2.1 ∧ e.2.1 ≤ 36) ∧ z6.toNatClampNeg < e.2.1.toNatClampNeg ∧ PR (EP x0_lines.toNatClampNeg x0_line x0_changes x0_coins x0_left x0_far x0_tons) (fun u => u / 3 = p2.toNatClampNeg) e.1 (z6.toNatClampNeg + 1) e.2.2)) := fun z13 z14 z15 z16 hh => T_s62 (M := M) (G := (fun u => u / 3 = p2.toNatClampNeg)) (nn := nn) h_x0_shelf h_x0_rowSize h_x0_tapeSize h_x0_lines h_x0_line h_x0_changes h_x0_coins h_x0_goods h_x0_good h_x0_works h_x0_work h_x0_years h_x0_from h_x0_far h_x0_way h_x0_steps h6.1 hh
  have lo : Sf (lp (u4 (fX7_canEnd_s62 x0_shelf x0_rowSort x0_rowSize x0_rows x0_moved x0_shown x0_tape x0_tapeSize x0_refused x0_lines x0_line x0_changes x0_coins x0_goods x0_good x0_works x0_work x0_years x0_gone x0_spent x0_at x0_token x0_from x0_figures x0_fault x0_numbers x0_statements x0_left x0_far x0_tons x0_way x0_steps x0_met x0_totals z6)) n (z4, z5, 0, z7)) (fun e => BQ (EP x0_lines.toNatClampNeg x0_line x0_changes x0_coins x0_left x0_far x0_tons) M nn e.1 e.2.1.toNatClampNeg e.2.2 ∧ (0 ≤ e.2.1 ∧ e.2.1 ≤ 36) ∧ z6.toNatClampNeg < e.2.1.toNatClampNeg ∧ PR (EP x0_lines.toNatClampNeg x0_line x0_changes x0_coins x0_left x0_far x0_tons) (fun u => u / 3 = p2.toNatClampNeg) e.1 (z6.toNatClampNeg + 1) e.2.2) := Sf.loop4 _ _ st init (muUp_n hn)
  refine Sf.bind lo ?_
  rintro ⟨w18, w19, w20⟩ ⟨k1, k2, k3, k4⟩
  refine Sf.inl ⟨k1, k2, ⟨p6, ?_⟩, ?_⟩ (muUp_lt h)
  · show z6 + 1 ≤ w19
    have k3 : z6.toNatClampNeg < w19.toNatClampNeg := k3
    have k2 : 0 ≤ w19 ∧ w19 ≤ 36 := k2
    have a := i32_cl p6
    have b := i32_cl k2.1
    exact Int32.le_iff_toInt_le.mpr (by omega)
  · show PR (EP x0_lines.toNatClampNeg x0_line x0_changes x0_coins x0_left x0_far x0_tons) (fun u => u / 3 = p2.toNatClampNeg) w18 (z6 + 1).toNatClampNeg w20
    rw [n6]
    exact k4
theorem sX7_canEnd {n : Nat} {x0_shelf x0_rowSort x0_rowSize : (Nat → Int32)} {x0_rows : (Nat → Nat → Int64)} {x0_moved : (Nat → Int64)} {x0_shown x0_tape : (Nat → Int32)} {x0_tapeSize : Int32} {x0_refused : (Nat → Int32)} {x0_lines : Int32} {x0_line : (Nat → Nat → Int32)} {x0_changes x0_coins : (Nat → Int32)} {x0_goods : Int32} {x0_good : (Nat → Nat → Int32)} {x0_works : Int32} {x0_work : (Nat → Nat → Int32)} {x0_years x0_gone x0_spent x0_at x0_token x0_from : Int32} {x0_figures : Int64} {x0_fault : Int32} {x0_numbers : (Nat → Int32)} {x0_statements : Int32} {x0_left x0_far : (Nat → Int32)} {x0_tons : Int32} {x0_way : (Nat → Int32)} {x0_steps : Int32} {x0_met : Int64} {x0_queue x0_totals : (Nat → Int32)} {p1 p2 : Int32} (hn : 1000000000000 ≤ n) (h_x0_shelf : (AI 0 2 x0_shelf)) (h_x0_rowSize : (AI 0 40 x0_rowSize)) (h_x0_tapeSize : (0 ≤ x0_tapeSize ∧ x0_tapeSize ≤ 250)) (h_x0_lines : (0 ≤ x0_lines ∧ x0_lines ≤ 20)) (h_x0_line : (LnM x0_line)) (h_x0_changes : (AI 0 99 x0_changes)) (h_x0_coins : (AI 0 9 x0_coins)) (h_x0_goods : (0 ≤ x0_goods ∧ x0_goods ≤ 8)) (h_x0_good : (GdM x0_good)) (h_x0_works : (0 ≤ x0_works ∧ x0_works ≤ 7)) (h_x0_work : (WkM x0_work)) (h_x0_years : (1 ≤ x0_years ∧ x0_years ≤ 30)) (h_x0_from : (0 ≤ x0_from ∧ x0_from ≤ 250)) (h_x0_far : (AI 0 1000000000 x0_far)) (h_x0_way : (AI 0 22 x0_way)) (h_x0_steps : (0 ≤ x0_steps ∧ x0_steps ≤ 37)) (h_x0_queue : (AI 0 35 x0_queue)) (h_p1 : (0 ≤ p1 ∧ p1 ≤ 35)) (h_p2 : (0 ≤ p2 ∧ p2 ≤ 11)) : Sf (fX7_canEnd n (x0_shelf, x0_rowSort, x0_rowSize, x0_rows, x0_moved, x0_shown, x0_tape, x0_tapeSize, x0_refused, x0_lines, x0_line, x0_changes, x0_coins, x0_goods, x0_good, x0_works, x0_work, x0_years, x0_gone, x0_spent, x0_at, x0_token, x0_from, x0_figures, x0_fault, x0_numbers, x0_statements, x0_left, x0_far, x0_tons, x0_way, x0_steps, x0_met, x0_queue, x0_totals) p1 p2) (fun r => (0 ≤ r.1 ∧ r.1 ≤ 1) ∧ (AI 0 35 r.2) ∧ ((r.1 = 1 ∧ ∃ k, Pk (EP x0_lines.toNatClampNeg x0_line x0_changes x0_coins x0_left x0_far x0_tons) (fun u => u / 3 = p2.toNatClampNeg) (fun v => tb x0_met v = true) k p1.toNatClampNeg) ∨ (r.1 = 0 ∧ ¬ ∃ k, Pk (EP x0_lines.toNatClampNeg x0_line x0_changes x0_coins x0_left x0_far x0_tons) (fun u => u / 3 = p2.toNatClampNeg) (fun v => tb x0_met v = true) k p1.toNatClampNeg))) := by
  unfold fX7_canEnd
  dsimp only [u35]
  obtain ⟨l1, o1⟩ := n36 h_p1
  refine Sf.ite (fun hb => ?_) (fun hb => ?_)
  · have hb' := (tb_get h_p1).mp hb
    refine Sf.someb (fun t1 e1 => ?_)
    refine Sf.wrI 36 rfl h_x0_queue (by decide) (by grind) (fun f2 a2 e2 => ?_)
    subst e1
    have z0 : (0 : Int32).toNatClampNeg = 0 := rfl
    rw [z0] at e2
    have hc := cnt_set h_p1 hb'
    have m1 : (1 : Int32).toNatClampNeg = 1 := rfl
    have nM : ¬ (tb x0_met p1.toNatClampNeg = true) := by rw [hb']; decide
    have hB : BQ (EP x0_lines.toNatClampNeg x0_line x0_changes x0_coins x0_left x0_far x0_tons) (fun v => tb x0_met v = true) p1.toNatClampNeg (x0_met ||| ((1 : Int64) <<< (p1.toInt64 &&& 63))) (1 : Int32).toNatClampNeg f2 := by
      rw [m1]
      refine ⟨a2, by omega, ⟨?_, l1, nM⟩, fun j hj => ?_, fun v hv ht => ?_, fun v hv hm => ?_⟩
      · rw [tb_set h_p1 _ l1]; simp
      · have : j = 0 := by omega
        subst this
        rw [e2, va_up_self, tb_set h_p1 _ l1]
        exact ⟨by simp, 0, rfl, nM⟩
      · rw [tb_set h_p1 v hv] at ht
        by_cases ho : tb x0_met v = true
        · exact Or.inl ho
        · have ho : tb x0_met v = false := by simpa using ho
          rw [ho] at ht
          exact Or.inr ⟨0, by omega, by rw [e2, va_up_self]; have : v = p1.toNatClampNeg := by simpa using ht
                                        exact this.symm⟩
      · rw [tb_set h_p1 v hv]
        have hm : tb x0_met v = true := hm
        rw [hm]
        rfl
    refine Sf.bind (Sf.loop4 (Q := Sum.elim (fun a => AI 0 35 a ∧ ∃ k, Pk (EP x0_lines.toNatClampNeg x0_line x0_changes x0_coins x0_left x0_far x0_tons) (fun u => u / 3 = p2.toNatClampNeg) (fun v => tb x0_met v = true) k p1.toNatClampNeg) (fun b => AI 0 35 b ∧ ¬ ∃ k, Pk (EP x0_lines.toNatClampNeg x0_line x0_changes x0_coins x0_left x0_far x0_tons) (fun u => u / 3 = p2.toNatClampNeg) (fun v => tb x0_met v = true) k p1.toNatClampNeg)) (fun (z4 : Int64) (z5 z6 : Int32) (z7 : Nat → Int32) => BQ (EP x0_lines.toNatClampNeg x0_line x0_changes x0_coins x0_left x0_far x0_tons) (fun v => tb x0_met v = true) p1.toNatClampNeg z4 z5.toNatClampNeg z7 ∧ (0 ≤ z5 ∧ z5 ≤ 36) ∧ (0 ≤ z6 ∧ z6 ≤ z5) ∧ PR (EP x0_lines.toNatClampNeg x0_line x0_changes x0_coins x0_left x0_far x0_tons) (fun u => u / 3 = p2.toNatClampNeg) z4 z6.toNatClampNeg z7) (fun (z4 : Int64) (z5 z6 : Int32) (z7 : Nat → Int32) => muUp z6) (fun z4 z5 z6 z7 hh => T_s37 (M := (fun v => tb x0_met v = true)) (nn := p1.toNatClampNeg) hn h_x0_shelf h_x0_rowSize h_x0_tapeSize h_x0_lines h_x0_line h_x0_changes h_x0_coins h_x0_goods h_x0_good h_x0_works h_x0_work h_x0_years h_x0_from h_x0_far h_x0_way h_x0_steps h_p2 hh) (n := n) (s := (x0_met ||| ((1 : Int64) <<< (p1.toInt64 &&& 63)), 1, 0, f2)) ⟨hB, (by decide : (0 : Int32) ≤ 1 ∧ (1 : Int32) ≤ 36), (by decide : (0 : Int32) ≤ 0 ∧ (0 : Int32) ≤ 1), fun j hj => absurd hj (Nat.not_lt_zero _)⟩ (muUp_n hn)) ?_
    intro r hr
    cases r with
    | inl a => exact Sf.ok ⟨(by decide : (0 : Int32) ≤ 1 ∧ (1 : Int32) ≤ 1), hr.1, Or.inl ⟨rfl, hr.2⟩⟩
    | inr b => exact Sf.ok ⟨(by decide : (0 : Int32) ≤ 0 ∧ (0 : Int32) ≤ 1), hr.1, Or.inr ⟨rfl, hr.2⟩⟩
  · refine Sf.ok ⟨(by decide : (0 : Int32) ≤ 0 ∧ (0 : Int32) ≤ 1), h_x0_queue, Or.inr ⟨rfl, ?_⟩⟩
    rintro ⟨k, hk⟩
    apply Pk.nm hk
    show tb x0_met p1.toNatClampNeg = true
    by_cases ht : tb x0_met p1.toNatClampNeg = true
    · exact ht
    · exact absurd ((tb_get h_p1).mpr (by simpa using ht)) hb

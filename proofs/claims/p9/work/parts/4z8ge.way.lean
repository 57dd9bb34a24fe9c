theorem tb_setA {s : Int64} {v : Int32} (h : 0 ≤ v ∧ v ≤ 35) (u : Nat) : tb (s ||| ((1 : Int64) <<< (v.toInt64 &&& 63))) u = (tb s u || decide (u = v.toNatClampNeg)) := by
  obtain ⟨ea, hl⟩ := sh_am h
  unfold tb
  rw [Int64.toBitVec_or, Int64.toBitVec_shiftLeft, ea, BitVec.getLsbD_or]
  generalize v.toNatClampNeg = k at hl
  have b1 : (1 : Int64).toBitVec = 1#64 := rfl
  rw [b1, BitVec.shiftLeft_eq']
  have e1 : (BitVec.ofNat 64 k).toNat = k := by
    rw [BitVec.toNat_ofNat]
    omega
  rw [e1, BitVec.getLsbD_shiftLeft, BitVec.getLsbD_one]
  congr 1
  by_cases hk : u = k
  · subst hk
    simp
    omega
  · by_cases hlt : u < k
    · simp [hlt, hk]
    · have : u - k ≠ 0 := by omega
      simp [hlt, hk, this]
theorem T_s125 {n : Nat} {p2 : Int32} {x0_shelf x0_rowSort x0_rowSize : (Nat → Int32)} {x0_rows : (Nat → Nat → Int64)} {x0_moved : (Nat → Int64)} {x0_shown x0_tape : (Nat → Int32)} {x0_tapeSize : Int32} {x0_refused : (Nat → Int32)} {x0_lines : Int32} {x0_line : (Nat → Nat → Int32)} {x0_changes x0_coins : (Nat → Int32)} {x0_goods : Int32} {x0_good : (Nat → Nat → Int32)} {x0_works : Int32} {x0_work : (Nat → Nat → Int32)} {x0_years x0_gone x0_spent x0_at x0_token x0_from : Int32} {x0_figures : Int64} {x0_fault : Int32} {x0_numbers : (Nat → Int32)} {x0_statements : Int32} {x0_left x0_totals g1 : (Nat → Int32)} {g2 z16 : Int32} {z17 : (Nat → Int32)} {z18 : Int32} {z19 : Int64} {z20 : (Nat → Int32)} (hn : 1000000000000 ≤ n) (h_x0_shelf : (AI 0 2 x0_shelf)) (h_x0_rowSize : (AI 0 40 x0_rowSize)) (h_x0_tapeSize : (0 ≤ x0_tapeSize ∧ x0_tapeSize ≤ 250)) (h_x0_lines : (0 ≤ x0_lines ∧ x0_lines ≤ 20)) (h_x0_line : (LnM x0_line)) (h_x0_changes : (AI 0 99 x0_changes)) (h_x0_coins : (AI 0 9 x0_coins)) (h_x0_goods : (0 ≤ x0_goods ∧ x0_goods ≤ 8)) (h_x0_good : (GdM x0_good)) (h_x0_works : (0 ≤ x0_works ∧ x0_works ≤ 7)) (h_x0_work : (WkM x0_work)) (h_x0_years : (1 ≤ x0_years ∧ x0_years ≤ 30)) (h_x0_from : (0 ≤ x0_from ∧ x0_from ≤ 250)) (hg1 : AI 0 1000000000 g1) (hp2 : 0 ≤ p2 ∧ p2 ≤ 11) (hI : (0 ≤ z16 ∧ z16 ≤ 35) ∧ AI 0 22 z17 ∧ (0 ≤ z18 ∧ z18 ≤ 36 ∧ z18.toNatClampNeg ≤ cnt z19) ∧ tb z19 z16.toNatClampNeg = true ∧ AI 0 35 z20 ∧ ∃ k, Pk (EP x0_lines.toNatClampNeg x0_line x0_changes x0_coins x0_left g1 g2) (fun u => u / 3 = p2.toNatClampNeg) (fun v => tb z19 v = true ∧ v ≠ z16.toNatClampNeg) k z16.toNatClampNeg) :
    Sf (fX7_findWay_s125 n p2 x0_shelf x0_rowSort x0_rowSize x0_rows x0_moved x0_shown x0_tape x0_tapeSize x0_refused x0_lines x0_line x0_changes x0_coins x0_goods x0_good x0_works x0_work x0_years x0_gone x0_spent x0_at x0_token x0_from x0_figures x0_fault x0_numbers x0_statements x0_left x0_totals g1 g2 z16 z17 z18 z19 z20) (LQ (u5 (fun (z16 : Int32) (z17 : Nat → Int32) (z18 : Int32) (z19 : Int64) (z20 : Nat → Int32) => (0 ≤ z16 ∧ z16 ≤ 35) ∧ AI 0 22 z17 ∧ (0 ≤ z18 ∧ z18 ≤ 36 ∧ z18.toNatClampNeg ≤ cnt z19) ∧ tb z19 z16.toNatClampNeg = true ∧ AI 0 35 z20 ∧ ∃ k, Pk (EP x0_lines.toNatClampNeg x0_line x0_changes x0_coins x0_left g1 g2) (fun u => u / 3 = p2.toNatClampNeg) (fun v => tb z19 v = true ∧ v ≠ z16.toNatClampNeg) k z16.toNatClampNeg)) (u5 (fun (z16 : Int32) (z17 : Nat → Int32) (z18 : Int32) (z19 : Int64) (z20 : Nat → Int32) => 36 - cnt z19)) (36 - cnt z19) (fun e => AI 0 22 e.1 ∧ (0 ≤ e.2.1 ∧ e.2.1 ≤ 37) ∧ AI 0 35 e.2.2.2)) := by
  unfold fX7_findWay_s125
  obtain ⟨h16, h17, ⟨h18, h18b, h18c⟩, ht, h20, k, hk⟩ := hI
  have h18d : 0 ≤ z18 ∧ z18 ≤ 37 := ⟨h18, Int32.le_trans h18b (by decide)⟩
  refine Sf.ite (fun h => Sf.inr ⟨h17, h18d, h20⟩) (fun h => ?_)
  have dn := dv_n h16
  have hG : ¬ (z16.toNatClampNeg / 3 = p2.toNatClampNeg) := by
    intro hx
    apply h
    rw [← o_of (dv3 h16).1, ← o_of hp2.1, dn, hx]
  obtain ⟨v, j, e, hj⟩ := Pk.step (G := (fun u => u / 3 = p2.toNatClampNeg)) hG k hk
  have hj' : Pk (EP x0_lines.toNatClampNeg x0_line x0_changes x0_coins x0_left g1 g2) (fun u => u / 3 = p2.toNatClampNeg) (fun v => tb z19 v = true) j v := by
    refine Pk.congr (fun x hx => ?_) j v hj
    by_cases hxz : x = z16.toNatClampNeg
    · exact Or.inr hxz
    · exact Or.inl ⟨hx, hxz⟩
  obtain ⟨hv, s, hs, es⟩ := e
  rw [o_of h16.1] at es
  obtain ⟨v26, e26, b26⟩ := sX7_stepTo (x0_shelf := x0_shelf) (x0_rowSort := x0_rowSort) (x0_rows := x0_rows) (x0_moved := x0_moved) (x0_shown := x0_shown) (x0_tape := x0_tape) (x0_refused := x0_refused) (x0_gone := x0_gone) (x0_spent := x0_spent) (x0_at := x0_at) (x0_token := x0_token) (x0_figures := x0_figures) (x0_fault := x0_fault) (x0_numbers := x0_numbers) (x0_statements := x0_statements) (x0_left := x0_left) (x0_tons := g2) (x0_totals := x0_totals) (x0_met := z19) h_x0_shelf h_x0_rowSize h_x0_tapeSize h_x0_lines h_x0_line h_x0_changes h_x0_coins h_x0_goods h_x0_good h_x0_works h_x0_work h_x0_years h_x0_from hg1 h17 h18d h20 h16 (by decide : (0 : Int32) ≤ 0 ∧ (0 : Int32) ≤ 22)
  rw [e26]
  rw [stF_eq] at e26
  refine Sf.someb (fun w26 ew => ?_)
  subst ew
  have st : ∀ (z29 z30 : Int32) (z31 : Nat → Int32), ((0 ≤ z29 ∧ z29.toNatClampNeg ≤ s) ∧ stF x0_line x0_changes x0_coins x0_left g1 g2 z16 z29 = some z30 ∧ AI 0 35 z31) → Sf (fX7_findWay_s146 n p2 x0_shelf x0_rowSort x0_rowSize x0_rows x0_moved x0_shown x0_tape x0_tapeSize x0_refused x0_lines x0_line x0_changes x0_coins x0_goods x0_good x0_works x0_work x0_years x0_gone x0_spent x0_at x0_token x0_from x0_figures x0_fault x0_numbers x0_statements x0_left x0_totals g1 g2 z16 z17 z18 z19 z29 z30 z31) (LQ (u3 (fun (z29 z30 : Int32) (z31 : Nat → Int32) => (0 ≤ z29 ∧ z29.toNatClampNeg ≤ s) ∧ stF x0_line x0_changes x0_coins x0_left g1 g2 z16 z29 = some z30 ∧ AI 0 35 z31)) (u3 (fun (z29 z30 : Int32) (z31 : Nat → Int32) => muUp z29)) (muUp z29) (fun e => (0 ≤ e.1 ∧ e.1 ≤ 22) ∧ (0 ≤ e.2.1 ∧ e.2.1 ≤ 35) ∧ AI 0 35 e.2.2 ∧ ∃ k, Pk (EP x0_lines.toNatClampNeg x0_line x0_changes x0_coins x0_left g1 g2) (fun u => u / 3 = p2.toNatClampNeg) (fun v => tb z19 v = true) k e.2.1.toNatClampNeg)) := fun z29 z30 z31 hh => T_s146 (sS := s) (kS := j) (vS := v) hn h_x0_shelf h_x0_rowSize h_x0_tapeSize h_x0_lines h_x0_line h_x0_changes h_x0_coins h_x0_goods h_x0_good h_x0_works h_x0_work h_x0_years h_x0_from hg1 h17 h18d hp2 h16 hs hv es hj' hh
  have init : (0 ≤ (0 : Int32) ∧ (0 : Int32).toNatClampNeg ≤ s) ∧ stF x0_line x0_changes x0_coins x0_left g1 g2 z16 0 = some w26 ∧ AI 0 35 z20 := ⟨⟨Int32.le_refl _, Nat.zero_le _⟩, e26, h20⟩
  have lo : Sf (lp (u3 (fX7_findWay_s146 n p2 x0_shelf x0_rowSort x0_rowSize x0_rows x0_moved x0_shown x0_tape x0_tapeSize x0_refused x0_lines x0_line x0_changes x0_coins x0_goods x0_good x0_works x0_work x0_years x0_gone x0_spent x0_at x0_token x0_from x0_figures x0_fault x0_numbers x0_statements x0_left x0_totals g1 g2 z16 z17 z18 z19)) n (0, w26, z20)) (fun e => (0 ≤ e.1 ∧ e.1 ≤ 22) ∧ (0 ≤ e.2.1 ∧ e.2.1 ≤ 35) ∧ AI 0 35 e.2.2 ∧ ∃ k, Pk (EP x0_lines.toNatClampNeg x0_line x0_changes x0_coins x0_left g1 g2) (fun u => u / 3 = p2.toNatClampNeg) (fun v => tb z19 v = true) k e.2.1.toNatClampNeg) := Sf.loop3 _ _ st init (muUp_n hn)
  refine Sf.bind lo ?_
  rintro ⟨w33, w34, w35⟩ hr
  obtain ⟨b33, b34, a35, k2, hk2⟩ : (0 ≤ w33 ∧ w33 ≤ 22) ∧ (0 ≤ w34 ∧ w34 ≤ 35) ∧ AI 0 35 w35 ∧ ∃ k, Pk (EP x0_lines.toNatClampNeg x0_line x0_changes x0_coins x0_left g1 g2) (fun u => u / 3 = p2.toNatClampNeg) (fun v => tb z19 v = true) k w34.toNatClampNeg := hr
  dsimp only [u3]
  have nb : tb z19 w34.toNatClampNeg = false := by
    have := Pk.nm hk2
    simpa using this
  have c1 := cnt_set b34 nb
  have c2 := cnt_le (z19 ||| ((1 : Int64) <<< (w34.toInt64 &&& 63)))
  refine Sf.wrI 37 rfl h17 ⟨h18, Int32.lt_of_le_of_lt h18b (by decide)⟩ b33 (fun f36 a36 e36 => ?_)
  refine Sf.someb (fun t37 e37 => ?_)
  subst e37
  obtain ⟨p18, n18, _⟩ := up1 (B := 100) h18 (by decide) (by grind)
  refine Sf.inl ⟨b34, a36, ⟨p18, ?_, ?_⟩, ?_, a35, k2, ?_⟩ ?_
  · show z18 + 1 ≤ 36
    have a := i32_cl p18
    have z36 : (36 : Int32).toInt = 36 := by decide
    exact Int32.le_iff_toInt_le.mpr (by rw [z36]; omega)
  · show (z18 + 1).toNatClampNeg ≤ cnt (z19 ||| ((1 : Int64) <<< (w34.toInt64 &&& 63)))
    omega
  · show tb (z19 ||| ((1 : Int64) <<< (w34.toInt64 &&& 63))) w34.toNatClampNeg = true
    rw [tb_setA b34]
    simp
  · show Pk (EP x0_lines.toNatClampNeg x0_line x0_changes x0_coins x0_left g1 g2) (fun u => u / 3 = p2.toNatClampNeg) (fun v => tb (z19 ||| ((1 : Int64) <<< (w34.toInt64 &&& 63))) v = true ∧ v ≠ w34.toNatClampNeg) k2 w34.toNatClampNeg
    refine Pk.congr (fun x hx => ?_) k2 _ hk2
    obtain ⟨hx1, hx2⟩ := hx
    rw [tb_setA b34] at hx1
    simpa [hx2] using hx1
  · show 36 - cnt (z19 ||| ((1 : Int64) <<< (w34.toInt64 &&& 63))) < 36 - cnt z19
    omega

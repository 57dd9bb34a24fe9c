theorem up1 {z : Int32} {B : Int32} (h0 : 0 ≤ z) (hB : B ≤ 1000) (h : ¬ B ≤ z) : 0 ≤ z + 1 ∧ (z + 1).toNatClampNeg = z.toNatClampNeg + 1 ∧ z < B := by
  have hl := Int32.not_le.mp h
  have a := Int32.lt_iff_toInt_lt.mp hl
  have b := Int32.le_iff_toInt_le.mp hB
  have z1 : (1000 : Int32).toInt = 1000 := by decide
  have z2 : (1 : Int32).toInt = 1 := by decide
  have z0 : (0 : Int32).toInt = 0 := by decide
  rw [z1] at b
  have c := i32_nn h0
  have e : (z + 1).toInt = z.toInt + 1 := by rw [i32_add (by omega) (by omega), z2]
  have p : 0 ≤ z + 1 := Int32.le_iff_toInt_le.mpr (by rw [e, z0]; omega)
  have q := i32_cl p
  have r := i32_cl h0
  exact ⟨p, by omega, hl⟩
theorem T_s49 {n : Nat} {G : Nat → Prop} {f0 : Nat → Int32} {p2 : Int32} {x0_shelf x0_rowSort x0_rowSize : (Nat → Int32)} {x0_rows : (Nat → Nat → Int64)} {x0_moved : (Nat → Int64)} {x0_shown x0_tape : (Nat → Int32)} {x0_tapeSize : Int32} {x0_refused : (Nat → Int32)} {x0_lines : Int32} {x0_line : (Nat → Nat → Int32)} {x0_changes x0_coins : (Nat → Int32)} {x0_goods : Int32} {x0_good : (Nat → Nat → Int32)} {x0_works : Int32} {x0_work : (Nat → Nat → Int32)} {x0_years x0_gone x0_spent x0_at x0_token x0_from : Int32} {x0_figures : Int64} {x0_fault : Int32} {x0_numbers : (Nat → Int32)} {x0_statements : Int32} {x0_left x0_way : (Nat → Int32)} {x0_steps : Int32} {x0_met : Int64} {x0_queue x0_totals : (Nat → Int32)} {z12 z13 : Int32} {z14 : (Nat → Int32)} (hn : 1000000000000 ≤ n) (h_lines : 0 ≤ x0_lines ∧ x0_lines ≤ 20) (h_x0_line : LnM x0_line) (h_coins : AI 0 9 x0_coins) (hI : Jf (Ed x0_lines.toNatClampNeg x0_line x0_changes x0_coins x0_left p2) G f0 z12 z14 ∧ 0 ≤ z13 ∧ (z12 = 0 → ∀ l : Nat, l < z13.toNatClampNeg → ∀ w : Nat, w < 3 → OKl x0_line x0_coins x0_left p2 f0 l w)) :
    Sf (fX7_findFar_s49 n p2 x0_shelf x0_rowSort x0_rowSize x0_rows x0_moved x0_shown x0_tape x0_tapeSize x0_refused x0_lines x0_line x0_changes x0_coins x0_goods x0_good x0_works x0_work x0_years x0_gone x0_spent x0_at x0_token x0_from x0_figures x0_fault x0_numbers x0_statements x0_left x0_way x0_steps x0_met x0_queue x0_totals z12 z13 z14) (LQ (u3 (fun (z12 : Int32) (z13 : Int32) (z14 : Nat → Int32) => Jf (Ed x0_lines.toNatClampNeg x0_line x0_changes x0_coins x0_left p2) G f0 z12 z14 ∧ 0 ≤ z13 ∧ (z12 = 0 → ∀ l : Nat, l < z13.toNatClampNeg → ∀ w : Nat, w < 3 → OKl x0_line x0_coins x0_left p2 f0 l w))) (u3 (fun (z12 : Int32) (z13 : Int32) (z14 : Nat → Int32) => muUp z13)) (muUp z13) (fun e => Jf (Ed x0_lines.toNatClampNeg x0_line x0_changes x0_coins x0_left p2) G f0 e.1 e.2 ∧ (e.1 = 0 → ∀ l : Nat, l < x0_lines.toNatClampNeg → ∀ w : Nat, w < 3 → OKl x0_line x0_coins x0_left p2 f0 l w))) := by
  unfold fX7_findFar_s49
  obtain ⟨hJ, h13, hK⟩ := hI
  refine Sf.ite (fun h => Sf.inr ⟨hJ, fun h0 l hl => hK h0 l ?_⟩) (fun h => ?_)
  · have a := Int32.le_iff_toInt_le.mp h
    have b := i32_cl h13
    have c := i32_cl h_lines.1
    omega
  obtain ⟨h14, n14, hlt⟩ := up1 h13 (Int32.le_trans h_lines.2 (by decide)) h
  refine Sf.bind (Sf.loop3 (Q := fun e => Jf (Ed x0_lines.toNatClampNeg x0_line x0_changes x0_coins x0_left p2) G f0 e.1 e.2 ∧ (e.1 = 0 → (∀ l : Nat, l < z13.toNatClampNeg → ∀ w : Nat, w < 3 → OKl x0_line x0_coins x0_left p2 f0 l w) ∧ ∀ w : Nat, w < 3 → OKl x0_line x0_coins x0_left p2 f0 z13.toNatClampNeg w)) (fun (z39 : Int32) (z40 : Int32) (z41 : Nat → Int32) => Jf (Ed x0_lines.toNatClampNeg x0_line x0_changes x0_coins x0_left p2) G f0 z39 z41 ∧ 0 ≤ z40 ∧ (z39 = 0 → (∀ l : Nat, l < z13.toNatClampNeg → ∀ w : Nat, w < 3 → OKl x0_line x0_coins x0_left p2 f0 l w) ∧ ∀ w : Nat, w < z40.toNatClampNeg → OKl x0_line x0_coins x0_left p2 f0 z13.toNatClampNeg w)) (fun (z39 : Int32) (z40 : Int32) (z41 : Nat → Int32) => muUp z40) (fun z39 z40 z41 hh => T_s61 h_lines h_x0_line h_coins ⟨h13, hlt⟩ hh.1 hh.2.1 hh.2.2) (n := n) (s := (z12, 0, z14)) ⟨hJ, Int32.le_refl _, fun h0 => ⟨hK h0, fun w hw => absurd hw (Nat.not_lt_zero _)⟩⟩ (muUp_n hn)) ?_
  rintro ⟨w43, w44⟩ ⟨j, k⟩
  refine Sf.inl ⟨j, h14, fun h0 l hl w hw => ?_⟩ (muUp_lt h)
  rw [n14] at hl
  by_cases hx : l = z13.toNatClampNeg
  · subst hx; exact (k h0).2 w hw
  · exact (k h0).1 l (by omega) w hw
theorem dv_n {x : Int32} (h : 0 ≤ x ∧ x ≤ 35) : (x / 3).toNatClampNeg = x.toNatClampNeg / 3 := by
  have e : x = Int32.ofNat x.toNatClampNeg := (Int32.ofNat_toNatClampNeg x h.1).symm
  have hl : x.toNatClampNeg < 36 := i32_lt (M := 36) rfl ⟨h.1, Int32.lt_of_le_of_lt h.2 (by decide)⟩
  have key : ∀ i : Fin 36, ((Int32.ofNat i.1) / 3).toNatClampNeg = i.1 / 3 := by decide +kernel
  have := key ⟨_, hl⟩
  rw [e]
  have e2 : (Int32.ofNat x.toNatClampNeg).toNatClampNeg = x.toNatClampNeg := by rw [← e]
  rw [e2]
  exact this
theorem T_s232 {P0 : Prop} {D : Nat → Nat → Int → Prop} {G : Nat → Prop} {f0 : Nat → Int32} {x0_changes : (Nat → Int32)} {z20 z26 z27 : Int32} {z28 : (Nat → Int32)} (hD : ∀ p w w' : Nat, p < 12 → w < 3 → w' < 3 → D (3 * p + w) (3 * p + w') (x0_changes p).toInt) (h_ch : AI 0 99 x0_changes) (h20 : 0 ≤ z20 ∧ z20 ≤ 35) (hI : Jf D G f0 z26 z28 ∧ 0 ≤ z27 ∧ (z26 = 0 → P0 ∧ ∀ w : Nat, w < z27.toNatClampNeg → OKc x0_changes f0 z20.toNatClampNeg w)) :
    Sf (fX7_findFar_s232 x0_changes z20 z26 z27 z28) (LQ (u3 (fun (z26 : Int32) (z27 : Int32) (z28 : Nat → Int32) => Jf D G f0 z26 z28 ∧ 0 ≤ z27 ∧ (z26 = 0 → P0 ∧ ∀ w : Nat, w < z27.toNatClampNeg → OKc x0_changes f0 z20.toNatClampNeg w))) (u3 (fun (z26 : Int32) (z27 : Int32) (z28 : Nat → Int32) => muUp z27)) (muUp z27) (fun e => Jf D G f0 e.1 e.2 ∧ (e.1 = 0 → P0 ∧ ∀ w : Nat, w < 3 → OKc x0_changes f0 z20.toNatClampNeg w))) := by
  unfold fX7_findFar_s232
  obtain ⟨hJ, h27, hK⟩ := hI
  refine Sf.ite (fun h => Sf.inr ⟨hJ, fun h0 => ⟨(hK h0).1, fun w hw => (hK h0).2 w ?_⟩⟩) (fun h => ?_)
  · have a := Int32.le_iff_toInt_le.mp h
    have b := i32_cl h27
    have z3 : (3 : Int32).toInt = 3 := by decide
    rw [z3] at a
    omega
  obtain ⟨h28, n28, hlt⟩ := up1 h27 (by decide) h
  have lw : z27.toNatClampNeg < 3 := i32_lt (M := 3) rfl ⟨h27, hlt⟩
  obtain ⟨d0, d1, d2, d3⟩ := dv3 h20
  have dn := dv_n h20
  have ln : z20.toNatClampNeg < 36 := i32_lt (M := 36) rfl ⟨h20.1, Int32.lt_of_le_of_lt h20.2 (by decide)⟩
  have nx : ((z20 / 3) * 3 + z27).toNatClampNeg = z20.toNatClampNeg / 3 * 3 + z27.toNatClampNeg := by
    have := ixm (p := z20 / 3) (m := 3) (c := z27) ⟨d0, Int32.le_trans d1 (by decide)⟩ (by decide) ⟨h27, Int32.le_of_lt (Int32.lt_trans hlt (by decide))⟩
    rw [this, dn]
    rfl
  have ix : 0 ≤ (z20 / 3) * 3 + z27 ∧ (z20 / 3) * 3 + z27 < 36 := by
    generalize z20 / 3 = y at d0 d1
    clear d2 d3 h20
    grind
  have ip : 0 ≤ z20 / 3 ∧ z20 / 3 < 12 := ⟨d0, Int32.lt_of_le_of_lt d1 (by decide)⟩
  have i20 : 0 ≤ z20 ∧ z20 < 36 := ⟨h20.1, Int32.lt_of_le_of_lt h20.2 (by decide)⟩
  refine Sf.rdb 36 rfl ix (fun v32 e32 => ?_)
  refine Sf.rdI 12 rfl h_ch ip (fun v33 b33 e33 => ?_)
  refine Sf.rdb 36 rfl i20 (fun v34 e34 => ?_)
  rw [nx] at e32
  rw [dn] at e33
  have nxt : ∀ {l : Int32} {g : Nat → Int32}, Jf D G f0 l g → (l = 0 → z26 = 0 ∧ OKc x0_changes f0 z20.toNatClampNeg z27.toNatClampNeg) → Sf (some (.inl (l, z27 + 1, g) : (Int32 × Int32 × (Nat → Int32)) ⊕ (Int32 × (Nat → Int32)))) (LQ (u3 (fun (z26 : Int32) (z27 : Int32) (z28 : Nat → Int32) => Jf D G f0 z26 z28 ∧ 0 ≤ z27 ∧ (z26 = 0 → P0 ∧ ∀ w : Nat, w < z27.toNatClampNeg → OKc x0_changes f0 z20.toNatClampNeg w))) (u3 (fun (z26 : Int32) (z27 : Int32) (z28 : Nat → Int32) => muUp z27)) (muUp z27) (fun e => Jf D G f0 e.1 e.2 ∧ (e.1 = 0 → P0 ∧ ∀ w : Nat, w < 3 → OKc x0_changes f0 z20.toNatClampNeg w))) := by
    intro l g j k
    refine Sf.inl ⟨j, h28, fun h0 => ⟨(hK (k h0).1).1, fun w hw => ?_⟩⟩ (muUp_lt h)
    rw [n28] at hw
    by_cases hx : w = z27.toNatClampNeg
    · subst hx; exact (k h0).2
    · exact (hK (k h0).1).2 w (by omega)
  refine Sf.ite (fun hle => ?_) (fun hle => ?_)
  · refine nxt hJ (fun h0 => ⟨h0, ?_⟩)
    have hg : z28 = f0 := by
      rcases hJ.2.2 with jj | jj
      · exact jj.2
      · rw [h0] at jj; exact absurd jj.1 (by decide)
    unfold OKc
    rw [e34, e32, e33, hg] at hle
    exact hle
  · refine Sf.rdb 36 rfl ix (fun v35 e35 => ?_)
    refine Sf.rdI 12 rfl h_ch ip (fun v36 b36 e36 => ?_)
    rw [nx] at e35
    rw [dn] at e36
    refine Sf.wrb 36 rfl i20 (fun f37 e37 => ?_)
    rw [e37]
    refine nxt (hJ.rlx (v := z20.toNatClampNeg / 3 * 3 + z27.toNatClampNeg) (c := v36) ln (by omega) ?_ ⟨b36.1, Int32.le_trans b36.2 (by decide)⟩ (by rw [e35]) (by rw [e35, e36, ← e33, ← e32, ← e34]; exact hle)) (fun h0 => absurd h0 (by decide))
    have hd := hD (z20.toNatClampNeg / 3) (z20.toNatClampNeg % 3) z27.toNatClampNeg (by omega) (by omega) lw
    rw [e36]
    have a1 : 3 * (z20.toNatClampNeg / 3) + z20.toNatClampNeg % 3 = z20.toNatClampNeg := by omega
    have a2 : 3 * (z20.toNatClampNeg / 3) + z27.toNatClampNeg = z20.toNatClampNeg / 3 * 3 + z27.toNatClampNeg := by omega
    rw [a1, a2] at hd
    exact hd
theorem T_s222 {n : Nat} {P0 : Prop} {D : Nat → Nat → Int → Prop} {G : Nat → Prop} {f0 : Nat → Int32} {x0_changes : (Nat → Int32)} {z19 z20 : Int32} {z21 : (Nat → Int32)} (hn : 1000000000000 ≤ n) (hD : ∀ p w w' : Nat, p < 12 → w < 3 → w' < 3 → D (3 * p + w) (3 * p + w') (x0_changes p).toInt) (h_ch : AI 0 99 x0_changes) (hI : Jf D G f0 z19 z21 ∧ 0 ≤ z20 ∧ (z19 = 0 → P0 ∧ ∀ m : Nat, m < z20.toNatClampNeg → ∀ w : Nat, w < 3 → OKc x0_changes f0 m w)) :
    Sf (fX7_findFar_s222 n x0_changes z19 z20 z21) (LQ (u3 (fun (z19 : Int32) (z20 : Int32) (z21 : Nat → Int32) => Jf D G f0 z19 z21 ∧ 0 ≤ z20 ∧ (z19 = 0 → P0 ∧ ∀ m : Nat, m < z20.toNatClampNeg → ∀ w : Nat, w < 3 → OKc x0_changes f0 m w))) (u3 (fun (z19 : Int32) (z20 : Int32) (z21 : Nat → Int32) => muUp z20)) (muUp z20) (fun e => Jf D G f0 e.1 e.2 ∧ (e.1 = 0 → P0 ∧ ∀ m : Nat, m < 36 → ∀ w : Nat, w < 3 → OKc x0_changes f0 m w))) := by
  unfold fX7_findFar_s222
  obtain ⟨hJ, h20, hK⟩ := hI
  refine Sf.ite (fun h => Sf.inr ⟨hJ, fun h0 => ⟨(hK h0).1, fun m hm => (hK h0).2 m ?_⟩⟩) (fun h => ?_)
  · have a := Int32.le_iff_toInt_le.mp h
    have b := i32_cl h20
    have z3 : (36 : Int32).toInt = 36 := by decide
    rw [z3] at a
    omega
  obtain ⟨h21, n21, hlt⟩ := up1 h20 (by decide) h
  have h35 : 0 ≤ z20 ∧ z20 ≤ 35 := ⟨h20, by
    have a := Int32.lt_iff_toInt_lt.mp hlt
    have y1 : (36 : Int32).toInt = 36 := by decide
    have y2 : (35 : Int32).toInt = 35 := by decide
    exact Int32.le_iff_toInt_le.mpr (by rw [y2]; rw [y1] at a; omega)⟩
  refine Sf.bind (Sf.loop3 (Q := fun e => Jf D G f0 e.1 e.2 ∧ (e.1 = 0 → (P0 ∧ ∀ m : Nat, m < z20.toNatClampNeg → ∀ w : Nat, w < 3 → OKc x0_changes f0 m w) ∧ ∀ w : Nat, w < 3 → OKc x0_changes f0 z20.toNatClampNeg w)) (fun (z26 : Int32) (z27 : Int32) (z28 : Nat → Int32) => Jf D G f0 z26 z28 ∧ 0 ≤ z27 ∧ (z26 = 0 → (P0 ∧ ∀ m : Nat, m < z20.toNatClampNeg → ∀ w : Nat, w < 3 → OKc x0_changes f0 m w) ∧ ∀ w : Nat, w < z27.toNatClampNeg → OKc x0_changes f0 z20.toNatClampNeg w)) (fun (z26 : Int32) (z27 : Int32) (z28 : Nat → Int32) => muUp z27) (fun z26 z27 z28 hh => T_s232 hD h_ch h35 hh) (n := n) (s := (z19, 0, z21)) ⟨hJ, Int32.le_refl _, fun h0 => ⟨hK h0, fun w hw => absurd hw (Nat.not_lt_zero _)⟩⟩ (muUp_n hn)) ?_
  rintro ⟨w30, w31⟩ ⟨j, k⟩
  refine Sf.inl ⟨j, h21, fun h0 => ⟨(k h0).1.1, fun m hm w hw => ?_⟩⟩ (muUp_lt h)
  rw [n21] at hm
  by_cases hx : m = z20.toNatClampNeg
  · subst hx; exact (k h0).2 w hw
  · exact (k h0).1.2 m (by omega) w hw
def faMu (less : Int32) (far : Nat → Int32) : Nat := S36 far + (if less = 0 then 0 else 1)
theorem T_s40 {n : Nat} {G : Nat → Prop} {p2 : Int32} {x0_shelf x0_rowSort x0_rowSize : (Nat → Int32)} {x0_rows : (Nat → Nat → Int64)} {x0_moved : (Nat → Int64)} {x0_shown x0_tape : (Nat → Int32)} {x0_tapeSize : Int32} {x0_refused : (Nat → Int32)} {x0_lines : Int32} {x0_line : (Nat → Nat → Int32)} {x0_changes x0_coins : (Nat → Int32)} {x0_goods : Int32} {x0_good : (Nat → Nat → Int32)} {x0_works : Int32} {x0_work : (Nat → Nat → Int32)} {x0_years x0_gone x0_spent x0_at x0_token x0_from : Int32} {x0_figures : Int64} {x0_fault : Int32} {x0_numbers : (Nat → Int32)} {x0_statements : Int32} {x0_left x0_way : (Nat → Int32)} {x0_steps : Int32} {x0_met : Int64} {x0_queue x0_totals : (Nat → Int32)} {z7 : Int32} {z8 : (Nat → Int32)} (hn : 1000000000000 ≤ n) (h_lines : 0 ≤ x0_lines ∧ x0_lines ≤ 20) (h_x0_line : LnM x0_line) (h_coins : AI 0 9 x0_coins) (h_ch : AI 0 99 x0_changes) (hI : AI 0 1000000000 z8 ∧ At (Ed x0_lines.toNatClampNeg x0_line x0_changes x0_coins x0_left p2) G z8 ∧ (z7 = 0 → (∀ l : Nat, l < x0_lines.toNatClampNeg → ∀ w : Nat, w < 3 → OKl x0_line x0_coins x0_left p2 z8 l w) ∧ (∀ m : Nat, m < 36 → ∀ w : Nat, w < 3 → OKc x0_changes z8 m w))) :
    Sf (fX7_findFar_s40 n p2 x0_shelf x0_rowSort x0_rowSize x0_rows x0_moved x0_shown x0_tape x0_tapeSize x0_refused x0_lines x0_line x0_changes x0_coins x0_goods x0_good x0_works x0_work x0_years x0_gone x0_spent x0_at x0_token x0_from x0_figures x0_fault x0_numbers x0_statements x0_left x0_way x0_steps x0_met x0_queue x0_totals z7 z8) (LQ (u2 (fun (z7 : Int32) (z8 : Nat → Int32) => AI 0 1000000000 z8 ∧ At (Ed x0_lines.toNatClampNeg x0_line x0_changes x0_coins x0_left p2) G z8 ∧ (z7 = 0 → (∀ l : Nat, l < x0_lines.toNatClampNeg → ∀ w : Nat, w < 3 → OKl x0_line x0_coins x0_left p2 z8 l w) ∧ (∀ m : Nat, m < 36 → ∀ w : Nat, w < 3 → OKc x0_changes z8 m w)))) (u2 (fun (z7 : Int32) (z8 : Nat → Int32) => faMu z7 z8)) (faMu z7 z8) (fun e => AI 0 1000000000 e ∧ At (Ed x0_lines.toNatClampNeg x0_line x0_changes x0_coins x0_left p2) G e ∧ (∀ l : Nat, l < x0_lines.toNatClampNeg → ∀ w : Nat, w < 3 → OKl x0_line x0_coins x0_left p2 e l w) ∧ (∀ m : Nat, m < 36 → ∀ w : Nat, w < 3 → OKc x0_changes e m w))) := by
  unfold fX7_findFar_s40
  obtain ⟨hA, hAt, hK⟩ := hI
  refine Sf.ite (fun h => Sf.inr ⟨hA, hAt, hK h⟩) (fun h => ?_)
  have hD : ∀ p w w' : Nat, p < 12 → w < 3 → w' < 3 → (Ed x0_lines.toNatClampNeg x0_line x0_changes x0_coins x0_left p2) (3 * p + w) (3 * p + w') (x0_changes p).toInt := fun p w w' h1 h2 h3 => Or.inr ⟨p, w, w', h1, h2, h3, rfl, rfl, rfl⟩
  refine Sf.bind (Sf.loop3 (Q := fun e => Jf (Ed x0_lines.toNatClampNeg x0_line x0_changes x0_coins x0_left p2) G z8 e.1 e.2 ∧ (e.1 = 0 → ∀ l : Nat, l < x0_lines.toNatClampNeg → ∀ w : Nat, w < 3 → OKl x0_line x0_coins x0_left p2 z8 l w)) (fun (z12 : Int32) (z13 : Int32) (z14 : Nat → Int32) => Jf (Ed x0_lines.toNatClampNeg x0_line x0_changes x0_coins x0_left p2) G z8 z12 z14 ∧ 0 ≤ z13 ∧ (z12 = 0 → ∀ l : Nat, l < z13.toNatClampNeg → ∀ w : Nat, w < 3 → OKl x0_line x0_coins x0_left p2 z8 l w)) (fun (z12 : Int32) (z13 : Int32) (z14 : Nat → Int32) => muUp z13) (fun z12 z13 z14 hh => T_s49 hn h_lines h_x0_line h_coins hh) (n := n) (s := (0, 0, z8)) ⟨⟨hA, hAt, Or.inl ⟨rfl, rfl⟩⟩, Int32.le_refl _, fun _ l hl => absurd hl (Nat.not_lt_zero _)⟩ (muUp_n hn)) ?_
  rintro ⟨w16, w17⟩ ⟨j, k⟩
  refine Sf.bind (Sf.loop3 (Q := fun e => Jf (Ed x0_lines.toNatClampNeg x0_line x0_changes x0_coins x0_left p2) G z8 e.1 e.2 ∧ (e.1 = 0 → (∀ l : Nat, l < x0_lines.toNatClampNeg → ∀ w : Nat, w < 3 → OKl x0_line x0_coins x0_left p2 z8 l w) ∧ ∀ m : Nat, m < 36 → ∀ w : Nat, w < 3 → OKc x0_changes z8 m w)) (fun (z19 : Int32) (z20 : Int32) (z21 : Nat → Int32) => Jf (Ed x0_lines.toNatClampNeg x0_line x0_changes x0_coins x0_left p2) G z8 z19 z21 ∧ 0 ≤ z20 ∧ (z19 = 0 → (∀ l : Nat, l < x0_lines.toNatClampNeg → ∀ w : Nat, w < 3 → OKl x0_line x0_coins x0_left p2 z8 l w) ∧ ∀ m : Nat, m < z20.toNatClampNeg → ∀ w : Nat, w < 3 → OKc x0_changes z8 m w)) (fun (z19 : Int32) (z20 : Int32) (z21 : Nat → Int32) => muUp z20) (fun z19 z20 z21 hh => T_s222 hn hD h_ch hh) (n := n) (s := (w16, 0, w17)) ⟨j, Int32.le_refl _, fun h0 => ⟨k h0, fun m hm => absurd hm (Nat.not_lt_zero _)⟩⟩ (muUp_n hn)) ?_
  rintro ⟨w23, w24⟩ ⟨j2, k2⟩
  refine Sf.inl ⟨j2.1, j2.2.1, fun h0 => ?_⟩ ?_
  · have hg : w24 = z8 := by
      rcases j2.2.2 with jj | jj
      · exact jj.2
      · rw [h0] at jj; exact absurd jj.1 (by decide)
    rw [hg]
    exact k2 h0
  · show faMu w23 w24 < faMu z7 z8
    unfold faMu
    rw [if_neg h]
    rcases j2.2.2 with ⟨ja, jb⟩ | ⟨ja, jb⟩
    · have ja : w23 = 0 := ja
      have jb : w24 = z8 := jb
      rw [if_pos ja, jb]; omega
    · have ja : w23 = 1 := ja
      have jb : S36 w24 < S36 z8 := jb
      rw [if_neg (by rw [ja]; decide)]; omega

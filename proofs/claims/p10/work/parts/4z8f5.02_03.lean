theorem T_s232 {P0 : Prop} {D : Nat → Nat → Int → Prop} {G : Nat → Prop} {f0 : Nat → Int32} {x0_changes : (Nat → Int32)} {z20 z26 z27 : Int32} {z28 : (Nat → Int32)} (hD : ∀ p w w' : Nat, p < 12 → w < 3 → w' < 3 → D (3 * p + w) (3 * p + w') (x0_changes p).toInt) (h_ch : AI 0 99 x0_changes) (h20 : 0 ≤ z20 ∧ z20 ≤ 35) (hI : Jf D G f0 z26 z28 ∧ 0 ≤ z27 ∧ (z26 = 0 → P0 ∧ ∀ w : Nat, w < z27.toNatClampNeg → OKc x0_changes f0 z20.toNatClampNeg w)) :
    Sf (fX7_findFar_s232 x0_changes z20 z26 z27 z28) (LQ (u3 (fun (z26 : Int32) (z27 : Int32) (z28 : Nat → Int32) => Jf D G f0 z26 z28 ∧ 0 ≤ z27 ∧ (z26 = 0 → P0 ∧ ∀ w : Nat, w < z27.toNatClampNeg → OKc x0_changes f0 z20.toNatClampNeg w))) (u3 (fun (z26 : Int32) (z27 : Int32) (z28 : Nat → Int32) => muUp z27)) (muUp z27) (fun e => Jf D G f0 e.1 e.2 ∧ (e.1 = 0 → P0 ∧ ∀ w : Nat, w < 3 → OKc x0_changes f0 z20.toNatClampNeg w))) := by
  unfold fX7_findFar_s232
  obtain ⟨hJ, h27, hK⟩ := hI
  refine Sf.ite (fun h => Sf.inr ⟨hJ, fun h0 => ⟨(hK h0).1, fun w hw => (hK h0).2 w ?_⟩⟩) (fun h => ?_)
  · have a := Int32.le_iff_toInt_le.mp h
    have b := i32_cl h27
    have z3 : (3 : Int32).toInt = 3 := by decide
    rw [z3] at a
    omega
  obtain ⟨h28, n28, hlt⟩ := up1 h27 (by decide) h
  have lw : z27.toNatClampNeg < 3 := i32_lt (M := 3) rfl ⟨h27, hlt⟩
  obtain ⟨d0, d1, d2, d3⟩ := dv3 h20
  have dn := dv_n h20
  have ln : z20.toNatClampNeg < 36 := i32_lt (M := 36) rfl ⟨h20.1, Int32.lt_of_le_of_lt h20.2 (by decide)⟩
  have nx : ((z20 / 3) * 3 + z27).toNatClampNeg = z20.toNatClampNeg / 3 * 3 + z27.toNatClampNeg := by
    have := ixm (p := z20 / 3) (m := 3) (c := z27) ⟨d0, Int32.le_trans d1 (by decide)⟩ (by decide) ⟨h27, Int32.le_of_lt (Int32.lt_trans hlt (by decide))⟩
    rw [this, dn]
    rfl
  have ix : 0 ≤ (z20 / 3) * 3 + z27 ∧ (z20 / 3) * 3 + z27 < 36 := by
    generalize z20 / 3 = y at d0 d1
    clear d2 d3 h20
    grind
  have ip : 0 ≤ z20 / 3 ∧ z20 / 3 < 12 := ⟨d0, Int32.lt_of_le_of_lt d1 (by decide)⟩
  have i20 : 0 ≤ z20 ∧ z20 < 36 := ⟨h20.1, Int32.lt_of_le_of_lt h20.2 (by decide)⟩
  refine Sf.rdb 36 rfl ix (fun v32 e32 => ?_)
  refine Sf.rdI 12 rfl h_ch ip (fun v33 b33 e33 => ?_)
  refine Sf.rdb 36 rfl i20 (fun v34 e34 => ?_)
  rw [nx] at e32
  rw [dn] at e33
  have nxt : ∀ {l : Int32} {g : Nat → Int32}, Jf D G f0 l g → (l = 0 → z26 = 0 ∧ OKc x0_changes f0 z20.toNatClampNeg z27.toNatClampNeg) → Sf (some (.inl (l, z27 + 1, g) : (Int32 × Int32 × (Nat → Int32)) ⊕ (Int32 × (Nat → Int32)))) (LQ (u3 (fun (z26 : Int32) (z27 : Int32) (z28 : Nat → Int32) => Jf D G f0 z26 z28 ∧ 0 ≤ z27 ∧ (z26 = 0 → P0 ∧ ∀ w : Nat, w < z27.toNatClampNeg → OKc x0_changes f0 z20.toNatClampNeg w))) (u3 (fun (z26 : Int32) (z27 : Int32) (z28 : Nat → Int32) => muUp z27)) (muUp z27) (fun e => Jf D G f0 e.1 e.2 ∧ (e.1 = 0 → P0 ∧ ∀ w : Nat, w < 3 → OKc x0_changes f0 z20.toNatClampNeg w))) := by
    intro l g j k
    refine Sf.inl ⟨j, h28, fun h0 => ⟨(hK (k h0).1).1, fun w hw => ?_⟩⟩ (muUp_lt h)
    rw [n28] at hw
    by_cases hx : w = z27.toNatClampNeg
    · subst hx; exact (k h0).2
    · exact (hK (k h0).1).2 w (by omega)
  refine Sf.ite (fun hle => ?_) (fun hle => ?_)
  · refine nxt hJ (fun h0 => ⟨h0, ?_⟩)
    have hg : z28 = f0 := by
      rcases hJ.2.2 with jj | jj
      · exact jj.2
      · rw [h0] at jj; exact absurd jj.1 (by decide)
    unfold OKc
    rw [e34, e32, e33, hg] at hle
    exact hle
  · refine Sf.rdb 36 rfl ix (fun v35 e35 => ?_)
    refine Sf.rdI 12 rfl h_ch ip (fun v36 b36 e36 => ?_)
    rw [nx] at e35
    rw [dn] at e36
    refine Sf.wrb 36 rfl i20 (fun f37 e37 => ?_)
    rw [e37]
    refine nxt (hJ.rlx (v := z20.toNatClampNeg / 3 * 3 + z27.toNatClampNeg) (c := v36) ln (by omega) ?_ ⟨b36.1, Int32.le_trans b36.2 (by decide)⟩ (by rw [e35]) (by rw [e35, e36, ← e33, ← e32, ← e34]; exact hle)) (fun h0 => absurd h0 (by decide))
    have hd := hD (z20.toNatClampNeg / 3) (z20.toNatClampNeg % 3) z27.toNatClampNeg (by omega) (by omega) lw
    rw [e36]
    have a1 : 3 * (z20.toNatClampNeg / 3) + z20.toNatClampNeg % 3 = z20.toNatClampNeg := by omega
    have a2 : 3 * (z20.toNatClampNeg / 3) + z27.toNatClampNeg = z20.toNatClampNeg / 3 * 3 + z27.toNatClampNeg := by omega
    rw [a1, a2] at hd
    exact hd

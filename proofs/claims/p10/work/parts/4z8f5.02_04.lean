theorem T_s222 {n : Nat} {P0 : Prop} {D : Nat → Nat → Int → Prop} {G : Nat → Prop} {f0 : Nat → Int32} {x0_changes : (Nat → Int32)} {z19 z20 : Int32} {z21 : (Nat → Int32)} (hn : 1000000000000 ≤ n) (hD : ∀ p w w' : Nat, p < 12 → w < 3 → w' < 3 → D (3 * p + w) (3 * p + w') (x0_changes p).toInt) (h_ch : AI 0 99 x0_changes) (hI : Jf D G f0 z19 z21 ∧ 0 ≤ z20 ∧ (z19 = 0 → P0 ∧ ∀ m : Nat, m < z20.toNatClampNeg → ∀ w : Nat, w < 3 → OKc x0_changes f0 m w)) :
    Sf (fX7_findFar_s222 n x0_changes z19 z20 z21) (LQ (u3 (fun (z19 : Int32) (z20 : Int32) (z21 : Nat → Int32) => Jf D G f0 z19 z21 ∧ 0 ≤ z20 ∧ (z19 = 0 → P0 ∧ ∀ m : Nat, m < z20.toNatClampNeg → ∀ w : Nat, w < 3 → OKc x0_changes f0 m w))) (u3 (fun (z19 : Int32) (z20 : Int32) (z21 : Nat → Int32) => muUp z20)) (muUp z20) (fun e => Jf D G f0 e.1 e.2 ∧ (e.1 = 0 → P0 ∧ ∀ m : Nat, m < 36 → ∀ w : Nat, w < 3 → OKc x0_changes f0 m w))) := by
  unfold fX7_findFar_s222
  obtain ⟨hJ, h20, hK⟩ := hI
  refine Sf.ite (fun h => Sf.inr ⟨hJ, fun h0 => ⟨(hK h0).1, fun m hm => (hK h0).2 m ?_⟩⟩) (fun h => ?_)
  · have a := Int32.le_iff_toInt_le.mp h
    have b := i32_cl h20
    have z3 : (36 : Int32).toInt = 36 := by decide
    rw [z3] at a
    omega
  obtain ⟨h21, n21, hlt⟩ := up1 h20 (by decide) h
  have h35 : 0 ≤ z20 ∧ z20 ≤ 35 := ⟨h20, by
    have a := Int32.lt_iff_toInt_lt.mp hlt
    have y1 : (36 : Int32).toInt = 36 := by decide
    have y2 : (35 : Int32).toInt = 35 := by decide
    exact Int32.le_iff_toInt_le.mpr (by rw [y2]; rw [y1] at a; omega)⟩
  refine Sf.bind (Sf.loop3 (Q := fun e => Jf D G f0 e.1 e.2 ∧ (e.1 = 0 → (P0 ∧ ∀ m : Nat, m < z20.toNatClampNeg → ∀ w : Nat, w < 3 → OKc x0_changes f0 m w) ∧ ∀ w : Nat, w < 3 → OKc x0_changes f0 z20.toNatClampNeg w)) (fun (z26 : Int32) (z27 : Int32) (z28 : Nat → Int32) => Jf D G f0 z26 z28 ∧ 0 ≤ z27 ∧ (z26 = 0 → (P0 ∧ ∀ m : Nat, m < z20.toNatClampNeg → ∀ w : Nat, w < 3 → OKc x0_changes f0 m w) ∧ ∀ w : Nat, w < z27.toNatClampNeg → OKc x0_changes f0 z20.toNatClampNeg w)) (fun (z26 : Int32) (z27 : Int32) (z28 : Nat → Int32) => muUp z27) (fun z26 z27 z28 hh => T_s232 hD h_ch h35 hh) (n := n) (s := (z19, 0, z21)) ⟨hJ, Int32.le_refl _, fun h0 => ⟨hK h0, fun w hw => absurd hw (Nat.not_lt_zero _)⟩⟩ (muUp_n hn)) ?_
  rintro ⟨w30, w31⟩ ⟨j, k⟩
  refine Sf.inl ⟨j, h21, fun h0 => ⟨(k h0).1.1, fun m hm w hw => ?_⟩⟩ (muUp_lt h)
  rw [n21] at hm
  by_cases hx : m = z20.toNatClampNeg
  · subst hx; exact (k h0).2 w hw
  · exact (k h0).1.2 m (by omega) w hw

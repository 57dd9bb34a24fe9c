theorem dv_n {x : Int32} (h : 0 ≤ x ∧ x ≤ 35) : (x / 3).toNatClampNeg = x.toNatClampNeg / 3 := by
  have e : x = Int32.ofNat x.toNatClampNeg := (Int32.ofNat_toNatClampNeg x h.1).symm
  have hl : x.toNatClampNeg < 36 := i32_lt (M := 36) rfl ⟨h.1, Int32.lt_of_le_of_lt h.2 (by decide)⟩
  have key : ∀ i : Fin 36, ((Int32.ofNat i.1) / 3).toNatClampNeg = i.1 / 3 := by decide +kernel
  have := key ⟨_, hl⟩
  rw [e]
  have e2 : (Int32.ofNat x.toNatClampNeg).toNatClampNeg = x.toNatClampNeg := by rw [← e]
  rw [e2]
  exact this

theorem up1 {z : Int32} {B : Int32} (h0 : 0 ≤ z) (hB : B ≤ 1000) (h : ¬ B ≤ z) : 0 ≤ z + 1 ∧ (z + 1).toNatClampNeg = z.toNatClampNeg + 1 ∧ z < B := by
  have hl := Int32.not_le.mp h
  have a := Int32.lt_iff_toInt_lt.mp hl
  have b := Int32.le_iff_toInt_le.mp hB
  have z1 : (1000 : Int32).toInt = 1000 := by decide
  have z2 : (1 : Int32).toInt = 1 := by decide
  have z0 : (0 : Int32).toInt = 0 := by decide
  rw [z1] at b
  have c := i32_nn h0
  have e : (z + 1).toInt = z.toInt + 1 := by rw [i32_add (by omega) (by omega), z2]
  have p : 0 ≤ z + 1 := Int32.le_iff_toInt_le.mpr (by rw [e, z0]; omega)
  have q := i32_cl p
  have r := i32_cl h0
  exact ⟨p, by omega, hl⟩

theorem st9 {x p : Int32} (h : 0 ≤ x ∧ x ≤ 35) (hp : 0 ≤ p ∧ p ≤ 22) (hc : ¬ 3 ≤ p) : 0 ≤ x / 3 * 3 + p ∧ x / 3 * 3 + p < 36 := by
  obtain ⟨h1, h2, _, _⟩ := dv3 h
  generalize x / 3 = y at h1 h2
  clear h
  grind

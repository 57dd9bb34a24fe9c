/-! the least of a place's three -/
def Ls (F : Int32) (A : Nat → Int32) (p : Nat) (m : Int32) : Prop := (∀ w : Nat, w < 3 → m ≤ A (3 * p + w)) ∧ m ≤ F ∧ (m = F ∨ ∃ w : Nat, w < 3 ∧ m = A (3 * p + w))
def Ll (F : Int32) (A : Nat → Int32) (p : Nat) (z2 z3 : Int32) : Prop := 0 ≤ z3 ∧ (∀ w : Nat, w < z3.toNatClampNeg → w < 3 → z2 ≤ A (3 * p + w)) ∧ z2 ≤ F ∧ (z2 = F ∨ ∃ w : Nat, w < 3 ∧ z2 = A (3 * p + w))
theorem costL {n : Nat} {p1 : Int32} {A : Nat → Int32} (hn : 1000000000000 ≤ n) (hp : 0 ≤ p1 ∧ p1 ≤ 11) : Sf (lp (u2 (fX5_costFrom_s5 p1 A)) n (1000000, 0)) (Ls 1000000 A p1.toNatClampNeg) := by
  refine Sf.loop2 (Ll 1000000 A p1.toNatClampNeg) (fun z2 z3 => muUp z3) (fun z2 z3 h => ?_) (show Ll 1000000 A p1.toNatClampNeg 1000000 0 from ⟨Int32.le_refl 0, fun w hw => absurd hw (Nat.not_lt_zero w), Int32.le_refl _, Or.inl rfl⟩) (muUp_n hn)
  obtain ⟨h0, h1, h2, h3⟩ := h
  unfold fX5_costFrom_s5
  refine Sf.ite (fun hc => ?_) (fun hc => ?_)
  · exact Sf.inr ⟨fun w hw => h1 w (c3 h0 hc hw) hw, h2, h3⟩
  · obtain ⟨q0, q1, q2⟩ := up1 h0 (by decide) hc
    obtain ⟨hi, he⟩ := ix3' hp ⟨h0, q2⟩
    refine Sf.rdb 36 rfl hi (fun v6 e6 => ?_)
    rw [he] at e6
    refine Sf.ite (fun hc2 => ?_) (fun hc2 => ?_)
    · refine Sf.inl (show Ll 1000000 A p1.toNatClampNeg z2 (z3 + 1) from ⟨q0, fun w hw hw2 => ?_, h2, h3⟩) (muUp_lt hc)
      rw [q1] at hw
      by_cases hlt : w < z3.toNatClampNeg
      · exact h1 w hlt hw2
      · have ew : w = z3.toNatClampNeg := by omega
        subst ew
        rw [← e6]
        exact hc2
    · refine Sf.rdb 36 rfl hi (fun v7 e7 => ?_)
      rw [he] at e7
      have hle : v7 ≤ z2 := by rw [e7, ← e6]; exact Int32.le_of_lt (Int32.not_le.mp hc2)
      refine Sf.inl (show Ll 1000000 A p1.toNatClampNeg v7 (z3 + 1) from ⟨q0, fun w hw hw2 => ?_, Int32.le_trans hle h2, Or.inr ⟨z3.toNatClampNeg, (w_of ⟨h0, q2⟩).2, e7⟩⟩) (muUp_lt hc)
      rw [q1] at hw
      by_cases hlt : w < z3.toNatClampNeg
      · exact Int32.le_trans hle (h1 w hlt hw2)
      · have ew : w = z3.toNatClampNeg := by omega
        subst ew
        rw [e7]
        exact Int32.le_refl _
theorem leastL {n : Nat} {p1 : Int32} {A : Nat → Int32} (hn : 1000000000000 ≤ n) (hp : 0 ≤ p1 ∧ p1 ≤ 11) : Sf (lp (u2 (fX7_least_s5 p1 A)) n (1000000000, 0)) (Ls 1000000000 A p1.toNatClampNeg) := by
  refine Sf.loop2 (Ll 1000000000 A p1.toNatClampNeg) (fun z2 z3 => muUp z3) (fun z2 z3 h => ?_) (show Ll 1000000000 A p1.toNatClampNeg 1000000000 0 from ⟨Int32.le_refl 0, fun w hw => absurd hw (Nat.not_lt_zero w), Int32.le_refl _, Or.inl rfl⟩) (muUp_n hn)
  obtain ⟨h0, h1, h2, h3⟩ := h
  unfold fX7_least_s5
  refine Sf.ite (fun hc => ?_) (fun hc => ?_)
  · exact Sf.inr ⟨fun w hw => h1 w (c3 h0 hc hw) hw, h2, h3⟩
  · obtain ⟨q0, q1, q2⟩ := up1 h0 (by decide) hc
    obtain ⟨hi, he⟩ := ix3 hp ⟨h0, q2⟩
    refine Sf.rdb 36 rfl hi (fun v6 e6 => ?_)
    rw [he] at e6
    refine Sf.ite (fun hc2 => ?_) (fun hc2 => ?_)
    · refine Sf.inl (show Ll 1000000000 A p1.toNatClampNeg z2 (z3 + 1) from ⟨q0, fun w hw hw2 => ?_, h2, h3⟩) (muUp_lt hc)
      rw [q1] at hw
      by_cases hlt : w < z3.toNatClampNeg
      · exact h1 w hlt hw2
      · have ew : w = z3.toNatClampNeg := by omega
        subst ew
        rw [← e6]
        exact hc2
    · refine Sf.rdb 36 rfl hi (fun v7 e7 => ?_)
      rw [he] at e7
      have hle : v7 ≤ z2 := by rw [e7, ← e6]; exact Int32.le_of_lt (Int32.not_le.mp hc2)
      refine Sf.inl (show Ll 1000000000 A p1.toNatClampNeg v7 (z3 + 1) from ⟨q0, fun w hw hw2 => ?_, Int32.le_trans hle h2, Or.inr ⟨z3.toNatClampNeg, (w_of ⟨h0, q2⟩).2, e7⟩⟩) (muUp_lt hc)
      rw [q1] at hw
      by_cases hlt : w < z3.toNatClampNeg
      · exact Int32.le_trans hle (h1 w hlt hw2)
      · have ew : w = z3.toNatClampNeg := by omega
        subst ew
        rw [e7]
        exact Int32.le_refl _
/-- the two least ones: both none, or the same -/
theorem Ls_eq {far : Nat → Int32} {p : Nat} {m m2 : Int32} (hb : ∀ w : Nat, w < 3 → far (3 * p + w) < 1000000000 → far (3 * p + w) < 1000000) (h : Ls 1000000 (cut6 far) p m) (h2 : Ls 1000000000 far p m2) : (1000000 ≤ m ∧ 1000000000 ≤ m2) ∨ (m < 1000000 ∧ m2 < 1000000000 ∧ m = m2) := by
  obtain ⟨a1, a2, a3⟩ := h
  obtain ⟨b1, b2, b3⟩ := h2
  have val : ∀ v, (far v < 1000000000 → cut6 far v = far v) ∧ (¬ far v < 1000000000 → cut6 far v = 1000000) := by
    intro v
    unfold cut6
    exact ⟨fun h => if_pos h, fun h => if_neg h⟩
  by_cases hx : ∃ w : Nat, w < 3 ∧ far (3 * p + w) < 1000000000
  · obtain ⟨w, hw, hf⟩ := hx
    have c1 := a1 w hw
    rw [(val _).1 hf] at c1
    have hm : m < 1000000 := Int32.lt_of_le_of_lt c1 (hb w hw hf)
    have hm2 : m2 < 1000000000 := Int32.lt_of_le_of_lt (b1 w hw) hf
    refine Or.inr ⟨hm, hm2, ?_⟩
    rcases a3 with e | ⟨x, hx, ex⟩
    · rw [e] at hm; exact absurd hm (by decide)
    · rcases b3 with e | ⟨y, hy, ey⟩
      · rw [e] at hm2; exact absurd hm2 (by decide)
      · have fx : far (3 * p + x) < 1000000000 := by
          refine Classical.byContradiction fun hn => ?_
          rw [ex, (val _).2 hn] at hm
          exact absurd hm (by decide)
        rw [(val _).1 fx] at ex
        have fy : far (3 * p + y) < 1000000000 := by rw [← ey]; exact hm2
        have d1 := b1 x hx
        have d2 := a1 y hy
        rw [(val _).1 fy, ← ey] at d2
        rw [← ex] at d1
        exact Int32.le_antisymm d2 d1
  · refine Or.inl ⟨?_, ?_⟩
    · rcases a3 with e | ⟨x, hx2, ex⟩
      · rw [e]; decide
      · rw [ex, (val _).2 (fun hf => hx ⟨x, hx2, hf⟩)]; decide
    · rcases b3 with e | ⟨x, hx2, ex⟩
      · rw [e]; decide
      · rw [ex]; exact Int32.not_lt.mp (fun hf => hx ⟨x, hx2, hf⟩)

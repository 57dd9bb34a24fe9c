/-! bits of an int: the lines that are there -/
def tq (s : Int32) (v : Nat) : Bool := s.toBitVec.getLsbD v
theorem sh_q {k : Nat} (h : k < 31) : ((Int32.ofNat k &&& 31).toBitVec.smod 32) = BitVec.ofNat 32 k := by
  have key : ∀ i : Fin 31, ((Int32.ofNat i.1 &&& 31).toBitVec.smod 32) = BitVec.ofNat 32 i.1 := by decide +kernel
  exact key ⟨k, h⟩
theorem tq_get {s : Int32} {k : Nat} (h : k < 31) : ((s >>> (Int32.ofNat k &&& 31)) &&& 1) = 0 ↔ tq s k = false := by
  have ea := sh_q h
  rw [← Int32.toBitVec_inj, Int32.toBitVec_and, Int32.toBitVec_shiftRight, ea, BitVec.sshiftRight_eq']
  have e1 : (BitVec.ofNat 32 k).toNat = k := by
    rw [BitVec.toNat_ofNat]
    omega
  rw [e1]
  have b1 : (1 : Int32).toBitVec = 1#32 := rfl
  have b0 : (0 : Int32).toBitVec = 0#32 := rfl
  rw [b1, b0]
  unfold tq
  constructor
  · intro hz
    have := congrArg (fun x => x.getLsbD 0) hz
    simp only [BitVec.getLsbD_and, BitVec.getLsbD_sshiftRight, BitVec.getLsbD_one, BitVec.getLsbD_zero] at this
    rw [if_pos (by omega)] at this
    simpa using this
  · intro hz
    apply BitVec.eq_of_getLsbD_eq
    intro i hi
    simp only [BitVec.getLsbD_and, BitVec.getLsbD_sshiftRight, BitVec.getLsbD_one, BitVec.getLsbD_zero]
    by_cases h0 : i = 0
    · subst h0
      rw [if_pos (by omega), Nat.add_zero, hz]
      simp
    · simp [h0]
theorem tq_set {s : Int32} {k : Nat} (h : k < 31) (u : Nat) (hu : u < 31) : tq (s ||| ((1 : Int32) <<< (Int32.ofNat k &&& 31))) u = (tq s u || decide (u = k)) := by
  have ea := sh_q h
  unfold tq
  rw [Int32.toBitVec_or, Int32.toBitVec_shiftLeft, ea, BitVec.getLsbD_or]
  have b1 : (1 : Int32).toBitVec = 1#32 := rfl
  rw [b1, BitVec.shiftLeft_eq']
  have e1 : (BitVec.ofNat 32 k).toNat = k := by
    rw [BitVec.toNat_ofNat]
    omega
  rw [e1, BitVec.getLsbD_shiftLeft, BitVec.getLsbD_one]
  congr 1
  by_cases hk : u = k
  · subst hk
    simp
    omega
  · by_cases hlt : u < k
    · simp [hlt, hk]
    · have : u - k ≠ 0 := by omega
      simp [hlt, hk, this]
theorem tq_zero (u : Nat) : tq 0 u = false := by
  unfold tq
  have b0 : (0 : Int32).toBitVec = 0#32 := rfl
  rw [b0]
  simp
/-- linesThere: the bits of the lines that are not washed -/
theorem thereS {n : Nat} {lc gc wc yr ik : Int32} {lines goods works chg coin kf : Nat → Int32} (hn : 1000000000000 ≤ n) (hlc : 0 ≤ lc ∧ lc ≤ 20) : Sf (fX1_linesThere n (lc, gc, wc, yr, lines, goods, works, chg, coin, kf, ik)) (fun r => ∀ l, l < 20 → (tq r l = true ↔ (l < lc.toNatClampNeg ∧ lines (7 * l + 6) = 0))) := by
  unfold fX1_linesThere
  dsimp only [u11]
  refine Sf.bind (P := fun r => ∀ l, l < 20 → (tq r l = true ↔ (l < lc.toNatClampNeg ∧ lines (7 * l + 6) = 0))) ?_ (fun r h => Sf.ok h)
  refine Sf.loop2 (fun (z2 z3 : Int32) => (0 ≤ z3 ∧ z3 ≤ lc) ∧ ∀ l, l < 20 → (tq z2 l = true ↔ (l < z3.toNatClampNeg ∧ lines (7 * l + 6) = 0))) (fun z2 z3 => muUp z3) (fun z2 z3 h => ?_) ⟨⟨Int32.le_refl 0, hlc.1⟩, fun l hl => ?_⟩ (muUp_n hn)
  · obtain ⟨h0, h1⟩ := h
    have nz := i32_cl h0.1
    have nl := i32_cl hlc.1
    have iz := Int32.le_iff_toInt_le.mp h0.2
    unfold fX1_linesThere_s4
    refine Sf.ite (fun hc => ?_) (fun hc => ?_)
    · refine Sf.inr fun l hl => ?_
      have ic := Int32.le_iff_toInt_le.mp hc
      have ez : z3.toNatClampNeg = lc.toNatClampNeg := by omega
      rw [← ez]
      exact h1 l hl
    · obtain ⟨p0, p1, p3⟩ := up1 h0.1 (Int32.le_trans hlc.2 (by decide)) hc
      have hz20 : 0 ≤ z3 ∧ z3 < 20 := ⟨h0.1, Int32.lt_of_lt_of_le p3 hlc.2⟩
      have n20 : z3.toNatClampNeg < 20 := i32_lt (M := 20) rfl hz20
      have ez3 : Int32.ofNat z3.toNatClampNeg = z3 := Int32.ofNat_toNatClampNeg z3 h0.1
      have hz1 : z3 + 1 ≤ lc := by
        have q := Int32.lt_iff_toInt_lt.mp p3
        have r := i32_cl p0
        exact Int32.le_iff_toInt_le.mpr (by omega)
      refine Sf.bind (ofLineV hz20 ⟨by decide, by decide⟩) ?_
      intro v6 e6
      have e6' : (6 : Int32).toNatClampNeg = 6 := by decide
      rw [e6'] at e6
      refine Sf.ite (fun hv => ?_) (fun hv => ?_)
      · refine Sf.someb (fun t8 e8 => ?_)
        refine Sf.inl ⟨⟨p0, hz1⟩, fun l hl => ?_⟩ (muUp_lt hc)
        rw [e8, ← ez3, tq_set (by omega) l (by omega), ez3, p1]
        have q := h1 l hl
        rw [Bool.or_eq_true, decide_eq_true_eq, q]
        constructor
        · rintro (⟨a, b⟩ | rfl)
          · exact ⟨by omega, b⟩
          · exact ⟨by omega, by rw [← e6]; exact hv⟩
        · rintro ⟨a, b⟩
          by_cases hz : l = z3.toNatClampNeg
          · exact Or.inr hz
          · exact Or.inl ⟨by omega, b⟩
      · refine Sf.inl ⟨⟨p0, hz1⟩, fun l hl => ?_⟩ (muUp_lt hc)
        rw [p1]
        have q := h1 l hl
        rw [q]
        constructor
        · rintro ⟨a, b⟩
          exact ⟨by omega, b⟩
        · rintro ⟨a, b⟩
          refine ⟨?_, b⟩
          have hz : l ≠ z3.toNatClampNeg := by
            intro e
            subst e
            rw [← e6] at b
            exact hv b
          omega
  · rw [tq_zero]
    constructor
    · intro h
      cases h
    · intro h
      exact absurd h.1 (Nat.not_lt_zero _)

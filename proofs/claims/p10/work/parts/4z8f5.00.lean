/-! bits of a long -/
def tb (s : Int64) (v : Nat) : Bool := s.toBitVec.getLsbD v
theorem lgc_eq (x y : Int64) : lg_cmp x y = 0 ↔ x = y := by
  unfold lg_cmp
  by_cases h1 : x > y
  · rw [if_pos h1]
    constructor
    · intro h; exact absurd h (by decide)
    · intro h; subst h; exact absurd (Int64.lt_iff_toInt_lt.mp h1) (by omega)
  · rw [if_neg h1]
    by_cases h2 : x = y
    · rw [if_pos h2]; exact ⟨fun _ => h2, fun _ => rfl⟩
    · rw [if_neg h2]
      exact ⟨fun h => absurd h (by decide), fun h => absurd h h2⟩
theorem sh_am {v : Int32} (h : 0 ≤ v ∧ v ≤ 35) : ((v.toInt64 &&& 63).toBitVec.smod 64) = BitVec.ofNat 64 v.toNatClampNeg ∧ v.toNatClampNeg < 36 := by
  have e : v = Int32.ofNat v.toNatClampNeg := (Int32.ofNat_toNatClampNeg v h.1).symm
  have hl : v.toNatClampNeg < 36 := i32_lt (M := 36) rfl (by grind)
  have key : ∀ i : Fin 36, (((Int32.ofNat i.1).toInt64 &&& 63).toBitVec.smod 64) = BitVec.ofNat 64 i.1 := by decide +kernel
  refine ⟨?_, hl⟩
  have := key ⟨_, hl⟩
  rw [e]
  have e2 : (Int32.ofNat v.toNatClampNeg).toNatClampNeg = v.toNatClampNeg := by rw [← e]
  rw [e2]
  exact this
theorem tb_get {s : Int64} {v : Int32} (h : 0 ≤ v ∧ v ≤ 35) : (lg_cmp ((s >>> (v.toInt64 &&& 63)) &&& 1) 0 = 0) ↔ tb s v.toNatClampNeg = false := by
  obtain ⟨ea, hl⟩ := sh_am h
  rw [lgc_eq, ← Int64.toBitVec_inj, Int64.toBitVec_and, Int64.toBitVec_shiftRight, ea, BitVec.sshiftRight_eq']
  generalize v.toNatClampNeg = k at hl
  have e1 : (BitVec.ofNat 64 k).toNat = k := by
    rw [BitVec.toNat_ofNat]
    omega
  rw [e1]
  have b1 : (1 : Int64).toBitVec = 1#64 := rfl
  have b0 : (0 : Int64).toBitVec = 0#64 := rfl
  rw [b1, b0]
  unfold tb
  constructor
  · intro hz
    have := congrArg (fun x => x.getLsbD 0) hz
    simp only [BitVec.getLsbD_and, BitVec.getLsbD_sshiftRight, BitVec.getLsbD_one, BitVec.getLsbD_zero] at this
    rw [if_pos (by omega)] at this
    simpa using this
  · intro hz
    apply BitVec.eq_of_getLsbD_eq
    intro i hi
    simp only [BitVec.getLsbD_and, BitVec.getLsbD_sshiftRight, BitVec.getLsbD_one, BitVec.getLsbD_zero]
    by_cases h0 : i = 0
    · subst h0
      rw [if_pos (by omega), Nat.add_zero, hz]
      simp
    · simp [h0]
theorem tb_set {s : Int64} {v : Int32} (h : 0 ≤ v ∧ v ≤ 35) (u : Nat) (hu : u < 36) : tb (s ||| ((1 : Int64) <<< (v.toInt64 &&& 63))) u = (tb s u || decide (u = v.toNatClampNeg)) := by
  obtain ⟨ea, hl⟩ := sh_am h
  unfold tb
  rw [Int64.toBitVec_or, Int64.toBitVec_shiftLeft, ea, BitVec.getLsbD_or]
  generalize v.toNatClampNeg = k at hl
  have b1 : (1 : Int64).toBitVec = 1#64 := rfl
  rw [b1, BitVec.shiftLeft_eq']
  have e1 : (BitVec.ofNat 64 k).toNat = k := by
    rw [BitVec.toNat_ofNat]
    omega
  rw [e1, BitVec.getLsbD_shiftLeft, BitVec.getLsbD_one]
  congr 1
  by_cases hk : u = k
  · subst hk
    simp
    omega
  · by_cases hlt : u < k
    · simp [hlt, hk]
    · have : u - k ≠ 0 := by omega
      simp [hlt, hk, this]
theorem tb_zero (u : Nat) : tb 0 u = false := by
  unfold tb
  have b0 : (0 : Int64).toBitVec = 0#64 := rfl
  rw [b0, BitVec.getLsbD_zero]
/-! how many of the 36 nodes are in a set -/
def cnt (s : Int64) : Nat := ((List.range 36).map (fun v => if tb s v = true then 1 else 0)).sum
theorem sum_le1 {f : Nat → Nat} (h : ∀ k, f k ≤ 1) : ∀ l : List Nat, (l.map f).sum ≤ l.length := by
  intro l
  induction l with
  | nil => exact Nat.le_refl _
  | cons a t ih =>
    simp only [List.map_cons, List.sum_cons, List.length_cons]
    have := h a
    omega
theorem cnt_le (s : Int64) : cnt s ≤ 36 := by
  have := sum_le1 (f := fun v => if tb s v = true then 1 else 0) (fun k => by by_cases h : tb s k = true <;> simp [h]) (List.range 36)
  rw [List.length_range] at this
  exact this
theorem cnt_set {s : Int64} {v : Int32} (h : 0 ≤ v ∧ v ≤ 35) (hb : tb s v.toNatClampNeg = false) : cnt s < cnt (s ||| ((1 : Int64) <<< (v.toInt64 &&& 63))) := by
  have hl := (sh_am h).2
  refine sum_lt (q := v.toNatClampNeg) _ (List.mem_range.mpr hl) (fun k hk => ?_) ?_
  · show (if tb s k = true then 1 else 0) ≤ (if tb (s ||| ((1 : Int64) <<< (v.toInt64 &&& 63))) k = true then 1 else 0)
    rw [tb_set h k (List.mem_range.mp hk)]
    by_cases hk1 : tb s k = true
    · rw [hk1]; simp
    · rw [if_neg hk1]; exact Nat.zero_le _
  · show (if tb s v.toNatClampNeg = true then 1 else 0) < (if tb (s ||| ((1 : Int64) <<< (v.toInt64 &&& 63))) v.toNatClampNeg = true then 1 else 0)
    rw [tb_set h _ hl, hb]
    simp
/-! ways in a graph: E the steps, M what may not be met, G the aim -/
def Pk (E : Nat → Nat → Prop) (G : Nat → Prop) (M : Nat → Prop) : Nat → Nat → Prop
  | 0, u => ¬ M u ∧ G u
  | k + 1, u => ¬ M u ∧ ∃ v, E u v ∧ Pk E G M k v
theorem Pk.nm {E : Nat → Nat → Prop} {G M : Nat → Prop} {k u : Nat} (h : Pk E G M k u) : ¬ M u := by
  cases k with
  | zero => exact h.1
  | succ k => exact h.1
theorem Pk.avoid {E : Nat → Nat → Prop} {G A : Nat → Prop} {n : Nat} : ∀ (k u : Nat), Pk E G A k u → Pk E G (fun x => A x ∨ x = n) k u ∨ ∃ j, j ≤ k ∧ Pk E G A j n := by
  intro k
  induction k with
  | zero =>
    intro u h
    by_cases hu : u = n
    · subst hu; exact Or.inr ⟨0, Nat.le_refl _, h⟩
    · exact Or.inl ⟨fun hx => hx.elim h.1 hu, h.2⟩
  | succ k ih =>
    intro u h
    by_cases hu : u = n
    · subst hu; exact Or.inr ⟨k + 1, Nat.le_refl _, h⟩
    · obtain ⟨h1, v, e, h2⟩ := h
      rcases ih v h2 with h3 | ⟨j, hj, h3⟩
      · exact Or.inl ⟨fun hx => hx.elim h1 hu, v, e, h3⟩
      · exact Or.inr ⟨j, Nat.le_succ_of_le hj, h3⟩
/-- a way from n that isn't at the aim: a first step from which the rest doesn't come back -/
theorem Pk.step {E : Nat → Nat → Prop} {G A : Nat → Prop} {n : Nat} (hG : ¬ G n) : ∀ (k : Nat), Pk E G A k n → ∃ v j, E n v ∧ Pk E G (fun x => A x ∨ x = n) j v := by
  intro k
  induction k using Nat.strongRecOn with
  | _ k ih =>
    intro h
    cases k with
    | zero => exact absurd h.2 hG
    | succ k =>
      obtain ⟨_, v, e, h2⟩ := h
      rcases Pk.avoid k v h2 with h3 | ⟨j, hj, h3⟩
      · exact ⟨v, k, e, h3⟩
      · exact ih j (by omega) h3
theorem Pk.congr {E : Nat → Nat → Prop} {G M N : Nat → Prop} (h : ∀ x, N x → M x) : ∀ (k u : Nat), Pk E G M k u → Pk E G N k u := by
  intro k
  induction k with
  | zero => intro u hu; exact ⟨fun hx => hu.1 (h u hx), hu.2⟩
  | succ k ih => intro u hu; obtain ⟨h1, v, e, h2⟩ := hu; exact ⟨fun hx => h1 (h u hx), v, e, ih v h2⟩
/-- a closed set without the aim: no way out of it -/
theorem Pk.closed {E : Nat → Nat → Prop} {G M C : Nat → Prop} (hC : ∀ u, C u → ¬ G u) (hE : ∀ u v, C u → E u v → M v ∨ C v) : ∀ (k u : Nat), C u → ¬ Pk E G M k u := by
  intro k
  induction k with
  | zero => intro u hu h; exact hC u hu h.2
  | succ k ih =>
    intro u hu h
    obtain ⟨_, v, e, h2⟩ := h
    rcases hE u v hu e with h3 | h3
    · exact Pk.nm h2 h3
    · exact ih v h3 h2
/-- what was come to from n: a way from there is a way from n -/
def Rk (E : Nat → Nat → Prop) (M : Nat → Prop) (n : Nat) : Nat → Nat → Prop
  | 0, u => u = n ∧ ¬ M n
  | k + 1, u => ¬ M u ∧ ∃ w, Rk E M n k w ∧ E w u
theorem Rk.way {E : Nat → Nat → Prop} {G M : Nat → Prop} {n : Nat} : ∀ (k u j : Nat), Rk E M n k u → Pk E G M j u → ∃ i, Pk E G M i n := by
  intro k
  induction k with
  | zero => intro u j h p; obtain ⟨rfl, _⟩ := h; exact ⟨j, p⟩
  | succ k ih =>
    intro u j h p
    obtain ⟨_, w, hw, e⟩ := h
    have hm : ¬ M w := by
      cases k with
      | zero => obtain ⟨rfl, h⟩ := hw; exact h
      | succ k => exact hw.1
    exact ih w (j + 1) hw ⟨hm, u, e, p⟩

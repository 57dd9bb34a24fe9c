section
/-! bits of a long -/
def tb (s : Int64) (v : Nat) : Bool := s.toBitVec.getLsbD v
theorem lgc_eq (x y : Int64) : lg_cmp x y = 0 ↔ x = y := by
  unfold lg_cmp
  by_cases h1 : x > y
  · rw [if_pos h1]
    constructor
    · intro h; exact absurd h (by decide)
    · intro h; subst h; exact absurd (Int64.lt_iff_toInt_lt.mp h1) (by omega)
  · rw [if_neg h1]
    by_cases h2 : x = y
    · rw [if_pos h2]; exact ⟨fun _ => h2, fun _ => rfl⟩
    · rw [if_neg h2]
      exact ⟨fun h => absurd h (by decide), fun h => absurd h h2⟩
theorem sh_am {v : Int32} (h : 0 ≤ v ∧ v ≤ 35) : ((v.toInt64 &&& 63).toBitVec.smod 64) = BitVec.ofNat 64 v.toNatClampNeg ∧ v.toNatClampNeg < 36 := by
  have e : v = Int32.ofNat v.toNatClampNeg := (Int32.ofNat_toNatClampNeg v h.1).symm
  have hl : v.toNatClampNeg < 36 := i32_lt (M := 36) rfl (by grind)
  have key : ∀ i : Fin 36, (((Int32.ofNat i.1).toInt64 &&& 63).toBitVec.smod 64) = BitVec.ofNat 64 i.1 := by decide +kernel
  refine ⟨?_, hl⟩
  have := key ⟨_, hl⟩
  rw [e]
  have e2 : (Int32.ofNat v.toNatClampNeg).toNatClampNeg = v.toNatClampNeg := by rw [← e]
  rw [e2]
  exact this
theorem tb_get {s : Int64} {v : Int32} (h : 0 ≤ v ∧ v ≤ 35) : (lg_cmp ((s >>> (v.toInt64 &&& 63)) &&& 1) 0 = 0) ↔ tb s v.toNatClampNeg = false := by
  obtain ⟨ea, hl⟩ := sh_am h
  rw [lgc_eq, ← Int64.toBitVec_inj, Int64.toBitVec_and, Int64.toBitVec_shiftRight, ea, BitVec.sshiftRight_eq']
  generalize v.toNatClampNeg = k at hl
  have e1 : (BitVec.ofNat 64 k).toNat = k := by
    rw [BitVec.toNat_ofNat]
    omega
  rw [e1]
  have b1 : (1 : Int64).toBitVec = 1#64 := rfl
  have b0 : (0 : Int64).toBitVec = 0#64 := rfl
  rw [b1, b0]
  unfold tb
  constructor
  · intro hz
    have := congrArg (fun x => x.getLsbD 0) hz
    simp only [BitVec.getLsbD_and, BitVec.getLsbD_sshiftRight, BitVec.getLsbD_one, BitVec.getLsbD_zero] at this
    rw [if_pos (by omega)] at this
    simpa using this
  · intro hz
    apply BitVec.eq_of_getLsbD_eq
    intro i hi
    simp only [BitVec.getLsbD_and, BitVec.getLsbD_sshiftRight, BitVec.getLsbD_one, BitVec.getLsbD_zero]
    by_cases h0 : i = 0
    · subst h0
      rw [if_pos (by omega), Nat.add_zero, hz]
      simp
    · simp [h0]
theorem tb_set {s : Int64} {v : Int32} (h : 0 ≤ v ∧ v ≤ 35) (u : Nat) (hu : u < 36) : tb (s ||| ((1 : Int64) <<< (v.toInt64 &&& 63))) u = (tb s u || decide (u = v.toNatClampNeg)) := by
  obtain ⟨ea, hl⟩ := sh_am h
  unfold tb
  rw [Int64.toBitVec_or, Int64.toBitVec_shiftLeft, ea, BitVec.getLsbD_or]
  generalize v.toNatClampNeg = k at hl
  have b1 : (1 : Int64).toBitVec = 1#64 := rfl
  rw [b1, BitVec.shiftLeft_eq']
  have e1 : (BitVec.ofNat 64 k).toNat = k := by
    rw [BitVec.toNat_ofNat]
    omega
  rw [e1, BitVec.getLsbD_shiftLeft, BitVec.getLsbD_one]
  congr 1
  by_cases hk : u = k
  · subst hk
    simp
    omega
  · by_cases hlt : u < k
    · simp [hlt, hk]
    · have : u - k ≠ 0 := by omega
      simp [hlt, hk, this]
theorem tb_zero (u : Nat) : tb 0 u = false := by
  unfold tb
  have b0 : (0 : Int64).toBitVec = 0#64 := rfl
  rw [b0, BitVec.getLsbD_zero]
/-! how many of the 36 nodes are in a set -/
def cnt (s : Int64) : Nat := ((List.range 36).map (fun v => if tb s v = true then 1 else 0)).sum
theorem sum_le1 {f : Nat → Nat} (h : ∀ k, f k ≤ 1) : ∀ l : List Nat, (l.map f).sum ≤ l.length := by
  intro l
  induction l with
  | nil => exact Nat.le_refl _
  | cons a t ih =>
    simp only [List.map_cons, List.sum_cons, List.length_cons]
    have := h a
    omega
theorem cnt_le (s : Int64) : cnt s ≤ 36 := by
  have := sum_le1 (f := fun v => if tb s v = true then 1 else 0) (fun k => by by_cases h : tb s k = true <;> simp [h]) (List.range 36)
  rw [List.length_range] at this
  exact this
theorem cnt_set {s : Int64} {v : Int32} (h : 0 ≤ v ∧ v ≤ 35) (hb : tb s v.toNatClampNeg = false) : cnt s < cnt (s ||| ((1 : Int64) <<< (v.toInt64 &&& 63))) := by
  have hl := (sh_am h).2
  refine sum_lt (q := v.toNatClampNeg) _ (List.mem_range.mpr hl) (fun k hk => ?_) ?_
  · show (if tb s k = true then 1 else 0) ≤ (if tb (s ||| ((1 : Int64) <<< (v.toInt64 &&& 63))) k = true then 1 else 0)
    rw [tb_set h k (List.mem_range.mp hk)]
    by_cases hk1 : tb s k = true
    · rw [hk1]; simp
    · rw [if_neg hk1]; exact Nat.zero_le _
  · show (if tb s v.toNatClampNeg = true then 1 else 0) < (if tb (s ||| ((1 : Int64) <<< (v.toInt64 &&& 63))) v.toNatClampNeg = true then 1 else 0)
    rw [tb_set h _ hl, hb]
    simp
/-! ways in a graph: E the steps, M what may not be met, G the aim -/
def Pk (E : Nat → Nat → Prop) (G : Nat → Prop) (M : Nat → Prop) : Nat → Nat → Prop
  | 0, u => ¬ M u ∧ G u
  | k + 1, u => ¬ M u ∧ ∃ v, E u v ∧ Pk E G M k v
theorem Pk.nm {E : Nat → Nat → Prop} {G M : Nat → Prop} {k u : Nat} (h : Pk E G M k u) : ¬ M u := by
  cases k with
  | zero => exact h.1
  | succ k => exact h.1
theorem Pk.avoid {E : Nat → Nat → Prop} {G A : Nat → Prop} {n : Nat} : ∀ (k u : Nat), Pk E G A k u → Pk E G (fun x => A x ∨ x = n) k u ∨ ∃ j, j ≤ k ∧ Pk E G A j n := by
  intro k
  induction k with
  | zero =>
    intro u h
    by_cases hu : u = n
    · subst hu; exact Or.inr ⟨0, Nat.le_refl _, h⟩
    · exact Or.inl ⟨fun hx => hx.elim h.1 hu, h.2⟩
  | succ k ih =>
    intro u h
    by_cases hu : u = n
    · subst hu; exact Or.inr ⟨k + 1, Nat.le_refl _, h⟩
    · obtain ⟨h1, v, e, h2⟩ := h
      rcases ih v h2 with h3 | ⟨j, hj, h3⟩
      · exact Or.inl ⟨fun hx => hx.elim h1 hu, v, e, h3⟩
      · exact Or.inr ⟨j, Nat.le_succ_of_le hj, h3⟩
/-- a way from n that isn't at the aim: a first step from which the rest doesn't come back -/
theorem Pk.step {E : Nat → Nat → Prop} {G A : Nat → Prop} {n : Nat} (hG : ¬ G n) : ∀ (k : Nat), Pk E G A k n → ∃ v j, E n v ∧ Pk E G (fun x => A x ∨ x = n) j v := by
  intro k
  induction k using Nat.strongRecOn with
  | _ k ih =>
    intro h
    cases k with
    | zero => exact absurd h.2 hG
    | succ k =>
      obtain ⟨_, v, e, h2⟩ := h
      rcases Pk.avoid k v h2 with h3 | ⟨j, hj, h3⟩
      · exact ⟨v, k, e, h3⟩
      · exact ih j (by omega) h3
theorem Pk.congr {E : Nat → Nat → Prop} {G M N : Nat → Prop} (h : ∀ x, N x → M x) : ∀ (k u : Nat), Pk E G M k u → Pk E G N k u := by
  intro k
  induction k with
  | zero => intro u hu; exact ⟨fun hx => hu.1 (h u hx), hu.2⟩
  | succ k ih => intro u hu; obtain ⟨h1, v, e, h2⟩ := hu; exact ⟨fun hx => h1 (h u hx), v, e, ih v h2⟩
/-- a closed set without the aim: no way out of it -/
theorem Pk.closed {E : Nat → Nat → Prop} {G M C : Nat → Prop} (hC : ∀ u, C u → ¬ G u) (hE : ∀ u v, C u → E u v → M v ∨ C v) : ∀ (k u : Nat), C u → ¬ Pk E G M k u := by
  intro k
  induction k with
  | zero => intro u hu h; exact hC u hu h.2
  | succ k ih =>
    intro u hu h
    obtain ⟨_, v, e, h2⟩ := h
    rcases hE u v hu e with h3 | h3
    · exact Pk.nm h2 h3
    · exact ih v h3 h2
/-- what was come to from n: a way from there is a way from n -/
def Rk (E : Nat → Nat → Prop) (M : Nat → Prop) (n : Nat) : Nat → Nat → Prop
  | 0, u => u = n ∧ ¬ M n
  | k + 1, u => ¬ M u ∧ ∃ w, Rk E M n k w ∧ E w u
theorem Rk.way {E : Nat → Nat → Prop} {G M : Nat → Prop} {n : Nat} : ∀ (k u j : Nat), Rk E M n k u → Pk E G M j u → ∃ i, Pk E G M i n := by
  intro k
  induction k with
  | zero => intro u j h p; obtain ⟨rfl, _⟩ := h; exact ⟨j, p⟩
  | succ k ih =>
    intro u j h p
    obtain ⟨_, w, hw, e⟩ := h
    have hm : ¬ M w := by
      cases k with
      | zero => obtain ⟨rfl, h⟩ := hw; exact h
      | succ k => exact hw.1
    exact ih w (j + 1) hw ⟨hm, u, e, p⟩
end
section
/-! the least costs: the reference's search -/
def Br (line : Nat → Nat → Int32) (left : Nat → Int32) (tons : Int32) (l : Nat) (w : Int32) : Prop := line l 6 = 0 ∧ ¬ ((line l 2 >>> (w &&& 31)) &&& 1) = 0 ∧ ¬ left l < tons
def Ed (L : Nat) (line : Nat → Nat → Int32) (changes coins left : Nat → Int32) (tons : Int32) (u v : Nat) (c : Int) : Prop :=
  (∃ l w : Nat, l < L ∧ w < 3 ∧ Br line left tons l (Int32.ofNat w) ∧ c = (line l 3 * coins w).toInt ∧ ((u = 3 * (line l 0).toNatClampNeg + w ∧ v = 3 * (line l 1).toNatClampNeg + w) ∨ (u = 3 * (line l 1).toNatClampNeg + w ∧ v = 3 * (line l 0).toNatClampNeg + w))) ∨
  (∃ p w w' : Nat, p < 12 ∧ w < 3 ∧ w' < 3 ∧ u = 3 * p + w ∧ v = 3 * p + w' ∧ c = (changes p).toInt)
def Wk (D : Nat → Nat → Int → Prop) (G : Nat → Prop) : Nat → Nat → Int → Prop
  | 0, u, c => G u ∧ c = 0
  | k + 1, u, c => ∃ v d, D u v d ∧ Wk D G k v (c - d)
def At (D : Nat → Nat → Int → Prop) (G : Nat → Prop) (far : Nat → Int32) : Prop := (∀ u, u < 36 → G u → far u = 0) ∧ ∀ u, u < 36 → (far u).toInt < 1000000000 → ∃ k, Wk D G k u (far u).toInt
def S36 (f : Nat → Int32) : Nat := ((List.range 36).map (fun i => (f i).toNatClampNeg)).sum
theorem S36_lt {f : Nat → Int32} {u : Nat} {x : Int32} (hu : u < 36) (hx : x.toNatClampNeg < (f u).toNatClampNeg) : S36 (va_up f u x) < S36 f := by
  refine sum_lt (q := u) _ (List.mem_range.mpr hu) (fun k _ => ?_) ?_
  · show (va_up f u x k).toNatClampNeg ≤ (f k).toNatClampNeg
    by_cases hk : k = u
    · subst hk; rw [va_up_self]; omega
    · rw [va_up_ne _ _ hk]; exact Nat.le_refl _
  · show (va_up f u x u).toNatClampNeg < (f u).toNatClampNeg
    rw [va_up_self]; exact hx
theorem S36_n {f : Nat → Int32} (h : AI 0 1000000000 f) : S36 f ≤ 36000000000 := by
  have key : ∀ l : List Nat, (l.map (fun i => (f i).toNatClampNeg)).sum ≤ l.length * 1000000000 := by
    intro l
    induction l with
    | nil => simp
    | cons a t ih =>
      simp only [List.map_cons, List.sum_cons, List.length_cons]
      have a1 := i32_cl (h a).1
      have a2 := Int32.le_iff_toInt_le.mp (h a).2
      have z : (1000000000 : Int32).toInt = 1000000000 := by decide
      rw [z] at a2
      have a3 : (f a).toNatClampNeg ≤ 1000000000 := by omega
      rw [Nat.add_mul]
      omega
  have := key (List.range 36)
  rw [List.length_range] at this
  unfold S36
  omega
theorem rlx0 {D : Nat → Nat → Int → Prop} {G : Nat → Prop} {far : Nat → Int32} {u v : Nat} {x c : Int32} (hA : AI 0 1000000000 far) (hAt : At D G far) (hu : u < 36) (hv : v < 36) (hE : D u v c.toInt) (hc : 0 ≤ c ∧ c ≤ 1000) (hx : x = far v + c) (hlt : ¬ far u ≤ x) : AI 0 1000000000 (va_up far u x) ∧ At D G (va_up far u x) ∧ S36 (va_up far u x) < S36 far := by
  have z : (1000000000 : Int32).toInt = 1000000000 := by decide
  have z0 : (0 : Int32).toInt = 0 := by decide
  have z1 : (1000 : Int32).toInt = 1000 := by decide
  have av := i32_b (hA v)
  have au := i32_b (hA u)
  have ac := i32_b hc
  rw [z0, z] at av au
  rw [z0, z1] at ac
  have ex : x.toInt = (far v).toInt + c.toInt := by rw [hx]; exact i32_add (by omega) (by omega)
  have hl := Int32.lt_iff_toInt_lt.mp (Int32.not_le.mp hlt)
  have x0 : 0 ≤ x := Int32.le_iff_toInt_le.mpr (by rw [ex, z0]; omega)
  have x1 : x ≤ 1000000000 := Int32.le_iff_toInt_le.mpr (by rw [z]; omega)
  refine ⟨hA.up ⟨x0, x1⟩, ⟨fun w hw hg => ?_, fun w hw hf => ?_⟩, S36_lt hu ?_⟩
  · by_cases hwu : w = u
    · subst hwu
      rw [hAt.1 w hw hg] at hlt
      exact absurd x0 hlt
    · rw [va_up_ne _ _ hwu]
      exact hAt.1 w hw hg
  · by_cases hwu : w = u
    · subst hwu
      rw [va_up_self] at hf ⊢
      obtain ⟨k, hk⟩ := hAt.2 v hv (by omega)
      exact ⟨k + 1, v, c.toInt, hE, by rw [ex]; have e : (far v).toInt + c.toInt - c.toInt = (far v).toInt := by omega
                                       rw [e]; exact hk⟩
    · rw [va_up_ne _ _ hwu] at hf ⊢
      exact hAt.2 w hw hf
  · have a := i32_cl x0
    have b := i32_cl (hA u).1
    omega
/-- a pass over f0: unchanged, or the sum has become less -/
def Jf (D : Nat → Nat → Int → Prop) (G : Nat → Prop) (f0 : Nat → Int32) (less : Int32) (far : Nat → Int32) : Prop := AI 0 1000000000 far ∧ At D G far ∧ ((less = 0 ∧ far = f0) ∨ (less = 1 ∧ S36 far < S36 f0))
theorem Jf.rlx {D : Nat → Nat → Int → Prop} {G : Nat → Prop} {f0 far : Nat → Int32} {less : Int32} {u v : Nat} {x c : Int32} (h : Jf D G f0 less far) (hu : u < 36) (hv : v < 36) (hE : D u v c.toInt) (hc : 0 ≤ c ∧ c ≤ 1000) (hx : x = far v + c) (hlt : ¬ far u ≤ x) : Jf D G f0 1 (va_up far u x) := by
  obtain ⟨a, b, c'⟩ := h
  obtain ⟨d, e, f⟩ := rlx0 a b hu hv hE hc hx hlt
  refine ⟨d, e, Or.inr ⟨rfl, ?_⟩⟩
  rcases c' with ⟨_, rfl⟩ | ⟨_, c'⟩
  · exact f
  · omega
/-- no step makes it less -/
def OKl (line : Nat → Nat → Int32) (coins left : Nat → Int32) (tons : Int32) (f : Nat → Int32) (l w : Nat) : Prop := Br line left tons l (Int32.ofNat w) → f (3 * (line l 0).toNatClampNeg + w) ≤ f (3 * (line l 1).toNatClampNeg + w) + line l 3 * coins w ∧ f (3 * (line l 1).toNatClampNeg + w) ≤ f (3 * (line l 0).toNatClampNeg + w) + line l 3 * coins w
def OKc (changes : Nat → Int32) (f : Nat → Int32) (m w : Nat) : Prop := f m ≤ f (m / 3 * 3 + w) + changes (m / 3)
theorem ix3 {p w : Int32} (hp : 0 ≤ p ∧ p ≤ 11) (hw : 0 ≤ w ∧ w < 3) : (0 ≤ 3 * p + w ∧ 3 * p + w < 36) ∧ (3 * p + w).toNatClampNeg = 3 * p.toNatClampNeg + w.toNatClampNeg := by
  refine ⟨by grind, ?_⟩
  have := ixm (p := 3) (m := p) (c := w) (by decide) (by grind) (by grind)
  rw [this]
  rfl
theorem w_of {w : Int32} (hw : 0 ≤ w ∧ w < 3) : Int32.ofNat w.toNatClampNeg = w ∧ w.toNatClampNeg < 3 := ⟨Int32.ofNat_toNatClampNeg w hw.1, i32_lt (M := 3) rfl hw⟩
theorem p_of {p : Int32} (hp : 0 ≤ p ∧ p ≤ 11) : p.toNatClampNeg < 12 := i32_lt (M := 12) rfl (by grind)
theorem mc_rng {a b : Int32} (ha : 0 ≤ a ∧ a ≤ 60) (hb : 0 ≤ b ∧ b ≤ 9) : 0 ≤ a * b ∧ a * b ≤ 1000 := by
  have x := i32_b ha
  have y := i32_b hb
  have z0 : (0 : Int32).toInt = 0 := by decide
  have z60 : (60 : Int32).toInt = 60 := by decide
  have z9 : (9 : Int32).toInt = 9 := by decide
  have z1 : (1000 : Int32).toInt = 1000 := by decide
  rw [z0, z60] at x
  rw [z0, z9] at y
  obtain ⟨e, h1, h2⟩ := mul_rng x y (by decide) (by decide)
  exact ⟨Int32.le_iff_toInt_le.mpr (by rw [e, z0]; exact h1), Int32.le_iff_toInt_le.mpr (by rw [e, z1]; omega)⟩
theorem s_bears {x0_shelf x0_rowSort x0_rowSize : (Nat → Int32)} {x0_rows : (Nat → Nat → Int64)} {x0_moved : (Nat → Int64)} {x0_shown x0_tape : (Nat → Int32)} {x0_tapeSize : Int32} {x0_refused : (Nat → Int32)} {x0_lines : Int32} {x0_line : (Nat → Nat → Int32)} {x0_changes x0_coins : (Nat → Int32)} {x0_goods : Int32} {x0_good : (Nat → Nat → Int32)} {x0_works : Int32} {x0_work : (Nat → Nat → Int32)} {x0_years x0_gone x0_spent x0_at x0_token x0_from : Int32} {x0_figures : Int64} {x0_fault : Int32} {x0_numbers : (Nat → Int32)} {x0_statements : Int32} {x0_left x0_far : (Nat → Int32)} {x0_tons : Int32} {x0_way : (Nat → Int32)} {x0_steps : Int32} {x0_met : Int64} {x0_queue x0_totals : (Nat → Int32)} {p1 p2 : Int32} (h_x0_line : LnM x0_line) (hp : 0 ≤ p1 ∧ p1 ≤ 19) : Sf (fX7_bears (x0_shelf, x0_rowSort, x0_rowSize, x0_rows, x0_moved, x0_shown, x0_tape, x0_tapeSize, x0_refused, x0_lines, x0_line, x0_changes, x0_coins, x0_goods, x0_good, x0_works, x0_work, x0_years, x0_gone, x0_spent, x0_at, x0_token, x0_from, x0_figures, x0_fault, x0_numbers, x0_statements, x0_left, x0_far, x0_tons, x0_way, x0_steps, x0_met, x0_queue, x0_totals) p1 p2) (fun r => (r = 1 ∧ Br x0_line x0_left x0_tons p1.toNatClampNeg p2) ∨ (r = 0 ∧ ¬ Br x0_line x0_left x0_tons p1.toNatClampNeg p2)) := by
  unfold fX7_bears
  dsimp only [u35]
  have hi : 0 ≤ p1 ∧ p1 < 20 := by grind
  refine Sf.ckb 20 rfl hi (fun q1 e1 _ => ?_)
  subst e1
  refine Sf.rdl 6 rfl rfl (fun v2 e2 => ?_)
  refine Sf.ite (fun h2 => ?_) (fun h2 => Sf.ok (Or.inr ⟨rfl, fun h => h2 (e2.trans h.1)⟩))
  refine Sf.ckb 20 rfl hi (fun q3 e3 _ => ?_)
  subst e3
  refine Sf.rdl 2 rfl rfl (fun v4 e4 => ?_)
  refine Sf.ite (fun h4 => Sf.ok (Or.inr ⟨rfl, fun h => h.2.1 (by rw [← e4]; exact h4)⟩)) (fun h4 => ?_)
  refine Sf.rdb 20 rfl hi (fun v5 e5 => ?_)
  refine Sf.ite (fun h5 => Sf.ok (Or.inr ⟨rfl, fun h => h.2.2 (by rw [← e5]; exact h5)⟩)) (fun h5 => Sf.ok (Or.inl ⟨rfl, e2 ▸ h2, by rw [← e4]; exact h4, by rw [← e5]; exact h5⟩))
theorem T_s61 {P0 : Prop} {G : Nat → Prop} {f0 : Nat → Int32} {p2 : Int32} {x0_shelf x0_rowSort x0_rowSize : (Nat → Int32)} {x0_rows : (Nat → Nat → Int64)} {x0_moved : (Nat → Int64)} {x0_shown x0_tape : (Nat → Int32)} {x0_tapeSize : Int32} {x0_refused : (Nat → Int32)} {x0_lines : Int32} {x0_line : (Nat → Nat → Int32)} {x0_changes x0_coins : (Nat → Int32)} {x0_goods : Int32} {x0_good : (Nat → Nat → Int32)} {x0_works : Int32} {x0_work : (Nat → Nat → Int32)} {x0_years x0_gone x0_spent x0_at x0_token x0_from : Int32} {x0_figures : Int64} {x0_fault : Int32} {x0_numbers : (Nat → Int32)} {x0_statements : Int32} {x0_left x0_way : (Nat → Int32)} {x0_steps : Int32} {x0_met : Int64} {x0_queue x0_totals : (Nat → Int32)} {z13 z39 z40 : Int32} {z41 : (Nat → Int32)} (h_lines : 0 ≤ x0_lines ∧ x0_lines ≤ 20) (h_x0_line : LnM x0_line) (h_coins : AI 0 9 x0_coins) (hz : 0 ≤ z13 ∧ z13 < x0_lines) (hJ : Jf (Ed x0_lines.toNatClampNeg x0_line x0_changes x0_coins x0_left p2) G f0 z39 z41) (h40 : 0 ≤ z40) (hK : z39 = 0 → P0 ∧ ∀ w : Nat, w < z40.toNatClampNeg → OKl x0_line x0_coins x0_left p2 f0 z13.toNatClampNeg w) :
    Sf (fX7_findFar_s61 p2 x0_shelf x0_rowSort x0_rowSize x0_rows x0_moved x0_shown x0_tape x0_tapeSize x0_refused x0_lines x0_line x0_changes x0_coins x0_goods x0_good x0_works x0_work x0_years x0_gone x0_spent x0_at x0_token x0_from x0_figures x0_fault x0_numbers x0_statements x0_left x0_way x0_steps x0_met x0_queue x0_totals z13 z39 z40 z41) (LQ (u3 (fun (z39 : Int32) (z40 : Int32) (z41 : Nat → Int32) => Jf (Ed x0_lines.toNatClampNeg x0_line x0_changes x0_coins x0_left p2) G f0 z39 z41 ∧ 0 ≤ z40 ∧ (z39 = 0 → P0 ∧ ∀ w : Nat, w < z40.toNatClampNeg → OKl x0_line x0_coins x0_left p2 f0 z13.toNatClampNeg w))) (u3 (fun (z39 : Int32) (z40 : Int32) (z41 : Nat → Int32) => muUp z40)) (muUp z40) (fun e => Jf (Ed x0_lines.toNatClampNeg x0_line x0_changes x0_coins x0_left p2) G f0 e.1 e.2 ∧ (e.1 = 0 → P0 ∧ ∀ w : Nat, w < 3 → OKl x0_line x0_coins x0_left p2 f0 z13.toNatClampNeg w))) := by
  unfold fX7_findFar_s61
  refine Sf.ite (fun h => Sf.inr ⟨hJ, fun h0 => ⟨(hK h0).1, fun w hw => (hK h0).2 w ?_⟩⟩) (fun h => ?_)
  · have a := Int32.le_iff_toInt_le.mp h
    have b := i32_cl h40
    have z3 : (3 : Int32).toInt = 3 := by decide
    rw [z3] at a
    omega
  have hw : 0 ≤ z40 ∧ z40 < 3 := ⟨h40, Int32.not_le.mp h⟩
  obtain ⟨ew, lw⟩ := w_of hw
  have h41 : 0 ≤ z40 + 1 := by grind
  have n41 : (z40 + 1).toNatClampNeg = z40.toNatClampNeg + 1 := by
    have := ixm (p := z40) (m := 1) (c := 1) (by grind) (by decide) (by decide)
    have e1 : z40 * 1 = z40 := by grind
    rw [e1] at this
    rw [this]
    have e2 : (1 : Int32).toNatClampNeg = 1 := rfl
    rw [e2, Nat.mul_one]
  have hz19 : 0 ≤ z13 ∧ z13 ≤ 19 := by grind
  have hzL : z13.toNatClampNeg < x0_lines.toNatClampNeg := by
    have a := Int32.lt_iff_toInt_lt.mp hz.2
    have b := i32_cl hz.1
    have c := i32_cl h_lines.1
    omega
  have nxt : ∀ {l : Int32} {g : Nat → Int32}, Jf (Ed x0_lines.toNatClampNeg x0_line x0_changes x0_coins x0_left p2) G f0 l g → (l = 0 → P0 ∧ ∀ w : Nat, w < z40.toNatClampNeg → OKl x0_line x0_coins x0_left p2 f0 z13.toNatClampNeg w) → (l = 0 → OKl x0_line x0_coins x0_left p2 f0 z13.toNatClampNeg z40.toNatClampNeg) → Sf (some (.inl (l, z40 + 1, g) : (Int32 × Int32 × (Nat → Int32)) ⊕ (Int32 × (Nat → Int32)))) (LQ (u3 (fun (z39 : Int32) (z40 : Int32) (z41 : Nat → Int32) => Jf (Ed x0_lines.toNatClampNeg x0_line x0_changes x0_coins x0_left p2) G f0 z39 z41 ∧ 0 ≤ z40 ∧ (z39 = 0 → P0 ∧ ∀ w : Nat, w < z40.toNatClampNeg → OKl x0_line x0_coins x0_left p2 f0 z13.toNatClampNeg w))) (u3 (fun (z39 : Int32) (z40 : Int32) (z41 : Nat → Int32) => muUp z40)) (muUp z40) (fun e => Jf (Ed x0_lines.toNatClampNeg x0_line x0_changes x0_coins x0_left p2) G f0 e.1 e.2 ∧ (e.1 = 0 → P0 ∧ ∀ w : Nat, w < 3 → OKl x0_line x0_coins x0_left p2 f0 z13.toNatClampNeg w))) := by
    intro l g j k1 k2
    refine Sf.inl ⟨j, h41, fun h0 => ⟨(k1 h0).1, fun w hlt => ?_⟩⟩ (muUp_lt h)
    rw [n41] at hlt
    by_cases hx : w = z40.toNatClampNeg
    · subst hx; exact k2 h0
    · exact (k1 h0).2 w (by omega)
  refine Sf.bind (s_bears h_x0_line hz19) (fun v45 h45 => ?_)
  refine Sf.ite (fun h0 => ?_) (fun h0 => ?_)
  · refine nxt hJ hK (fun _ hb => absurd hb ?_)
    rw [ew]
    rcases h45 with h45 | h45
    · rw [h0] at h45; exact absurd h45.1 (by decide)
    · exact h45.2
  have hB : Br x0_line x0_left p2 z13.toNatClampNeg z40 := by
    rcases h45 with h45 | h45
    · exact h45.2
    · exact absurd h45.1 h0
  have hi : 0 ≤ z13 ∧ z13 < 20 := by grind
  refine Sf.ckb 20 rfl hi (fun q47 e47 _ => ?_)
  refine Sf.rdl 0 rfl rfl (fun v48 e48 => ?_)
  refine Sf.ckb 20 rfl hi (fun q49 e49 _ => ?_)
  refine Sf.rdl 1 rfl rfl (fun v50 e50 => ?_)
  refine Sf.ckb 20 rfl hi (fun q51 e51 _ => ?_)
  refine Sf.rdl 3 rfl rfl (fun v52 e52 => ?_)
  subst e47 e49 e51
  have b48 : 0 ≤ v48 ∧ v48 ≤ 11 := by rw [e48]; exact h_x0_line _ 0
  have b50 : 0 ≤ v50 ∧ v50 ≤ 11 := by rw [e50]; exact h_x0_line _ 1
  have b52 : 0 ≤ v52 ∧ v52 ≤ 60 := by rw [e52]; exact h_x0_line _ 3
  refine Sf.rdI 3 rfl h_coins hw (fun v53 b53 e53 => ?_)
  have bc := mc_rng b52 b53
  obtain ⟨i48, n48⟩ := ix3 b48 hw
  obtain ⟨i50, n50⟩ := ix3 b50 hw
  have l48 := p_of b48
  have l50 := p_of b50
  have ec : v52 * v53 = x0_line z13.toNatClampNeg 3 * x0_coins z40.toNatClampNeg := by rw [e52, e53]
  have hE1 : (Ed x0_lines.toNatClampNeg x0_line x0_changes x0_coins x0_left p2) (3 * v48.toNatClampNeg + z40.toNatClampNeg) (3 * v50.toNatClampNeg + z40.toNatClampNeg) (v52 * v53).toInt := by
    refine Or.inl ⟨z13.toNatClampNeg, z40.toNatClampNeg, hzL, lw, by rw [ew]; exact hB, by rw [ec], Or.inl ⟨by rw [e48], by rw [e50]⟩⟩
  have hE2 : (Ed x0_lines.toNatClampNeg x0_line x0_changes x0_coins x0_left p2) (3 * v50.toNatClampNeg + z40.toNatClampNeg) (3 * v48.toNatClampNeg + z40.toNatClampNeg) (v52 * v53).toInt := by
    refine Or.inl ⟨z13.toNatClampNeg, z40.toNatClampNeg, hzL, lw, by rw [ew]; exact hB, by rw [ec], Or.inr ⟨by rw [e50], by rw [e48]⟩⟩
  have hu48 : 3 * v48.toNatClampNeg + z40.toNatClampNeg < 36 := by omega
  have hu50 : 3 * v50.toNatClampNeg + z40.toNatClampNeg < 36 := by omega
  refine Sf.rdb 36 rfl i50 (fun v54 e54 => ?_)
  refine Sf.rdb 36 rfl i48 (fun v55 e55 => ?_)
  rw [n50] at e54
  rw [n48] at e55
  have second : ∀ {l : Int32} {g : Nat → Int32}, Jf (Ed x0_lines.toNatClampNeg x0_line x0_changes x0_coins x0_left p2) G f0 l g → (l = 0 → (z39 = 0 ∧ g (3 * v48.toNatClampNeg + z40.toNatClampNeg) ≤ g (3 * v50.toNatClampNeg + z40.toNatClampNeg) + v52 * v53)) → Sf (fX7_findFar_j168 z40 v48 v50 v52 v53 g l) (LQ (u3 (fun (z39 : Int32) (z40 : Int32) (z41 : Nat → Int32) => Jf (Ed x0_lines.toNatClampNeg x0_line x0_changes x0_coins x0_left p2) G f0 z39 z41 ∧ 0 ≤ z40 ∧ (z39 = 0 → P0 ∧ ∀ w : Nat, w < z40.toNatClampNeg → OKl x0_line x0_coins x0_left p2 f0 z13.toNatClampNeg w))) (u3 (fun (z39 : Int32) (z40 : Int32) (z41 : Nat → Int32) => muUp z40)) (muUp z40) (fun e => Jf (Ed x0_lines.toNatClampNeg x0_line x0_changes x0_coins x0_left p2) G f0 e.1 e.2 ∧ (e.1 = 0 → P0 ∧ ∀ w : Nat, w < 3 → OKl x0_line x0_coins x0_left p2 f0 z13.toNatClampNeg w))) := by
    intro l g j k
    unfold fX7_findFar_j168
    refine Sf.rdb 36 rfl i48 (fun v58 e58 => ?_)
    refine Sf.rdb 36 rfl i50 (fun v59 e59 => ?_)
    rw [n48] at e58
    rw [n50] at e59
    refine Sf.ite (fun hle => ?_) (fun hle => ?_)
    · refine nxt j (fun h0 => hK (k h0).1) (fun h0 _ => ?_)
      have hg : g = f0 := by
        rcases j.2.2 with jj | jj
        · exact jj.2
        · rw [h0] at jj; exact absurd jj.1 (by decide)
      have k2 := (k h0).2
      rw [e58, e59] at hle
      rw [ec, e48, e50] at k2 hle
      rw [hg] at k2 hle
      exact ⟨k2, hle⟩
    · refine Sf.rdb 36 rfl i48 (fun v60 e60 => ?_)
      rw [n48] at e60
      refine Sf.wrb 36 rfl i50 (fun f61 e61 => ?_)
      rw [n50] at e61
      rw [e61]
      refine nxt (j.rlx hu50 hu48 hE2 bc (by rw [e60]) (by rw [e60, ← e58, ← e59]; exact hle)) (fun h0 => absurd h0 (by decide)) (fun h0 => absurd h0 (by decide))
  refine Sf.ite (fun hle => ?_) (fun hle => ?_)
  · exact second hJ (fun h0 => ⟨h0, by rw [← e54, ← e55]; exact hle⟩)
  · refine Sf.rdb 36 rfl i50 (fun v62 e62 => ?_)
    rw [n50] at e62
    refine Sf.wrb 36 rfl i48 (fun f63 e63 => ?_)
    rw [n48] at e63
    rw [e63]
    exact second (hJ.rlx hu48 hu50 hE1 bc (by rw [e62]) (by rw [e62, ← e54, ← e55]; exact hle)) (fun h0 => absurd h0 (by decide))
end
section
theorem up1 {z : Int32} {B : Int32} (h0 : 0 ≤ z) (hB : B ≤ 1000) (h : ¬ B ≤ z) : 0 ≤ z + 1 ∧ (z + 1).toNatClampNeg = z.toNatClampNeg + 1 ∧ z < B := by
  have hl := Int32.not_le.mp h
  have a := Int32.lt_iff_toInt_lt.mp hl
  have b := Int32.le_iff_toInt_le.mp hB
  have z1 : (1000 : Int32).toInt = 1000 := by decide
  have z2 : (1 : Int32).toInt = 1 := by decide
  have z0 : (0 : Int32).toInt = 0 := by decide
  rw [z1] at b
  have c := i32_nn h0
  have e : (z + 1).toInt = z.toInt + 1 := by rw [i32_add (by omega) (by omega), z2]
  have p : 0 ≤ z + 1 := Int32.le_iff_toInt_le.mpr (by rw [e, z0]; omega)
  have q := i32_cl p
  have r := i32_cl h0
  exact ⟨p, by omega, hl⟩
theorem T_s49 {n : Nat} {G : Nat → Prop} {f0 : Nat → Int32} {p2 : Int32} {x0_shelf x0_rowSort x0_rowSize : (Nat → Int32)} {x0_rows : (Nat → Nat → Int64)} {x0_moved : (Nat → Int64)} {x0_shown x0_tape : (Nat → Int32)} {x0_tapeSize : Int32} {x0_refused : (Nat → Int32)} {x0_lines : Int32} {x0_line : (Nat → Nat → Int32)} {x0_changes x0_coins : (Nat → Int32)} {x0_goods : Int32} {x0_good : (Nat → Nat → Int32)} {x0_works : Int32} {x0_work : (Nat → Nat → Int32)} {x0_years x0_gone x0_spent x0_at x0_token x0_from : Int32} {x0_figures : Int64} {x0_fault : Int32} {x0_numbers : (Nat → Int32)} {x0_statements : Int32} {x0_left x0_way : (Nat → Int32)} {x0_steps : Int32} {x0_met : Int64} {x0_queue x0_totals : (Nat → Int32)} {z12 z13 : Int32} {z14 : (Nat → Int32)} (hn : 1000000000000 ≤ n) (h_lines : 0 ≤ x0_lines ∧ x0_lines ≤ 20) (h_x0_line : LnM x0_line) (h_coins : AI 0 9 x0_coins) (hI : Jf (Ed x0_lines.toNatClampNeg x0_line x0_changes x0_coins x0_left p2) G f0 z12 z14 ∧ 0 ≤ z13 ∧ (z12 = 0 → ∀ l : Nat, l < z13.toNatClampNeg → ∀ w : Nat, w < 3 → OKl x0_line x0_coins x0_left p2 f0 l w)) :
    Sf (fX7_findFar_s49 n p2 x0_shelf x0_rowSort x0_rowSize x0_rows x0_moved x0_shown x0_tape x0_tapeSize x0_refused x0_lines x0_line x0_changes x0_coins x0_goods x0_good x0_works x0_work x0_years x0_gone x0_spent x0_at x0_token x0_from x0_figures x0_fault x0_numbers x0_statements x0_left x0_way x0_steps x0_met x0_queue x0_totals z12 z13 z14) (LQ (u3 (fun (z12 : Int32) (z13 : Int32) (z14 : Nat → Int32) => Jf (Ed x0_lines.toNatClampNeg x0_line x0_changes x0_coins x0_left p2) G f0 z12 z14 ∧ 0 ≤ z13 ∧ (z12 = 0 → ∀ l : Nat, l < z13.toNatClampNeg → ∀ w : Nat, w < 3 → OKl x0_line x0_coins x0_left p2 f0 l w))) (u3 (fun (z12 : Int32) (z13 : Int32) (z14 : Nat → Int32) => muUp z13)) (muUp z13) (fun e => Jf (Ed x0_lines.toNatClampNeg x0_line x0_changes x0_coins x0_left p2) G f0 e.1 e.2 ∧ (e.1 = 0 → ∀ l : Nat, l < x0_lines.toNatClampNeg → ∀ w : Nat, w < 3 → OKl x0_line x0_coins x0_left p2 f0 l w))) := by
  unfold fX7_findFar_s49
  obtain ⟨hJ, h13, hK⟩ := hI
  refine Sf.ite (fun h => Sf.inr ⟨hJ, fun h0 l hl => hK h0 l ?_⟩) (fun h => ?_)
  · have a := Int32.le_iff_toInt_le.mp h
    have b := i32_cl h13
    have c := i32_cl h_lines.1
    omega
  obtain ⟨h14, n14, hlt⟩ := up1 h13 (Int32.le_trans h_lines.2 (by decide)) h
  have st24 : ∀ (z39 z40 : Int32) (z41 : Nat → Int32), (Jf (Ed x0_lines.toNatClampNeg x0_line x0_changes x0_coins x0_left p2) G f0 z39 z41 ∧ 0 ≤ z40 ∧ (z39 = 0 → (∀ l : Nat, l < z13.toNatClampNeg → ∀ w : Nat, w < 3 → OKl x0_line x0_coins x0_left p2 f0 l w) ∧ ∀ w : Nat, w < z40.toNatClampNeg → OKl x0_line x0_coins x0_left p2 f0 z13.toNatClampNeg w)) → Sf (fX7_findFar_s61 p2 x0_shelf x0_rowSort x0_rowSize x0_rows x0_moved x0_shown x0_tape x0_tapeSize x0_refused x0_lines x0_line x0_changes x0_coins x0_goods x0_good x0_works x0_work x0_years x0_gone x0_spent x0_at x0_token x0_from x0_figures x0_fault x0_numbers x0_statements x0_left x0_way x0_steps x0_met x0_queue x0_totals z13 z39 z40 z41) (LQ (u3 (fun (z39 : Int32) (z40 : Int32) (z41 : Nat → Int32) => Jf (Ed x0_lines.toNatClampNeg x0_line x0_changes x0_coins x0_left p2) G f0 z39 z41 ∧ 0 ≤ z40 ∧ (z39 = 0 → (∀ l : Nat, l < z13.toNatClampNeg → ∀ w : Nat, w < 3 → OKl x0_line x0_coins x0_left p2 f0 l w) ∧ ∀ w : Nat, w < z40.toNatClampNeg → OKl x0_line x0_coins x0_left p2 f0 z13.toNatClampNeg w))) (u3 (fun (z39 : Int32) (z40 : Int32) (z41 : Nat → Int32) => muUp z40)) (muUp z40) (fun e => Jf (Ed x0_lines.toNatClampNeg x0_line x0_changes x0_coins x0_left p2) G f0 e.1 e.2 ∧ (e.1 = 0 → (∀ l : Nat, l < z13.toNatClampNeg → ∀ w : Nat, w < 3 → OKl x0_line x0_coins x0_left p2 f0 l w) ∧ ∀ w : Nat, w < 3 → OKl x0_line x0_coins x0_left p2 f0 z13.toNatClampNeg w))) := fun z39 z40 z41 hh => T_s61 h_lines h_x0_line h_coins ⟨h13, hlt⟩ hh.1 hh.2.1 hh.2.2
  have in24 : Jf (Ed x0_lines.toNatClampNeg x0_line x0_changes x0_coins x0_left p2) G f0 z12 z14 ∧ 0 ≤ (0 : Int32) ∧ (z12 = 0 → (∀ l : Nat, l < z13.toNatClampNeg → ∀ w : Nat, w < 3 → OKl x0_line x0_coins x0_left p2 f0 l w) ∧ ∀ w : Nat, w < (0 : Int32).toNatClampNeg → OKl x0_line x0_coins x0_left p2 f0 z13.toNatClampNeg w) := ⟨hJ, Int32.le_refl _, fun h0 => ⟨hK h0, fun w hw => absurd hw (Nat.not_lt_zero _)⟩⟩
  have lo24 : Sf (lp (u3 (fX7_findFar_s61 p2 x0_shelf x0_rowSort x0_rowSize x0_rows x0_moved x0_shown x0_tape x0_tapeSize x0_refused x0_lines x0_line x0_changes x0_coins x0_goods x0_good x0_works x0_work x0_years x0_gone x0_spent x0_at x0_token x0_from x0_figures x0_fault x0_numbers x0_statements x0_left x0_way x0_steps x0_met x0_queue x0_totals z13)) n (z12, 0, z14)) (fun e => Jf (Ed x0_lines.toNatClampNeg x0_line x0_changes x0_coins x0_left p2) G f0 e.1 e.2 ∧ (e.1 = 0 → (∀ l : Nat, l < z13.toNatClampNeg → ∀ w : Nat, w < 3 → OKl x0_line x0_coins x0_left p2 f0 l w) ∧ ∀ w : Nat, w < 3 → OKl x0_line x0_coins x0_left p2 f0 z13.toNatClampNeg w)) := Sf.loop3 (fun (z39 : Int32) (z40 : Int32) (z41 : Nat → Int32) => Jf (Ed x0_lines.toNatClampNeg x0_line x0_changes x0_coins x0_left p2) G f0 z39 z41 ∧ 0 ≤ z40 ∧ (z39 = 0 → (∀ l : Nat, l < z13.toNatClampNeg → ∀ w : Nat, w < 3 → OKl x0_line x0_coins x0_left p2 f0 l w) ∧ ∀ w : Nat, w < z40.toNatClampNeg → OKl x0_line x0_coins x0_left p2 f0 z13.toNatClampNeg w)) (fun (z39 : Int32) (z40 : Int32) (z41 : Nat → Int32) => muUp z40) st24 in24 (show muUp 0 < n from muUp_n hn)
  refine Sf.bind lo24 ?_
  rintro ⟨w43, w44⟩ ⟨j, k⟩
  refine Sf.inl ⟨j, h14, fun h0 l hl w hw => ?_⟩ (muUp_lt h)
  rw [n14] at hl
  by_cases hx : l = z13.toNatClampNeg
  · subst hx; exact (k h0).2 w hw
  · exact (k h0).1 l (by omega) w hw
theorem dv_n {x : Int32} (h : 0 ≤ x ∧ x ≤ 35) : (x / 3).toNatClampNeg = x.toNatClampNeg / 3 := by
  have e : x = Int32.ofNat x.toNatClampNeg := (Int32.ofNat_toNatClampNeg x h.1).symm
  have hl : x.toNatClampNeg < 36 := i32_lt (M := 36) rfl ⟨h.1, Int32.lt_of_le_of_lt h.2 (by decide)⟩
  have key : ∀ i : Fin 36, ((Int32.ofNat i.1) / 3).toNatClampNeg = i.1 / 3 := by decide +kernel
  have := key ⟨_, hl⟩
  rw [e]
  have e2 : (Int32.ofNat x.toNatClampNeg).toNatClampNeg = x.toNatClampNeg := by rw [← e]
  rw [e2]
  exact this
theorem T_s232 {P0 : Prop} {D : Nat → Nat → Int → Prop} {G : Nat → Prop} {f0 : Nat → Int32} {x0_changes : (Nat → Int32)} {z20 z26 z27 : Int32} {z28 : (Nat → Int32)} (hD : ∀ p w w' : Nat, p < 12 → w < 3 → w' < 3 → D (3 * p + w) (3 * p + w') (x0_changes p).toInt) (h_ch : AI 0 99 x0_changes) (h20 : 0 ≤ z20 ∧ z20 ≤ 35) (hI : Jf D G f0 z26 z28 ∧ 0 ≤ z27 ∧ (z26 = 0 → P0 ∧ ∀ w : Nat, w < z27.toNatClampNeg → OKc x0_changes f0 z20.toNatClampNeg w)) :
    Sf (fX7_findFar_s232 x0_changes z20 z26 z27 z28) (LQ (u3 (fun (z26 : Int32) (z27 : Int32) (z28 : Nat → Int32) => Jf D G f0 z26 z28 ∧ 0 ≤ z27 ∧ (z26 = 0 → P0 ∧ ∀ w : Nat, w < z27.toNatClampNeg → OKc x0_changes f0 z20.toNatClampNeg w))) (u3 (fun (z26 : Int32) (z27 : Int32) (z28 : Nat → Int32) => muUp z27)) (muUp z27) (fun e => Jf D G f0 e.1 e.2 ∧ (e.1 = 0 → P0 ∧ ∀ w : Nat, w < 3 → OKc x0_changes f0 z20.toNatClampNeg w))) := by
  unfold fX7_findFar_s232
  obtain ⟨hJ, h27, hK⟩ := hI
  refine Sf.ite (fun h => Sf.inr ⟨hJ, fun h0 => ⟨(hK h0).1, fun w hw => (hK h0).2 w ?_⟩⟩) (fun h => ?_)
  · have a := Int32.le_iff_toInt_le.mp h
    have b := i32_cl h27
    have z3 : (3 : Int32).toInt = 3 := by decide
    rw [z3] at a
    omega
  obtain ⟨h28, n28, hlt⟩ := up1 h27 (by decide) h
  have lw : z27.toNatClampNeg < 3 := i32_lt (M := 3) rfl ⟨h27, hlt⟩
  obtain ⟨d0, d1, d2, d3⟩ := dv3 h20
  have dn := dv_n h20
  have ln : z20.toNatClampNeg < 36 := i32_lt (M := 36) rfl ⟨h20.1, Int32.lt_of_le_of_lt h20.2 (by decide)⟩
  have nx : ((z20 / 3) * 3 + z27).toNatClampNeg = z20.toNatClampNeg / 3 * 3 + z27.toNatClampNeg := by
    have := ixm (p := z20 / 3) (m := 3) (c := z27) ⟨d0, Int32.le_trans d1 (by decide)⟩ (by decide) ⟨h27, Int32.le_of_lt (Int32.lt_trans hlt (by decide))⟩
    rw [this, dn]
    rfl
  have ix : 0 ≤ (z20 / 3) * 3 + z27 ∧ (z20 / 3) * 3 + z27 < 36 := by
    generalize z20 / 3 = y at d0 d1
    clear d2 d3 h20
    grind
  have ip : 0 ≤ z20 / 3 ∧ z20 / 3 < 12 := ⟨d0, Int32.lt_of_le_of_lt d1 (by decide)⟩
  have i20 : 0 ≤ z20 ∧ z20 < 36 := ⟨h20.1, Int32.lt_of_le_of_lt h20.2 (by decide)⟩
  refine Sf.rdb 36 rfl ix (fun v32 e32 => ?_)
  refine Sf.rdI 12 rfl h_ch ip (fun v33 b33 e33 => ?_)
  refine Sf.rdb 36 rfl i20 (fun v34 e34 => ?_)
  rw [nx] at e32
  rw [dn] at e33
  have nxt : ∀ {l : Int32} {g : Nat → Int32}, Jf D G f0 l g → (l = 0 → z26 = 0 ∧ OKc x0_changes f0 z20.toNatClampNeg z27.toNatClampNeg) → Sf (some (.inl (l, z27 + 1, g) : (Int32 × Int32 × (Nat → Int32)) ⊕ (Int32 × (Nat → Int32)))) (LQ (u3 (fun (z26 : Int32) (z27 : Int32) (z28 : Nat → Int32) => Jf D G f0 z26 z28 ∧ 0 ≤ z27 ∧ (z26 = 0 → P0 ∧ ∀ w : Nat, w < z27.toNatClampNeg → OKc x0_changes f0 z20.toNatClampNeg w))) (u3 (fun (z26 : Int32) (z27 : Int32) (z28 : Nat → Int32) => muUp z27)) (muUp z27) (fun e => Jf D G f0 e.1 e.2 ∧ (e.1 = 0 → P0 ∧ ∀ w : Nat, w < 3 → OKc x0_changes f0 z20.toNatClampNeg w))) := by
    intro l g j k
    refine Sf.inl ⟨j, h28, fun h0 => ⟨(hK (k h0).1).1, fun w hw => ?_⟩⟩ (muUp_lt h)
    rw [n28] at hw
    by_cases hx : w = z27.toNatClampNeg
    · subst hx; exact (k h0).2
    · exact (hK (k h0).1).2 w (by omega)
  refine Sf.ite (fun hle => ?_) (fun hle => ?_)
  · refine nxt hJ (fun h0 => ⟨h0, ?_⟩)
    have hg : z28 = f0 := by
      rcases hJ.2.2 with jj | jj
      · exact jj.2
      · rw [h0] at jj; exact absurd jj.1 (by decide)
    unfold OKc
    rw [e34, e32, e33, hg] at hle
    exact hle
  · refine Sf.rdb 36 rfl ix (fun v35 e35 => ?_)
    refine Sf.rdI 12 rfl h_ch ip (fun v36 b36 e36 => ?_)
    rw [nx] at e35
    rw [dn] at e36
    refine Sf.wrb 36 rfl i20 (fun f37 e37 => ?_)
    rw [e37]
    refine nxt (hJ.rlx (v := z20.toNatClampNeg / 3 * 3 + z27.toNatClampNeg) (c := v36) ln (by omega) ?_ ⟨b36.1, Int32.le_trans b36.2 (by decide)⟩ (by rw [e35]) (by rw [e35, e36, ← e33, ← e32, ← e34]; exact hle)) (fun h0 => absurd h0 (by decide))
    have hd := hD (z20.toNatClampNeg / 3) (z20.toNatClampNeg % 3) z27.toNatClampNeg (by omega) (by omega) lw
    rw [e36]
    have a1 : 3 * (z20.toNatClampNeg / 3) + z20.toNatClampNeg % 3 = z20.toNatClampNeg := by omega
    have a2 : 3 * (z20.toNatClampNeg / 3) + z27.toNatClampNeg = z20.toNatClampNeg / 3 * 3 + z27.toNatClampNeg := by omega
    rw [a1, a2] at hd
    exact hd
theorem T_s222 {n : Nat} {P0 : Prop} {D : Nat → Nat → Int → Prop} {G : Nat → Prop} {f0 : Nat → Int32} {x0_changes : (Nat → Int32)} {z19 z20 : Int32} {z21 : (Nat → Int32)} (hn : 1000000000000 ≤ n) (hD : ∀ p w w' : Nat, p < 12 → w < 3 → w' < 3 → D (3 * p + w) (3 * p + w') (x0_changes p).toInt) (h_ch : AI 0 99 x0_changes) (hI : Jf D G f0 z19 z21 ∧ 0 ≤ z20 ∧ (z19 = 0 → P0 ∧ ∀ m : Nat, m < z20.toNatClampNeg → ∀ w : Nat, w < 3 → OKc x0_changes f0 m w)) :
    Sf (fX7_findFar_s222 n x0_changes z19 z20 z21) (LQ (u3 (fun (z19 : Int32) (z20 : Int32) (z21 : Nat → Int32) => Jf D G f0 z19 z21 ∧ 0 ≤ z20 ∧ (z19 = 0 → P0 ∧ ∀ m : Nat, m < z20.toNatClampNeg → ∀ w : Nat, w < 3 → OKc x0_changes f0 m w))) (u3 (fun (z19 : Int32) (z20 : Int32) (z21 : Nat → Int32) => muUp z20)) (muUp z20) (fun e => Jf D G f0 e.1 e.2 ∧ (e.1 = 0 → P0 ∧ ∀ m : Nat, m < 36 → ∀ w : Nat, w < 3 → OKc x0_changes f0 m w))) := by
  unfold fX7_findFar_s222
  obtain ⟨hJ, h20, hK⟩ := hI
  refine Sf.ite (fun h => Sf.inr ⟨hJ, fun h0 => ⟨(hK h0).1, fun m hm => (hK h0).2 m ?_⟩⟩) (fun h => ?_)
  · have a := Int32.le_iff_toInt_le.mp h
    have b := i32_cl h20
    have z3 : (36 : Int32).toInt = 36 := by decide
    rw [z3] at a
    omega
  obtain ⟨h21, n21, hlt⟩ := up1 h20 (by decide) h
  have h35 : 0 ≤ z20 ∧ z20 ≤ 35 := ⟨h20, by
    have a := Int32.lt_iff_toInt_lt.mp hlt
    have y1 : (36 : Int32).toInt = 36 := by decide
    have y2 : (35 : Int32).toInt = 35 := by decide
    exact Int32.le_iff_toInt_le.mpr (by rw [y2]; rw [y1] at a; omega)⟩
  have st118 : ∀ (z26 z27 : Int32) (z28 : Nat → Int32), (Jf D G f0 z26 z28 ∧ 0 ≤ z27 ∧ (z26 = 0 → (P0 ∧ ∀ m : Nat, m < z20.toNatClampNeg → ∀ w : Nat, w < 3 → OKc x0_changes f0 m w) ∧ ∀ w : Nat, w < z27.toNatClampNeg → OKc x0_changes f0 z20.toNatClampNeg w)) → Sf (fX7_findFar_s232 x0_changes z20 z26 z27 z28) (LQ (u3 (fun (z26 : Int32) (z27 : Int32) (z28 : Nat → Int32) => Jf D G f0 z26 z28 ∧ 0 ≤ z27 ∧ (z26 = 0 → (P0 ∧ ∀ m : Nat, m < z20.toNatClampNeg → ∀ w : Nat, w < 3 → OKc x0_changes f0 m w) ∧ ∀ w : Nat, w < z27.toNatClampNeg → OKc x0_changes f0 z20.toNatClampNeg w))) (u3 (fun (z26 : Int32) (z27 : Int32) (z28 : Nat → Int32) => muUp z27)) (muUp z27) (fun e => Jf D G f0 e.1 e.2 ∧ (e.1 = 0 → (P0 ∧ ∀ m : Nat, m < z20.toNatClampNeg → ∀ w : Nat, w < 3 → OKc x0_changes f0 m w) ∧ ∀ w : Nat, w < 3 → OKc x0_changes f0 z20.toNatClampNeg w))) := fun z26 z27 z28 hh => T_s232 hD h_ch h35 hh
  have in118 : Jf D G f0 z19 z21 ∧ 0 ≤ (0 : Int32) ∧ (z19 = 0 → (P0 ∧ ∀ m : Nat, m < z20.toNatClampNeg → ∀ w : Nat, w < 3 → OKc x0_changes f0 m w) ∧ ∀ w : Nat, w < (0 : Int32).toNatClampNeg → OKc x0_changes f0 z20.toNatClampNeg w) := ⟨hJ, Int32.le_refl _, fun h0 => ⟨hK h0, fun w hw => absurd hw (Nat.not_lt_zero _)⟩⟩
  have lo118 : Sf (lp (u3 (fX7_findFar_s232 x0_changes z20)) n (z19, 0, z21)) (fun e => Jf D G f0 e.1 e.2 ∧ (e.1 = 0 → (P0 ∧ ∀ m : Nat, m < z20.toNatClampNeg → ∀ w : Nat, w < 3 → OKc x0_changes f0 m w) ∧ ∀ w : Nat, w < 3 → OKc x0_changes f0 z20.toNatClampNeg w)) := Sf.loop3 (fun (z26 : Int32) (z27 : Int32) (z28 : Nat → Int32) => Jf D G f0 z26 z28 ∧ 0 ≤ z27 ∧ (z26 = 0 → (P0 ∧ ∀ m : Nat, m < z20.toNatClampNeg → ∀ w : Nat, w < 3 → OKc x0_changes f0 m w) ∧ ∀ w : Nat, w < z27.toNatClampNeg → OKc x0_changes f0 z20.toNatClampNeg w)) (fun (z26 : Int32) (z27 : Int32) (z28 : Nat → Int32) => muUp z27) st118 in118 (show muUp 0 < n from muUp_n hn)
  refine Sf.bind lo118 ?_
  rintro ⟨w30, w31⟩ ⟨j, k⟩
  refine Sf.inl ⟨j, h21, fun h0 => ⟨(k h0).1.1, fun m hm w hw => ?_⟩⟩ (muUp_lt h)
  rw [n21] at hm
  by_cases hx : m = z20.toNatClampNeg
  · subst hx; exact (k h0).2 w hw
  · exact (k h0).1.2 m (by omega) w hw
def faMu (less : Int32) (far : Nat → Int32) : Nat := S36 far + (if less = 0 then 0 else 1)
theorem T_s40 {n : Nat} {G : Nat → Prop} {p2 : Int32} {x0_shelf x0_rowSort x0_rowSize : (Nat → Int32)} {x0_rows : (Nat → Nat → Int64)} {x0_moved : (Nat → Int64)} {x0_shown x0_tape : (Nat → Int32)} {x0_tapeSize : Int32} {x0_refused : (Nat → Int32)} {x0_lines : Int32} {x0_line : (Nat → Nat → Int32)} {x0_changes x0_coins : (Nat → Int32)} {x0_goods : Int32} {x0_good : (Nat → Nat → Int32)} {x0_works : Int32} {x0_work : (Nat → Nat → Int32)} {x0_years x0_gone x0_spent x0_at x0_token x0_from : Int32} {x0_figures : Int64} {x0_fault : Int32} {x0_numbers : (Nat → Int32)} {x0_statements : Int32} {x0_left x0_way : (Nat → Int32)} {x0_steps : Int32} {x0_met : Int64} {x0_queue x0_totals : (Nat → Int32)} {z7 : Int32} {z8 : (Nat → Int32)} (hn : 1000000000000 ≤ n) (h_lines : 0 ≤ x0_lines ∧ x0_lines ≤ 20) (h_x0_line : LnM x0_line) (h_coins : AI 0 9 x0_coins) (h_ch : AI 0 99 x0_changes) (hI : AI 0 1000000000 z8 ∧ At (Ed x0_lines.toNatClampNeg x0_line x0_changes x0_coins x0_left p2) G z8 ∧ (z7 = 0 → (∀ l : Nat, l < x0_lines.toNatClampNeg → ∀ w : Nat, w < 3 → OKl x0_line x0_coins x0_left p2 z8 l w) ∧ (∀ m : Nat, m < 36 → ∀ w : Nat, w < 3 → OKc x0_changes z8 m w))) :
    Sf (fX7_findFar_s40 n p2 x0_shelf x0_rowSort x0_rowSize x0_rows x0_moved x0_shown x0_tape x0_tapeSize x0_refused x0_lines x0_line x0_changes x0_coins x0_goods x0_good x0_works x0_work x0_years x0_gone x0_spent x0_at x0_token x0_from x0_figures x0_fault x0_numbers x0_statements x0_left x0_way x0_steps x0_met x0_queue x0_totals z7 z8) (LQ (u2 (fun (z7 : Int32) (z8 : Nat → Int32) => AI 0 1000000000 z8 ∧ At (Ed x0_lines.toNatClampNeg x0_line x0_changes x0_coins x0_left p2) G z8 ∧ (z7 = 0 → (∀ l : Nat, l < x0_lines.toNatClampNeg → ∀ w : Nat, w < 3 → OKl x0_line x0_coins x0_left p2 z8 l w) ∧ (∀ m : Nat, m < 36 → ∀ w : Nat, w < 3 → OKc x0_changes z8 m w)))) (u2 (fun (z7 : Int32) (z8 : Nat → Int32) => faMu z7 z8)) (faMu z7 z8) (fun e => AI 0 1000000000 e ∧ At (Ed x0_lines.toNatClampNeg x0_line x0_changes x0_coins x0_left p2) G e ∧ (∀ l : Nat, l < x0_lines.toNatClampNeg → ∀ w : Nat, w < 3 → OKl x0_line x0_coins x0_left p2 e l w) ∧ (∀ m : Nat, m < 36 → ∀ w : Nat, w < 3 → OKc x0_changes e m w))) := by
  unfold fX7_findFar_s40
  obtain ⟨hA, hAt, hK⟩ := hI
  refine Sf.ite (fun h => Sf.inr ⟨hA, hAt, hK h⟩) (fun h => ?_)
  have hD : ∀ p w w' : Nat, p < 12 → w < 3 → w' < 3 → (Ed x0_lines.toNatClampNeg x0_line x0_changes x0_coins x0_left p2) (3 * p + w) (3 * p + w') (x0_changes p).toInt := fun p w w' h1 h2 h3 => Or.inr ⟨p, w, w', h1, h2, h3, rfl, rfl, rfl⟩
  have st135 : ∀ (z12 z13 : Int32) (z14 : Nat → Int32), (Jf (Ed x0_lines.toNatClampNeg x0_line x0_changes x0_coins x0_left p2) G z8 z12 z14 ∧ 0 ≤ z13 ∧ (z12 = 0 → ∀ l : Nat, l < z13.toNatClampNeg → ∀ w : Nat, w < 3 → OKl x0_line x0_coins x0_left p2 z8 l w)) → Sf (fX7_findFar_s49 n p2 x0_shelf x0_rowSort x0_rowSize x0_rows x0_moved x0_shown x0_tape x0_tapeSize x0_refused x0_lines x0_line x0_changes x0_coins x0_goods x0_good x0_works x0_work x0_years x0_gone x0_spent x0_at x0_token x0_from x0_figures x0_fault x0_numbers x0_statements x0_left x0_way x0_steps x0_met x0_queue x0_totals z12 z13 z14) (LQ (u3 (fun (z12 : Int32) (z13 : Int32) (z14 : Nat → Int32) => Jf (Ed x0_lines.toNatClampNeg x0_line x0_changes x0_coins x0_left p2) G z8 z12 z14 ∧ 0 ≤ z13 ∧ (z12 = 0 → ∀ l : Nat, l < z13.toNatClampNeg → ∀ w : Nat, w < 3 → OKl x0_line x0_coins x0_left p2 z8 l w))) (u3 (fun (z12 : Int32) (z13 : Int32) (z14 : Nat → Int32) => muUp z13)) (muUp z13) (fun e => Jf (Ed x0_lines.toNatClampNeg x0_line x0_changes x0_coins x0_left p2) G z8 e.1 e.2 ∧ (e.1 = 0 → ∀ l : Nat, l < x0_lines.toNatClampNeg → ∀ w : Nat, w < 3 → OKl x0_line x0_coins x0_left p2 z8 l w))) := fun z12 z13 z14 hh => T_s49 hn h_lines h_x0_line h_coins hh
  have in135 : Jf (Ed x0_lines.toNatClampNeg x0_line x0_changes x0_coins x0_left p2) G z8 (0 : Int32) z8 ∧ 0 ≤ (0 : Int32) ∧ ((0 : Int32) = 0 → ∀ l : Nat, l < (0 : Int32).toNatClampNeg → ∀ w : Nat, w < 3 → OKl x0_line x0_coins x0_left p2 z8 l w) := ⟨⟨hA, hAt, Or.inl ⟨rfl, rfl⟩⟩, Int32.le_refl _, fun _ l hl => absurd hl (Nat.not_lt_zero _)⟩
  have lo135 : Sf (lp (u3 (fX7_findFar_s49 n p2 x0_shelf x0_rowSort x0_rowSize x0_rows x0_moved x0_shown x0_tape x0_tapeSize x0_refused x0_lines x0_line x0_changes x0_coins x0_goods x0_good x0_works x0_work x0_years x0_gone x0_spent x0_at x0_token x0_from x0_figures x0_fault x0_numbers x0_statements x0_left x0_way x0_steps x0_met x0_queue x0_totals)) n (0, 0, z8)) (fun e => Jf (Ed x0_lines.toNatClampNeg x0_line x0_changes x0_coins x0_left p2) G z8 e.1 e.2 ∧ (e.1 = 0 → ∀ l : Nat, l < x0_lines.toNatClampNeg → ∀ w : Nat, w < 3 → OKl x0_line x0_coins x0_left p2 z8 l w)) := Sf.loop3 (fun (z12 : Int32) (z13 : Int32) (z14 : Nat → Int32) => Jf (Ed x0_lines.toNatClampNeg x0_line x0_changes x0_coins x0_left p2) G z8 z12 z14 ∧ 0 ≤ z13 ∧ (z12 = 0 → ∀ l : Nat, l < z13.toNatClampNeg → ∀ w : Nat, w < 3 → OKl x0_line x0_coins x0_left p2 z8 l w)) (fun (z12 : Int32) (z13 : Int32) (z14 : Nat → Int32) => muUp z13) st135 in135 (show muUp 0 < n from muUp_n hn)
  refine Sf.bind lo135 ?_
  rintro ⟨w16, w17⟩ ⟨j, k⟩
  have st140 : ∀ (z19 z20 : Int32) (z21 : Nat → Int32), (Jf (Ed x0_lines.toNatClampNeg x0_line x0_changes x0_coins x0_left p2) G z8 z19 z21 ∧ 0 ≤ z20 ∧ (z19 = 0 → (∀ l : Nat, l < x0_lines.toNatClampNeg → ∀ w : Nat, w < 3 → OKl x0_line x0_coins x0_left p2 z8 l w) ∧ ∀ m : Nat, m < z20.toNatClampNeg → ∀ w : Nat, w < 3 → OKc x0_changes z8 m w)) → Sf (fX7_findFar_s222 n x0_changes z19 z20 z21) (LQ (u3 (fun (z19 : Int32) (z20 : Int32) (z21 : Nat → Int32) => Jf (Ed x0_lines.toNatClampNeg x0_line x0_changes x0_coins x0_left p2) G z8 z19 z21 ∧ 0 ≤ z20 ∧ (z19 = 0 → (∀ l : Nat, l < x0_lines.toNatClampNeg → ∀ w : Nat, w < 3 → OKl x0_line x0_coins x0_left p2 z8 l w) ∧ ∀ m : Nat, m < z20.toNatClampNeg → ∀ w : Nat, w < 3 → OKc x0_changes z8 m w))) (u3 (fun (z19 : Int32) (z20 : Int32) (z21 : Nat → Int32) => muUp z20)) (muUp z20) (fun e => Jf (Ed x0_lines.toNatClampNeg x0_line x0_changes x0_coins x0_left p2) G z8 e.1 e.2 ∧ (e.1 = 0 → (∀ l : Nat, l < x0_lines.toNatClampNeg → ∀ w : Nat, w < 3 → OKl x0_line x0_coins x0_left p2 z8 l w) ∧ ∀ m : Nat, m < 36 → ∀ w : Nat, w < 3 → OKc x0_changes z8 m w))) := fun z19 z20 z21 hh => T_s222 hn hD h_ch hh
  have in140 : Jf (Ed x0_lines.toNatClampNeg x0_line x0_changes x0_coins x0_left p2) G z8 w16 w17 ∧ 0 ≤ (0 : Int32) ∧ (w16 = 0 → (∀ l : Nat, l < x0_lines.toNatClampNeg → ∀ w : Nat, w < 3 → OKl x0_line x0_coins x0_left p2 z8 l w) ∧ ∀ m : Nat, m < (0 : Int32).toNatClampNeg → ∀ w : Nat, w < 3 → OKc x0_changes z8 m w) := ⟨j, Int32.le_refl _, fun h0 => ⟨k h0, fun m hm => absurd hm (Nat.not_lt_zero _)⟩⟩
  have lo140 : Sf (lp (u3 (fX7_findFar_s222 n x0_changes)) n (w16, 0, w17)) (fun e => Jf (Ed x0_lines.toNatClampNeg x0_line x0_changes x0_coins x0_left p2) G z8 e.1 e.2 ∧ (e.1 = 0 → (∀ l : Nat, l < x0_lines.toNatClampNeg → ∀ w : Nat, w < 3 → OKl x0_line x0_coins x0_left p2 z8 l w) ∧ ∀ m : Nat, m < 36 → ∀ w : Nat, w < 3 → OKc x0_changes z8 m w)) := Sf.loop3 (fun (z19 : Int32) (z20 : Int32) (z21 : Nat → Int32) => Jf (Ed x0_lines.toNatClampNeg x0_line x0_changes x0_coins x0_left p2) G z8 z19 z21 ∧ 0 ≤ z20 ∧ (z19 = 0 → (∀ l : Nat, l < x0_lines.toNatClampNeg → ∀ w : Nat, w < 3 → OKl x0_line x0_coins x0_left p2 z8 l w) ∧ ∀ m : Nat, m < z20.toNatClampNeg → ∀ w : Nat, w < 3 → OKc x0_changes z8 m w)) (fun (z19 : Int32) (z20 : Int32) (z21 : Nat → Int32) => muUp z20) st140 in140 (show muUp 0 < n from muUp_n hn)
  refine Sf.bind lo140 ?_
  rintro ⟨w23, w24⟩ ⟨j2, k2⟩
  refine Sf.inl ⟨j2.1, j2.2.1, fun h0 => ?_⟩ ?_
  · have hg : w24 = z8 := by
      rcases j2.2.2 with jj | jj
      · exact jj.2
      · rw [h0] at jj; exact absurd jj.1 (by decide)
    rw [hg]
    exact k2 h0
  · show faMu w23 w24 < faMu z7 z8
    unfold faMu
    rw [if_neg h]
    rcases j2.2.2 with ⟨ja, jb⟩ | ⟨ja, jb⟩
    · have ja : w23 = 0 := ja
      have jb : w24 = z8 := jb
      rw [if_pos ja, jb]; omega
    · have ja : w23 = 1 := ja
      have jb : S36 w24 < S36 z8 := jb
      rw [if_neg (by rw [ja]; decide)]; omega
end
section
theorem far_init {p1 : Int32} (hp : 0 ≤ p1 ∧ p1 ≤ 11) : ∀ (n : Nat) (z : Int32) (f : Nat → Int32), 0 ≤ z → z ≤ 36 → AI 0 1000000000 f → (∀ u : Nat, u < z.toNatClampNeg → f u = if u / 3 = p1.toNatClampNeg then 0 else 1000000000) → muUp z < n → Sf (lp (u2 (fX7_findFar_s7 p1)) n (z, f)) (fun r => AI 0 1000000000 r ∧ ∀ u : Nat, u < 36 → r u = if u / 3 = p1.toNatClampNeg then 0 else 1000000000) := by
  intro n z f h0 h1 hA hf hn
  refine Sf.loop2 (fun (z : Int32) (f : Nat → Int32) => (0 ≤ z ∧ z ≤ 36) ∧ AI 0 1000000000 f ∧ ∀ u : Nat, u < z.toNatClampNeg → f u = if u / 3 = p1.toNatClampNeg then 0 else 1000000000) (fun (z : Int32) (f : Nat → Int32) => muUp z) (fun z f hh => ?_) ⟨⟨h0, h1⟩, hA, hf⟩ hn
  obtain ⟨⟨h0, h1⟩, hA, hf⟩ := hh
  unfold fX7_findFar_s7
  refine Sf.ite (fun h => Sf.inr ⟨hA, fun u hu => hf u ?_⟩) (fun h => ?_)
  · have a := Int32.le_iff_toInt_le.mp h
    have b := i32_cl h0
    have z3 : (36 : Int32).toInt = 36 := by decide
    rw [z3] at a
    omega
  obtain ⟨h2, n2, hlt⟩ := up1 h0 (by decide) h
  have h35 : 0 ≤ z ∧ z ≤ 35 := by grind
  have dn := dv_n h35
  have up : ∀ (x : Int32) (g : Nat → Int32), (0 ≤ x ∧ x ≤ 1000000000) → g = va_up f z.toNatClampNeg x → x = (if z.toNatClampNeg / 3 = p1.toNatClampNeg then 0 else 1000000000) → Sf (some (.inl (z + 1, g) : (Int32 × (Nat → Int32)) ⊕ (Nat → Int32))) (LQ (u2 (fun (z : Int32) (f : Nat → Int32) => (0 ≤ z ∧ z ≤ 36) ∧ AI 0 1000000000 f ∧ ∀ u : Nat, u < z.toNatClampNeg → f u = if u / 3 = p1.toNatClampNeg then 0 else 1000000000)) (u2 (fun (z : Int32) (f : Nat → Int32) => muUp z)) (muUp z) (fun r => AI 0 1000000000 r ∧ ∀ u : Nat, u < 36 → r u = if u / 3 = p1.toNatClampNeg then 0 else 1000000000)) := by
    intro x g hx eg ex
    subst eg
    refine Sf.inl ⟨⟨h2, by grind⟩, hA.up hx, fun u hu => ?_⟩ (muUp_lt h)
    have hu : u < (z + 1).toNatClampNeg := hu
    rw [n2] at hu
    by_cases hk : u = z.toNatClampNeg
    · subst hk
      show va_up f z.toNatClampNeg x z.toNatClampNeg = _
      rw [va_up_self]; exact ex
    · show va_up f z.toNatClampNeg x u = _
      rw [va_up_ne _ _ hk]; exact hf u (by omega)
  have i36 : 0 ≤ z ∧ z < 36 := ⟨h0, hlt⟩
  refine Sf.ite (fun he => ?_) (fun he => ?_)
  · exact Sf.wrb 36 rfl i36 (fun g eg => up 0 g (by decide) eg (by rw [if_pos]; rw [← dn, he]))
  · refine Sf.wrb 36 rfl i36 (fun g eg => up 1000000000 g (by decide) eg (by
      rw [if_neg]
      intro hx
      apply he
      have e1 : z / 3 = Int32.ofNat (z / 3).toNatClampNeg := (Int32.ofNat_toNatClampNeg _ (dv3 h35).1).symm
      have e2 : p1 = Int32.ofNat p1.toNatClampNeg := (Int32.ofNat_toNatClampNeg _ hp.1).symm
      rw [e1, e2, dn, hx]))
theorem farS {n : Nat} {x0_shelf x0_rowSort x0_rowSize : (Nat → Int32)} {x0_rows : (Nat → Nat → Int64)} {x0_moved : (Nat → Int64)} {x0_shown x0_tape : (Nat → Int32)} {x0_tapeSize : Int32} {x0_refused : (Nat → Int32)} {x0_lines : Int32} {x0_line : (Nat → Nat → Int32)} {x0_changes x0_coins : (Nat → Int32)} {x0_goods : Int32} {x0_good : (Nat → Nat → Int32)} {x0_works : Int32} {x0_work : (Nat → Nat → Int32)} {x0_years x0_gone x0_spent x0_at x0_token x0_from : Int32} {x0_figures : Int64} {x0_fault : Int32} {x0_numbers : (Nat → Int32)} {x0_statements : Int32} {x0_left x0_far : (Nat → Int32)} {x0_tons : Int32} {x0_way : (Nat → Int32)} {x0_steps : Int32} {x0_met : Int64} {x0_queue x0_totals : (Nat → Int32)} {p1 p2 : Int32} (hn : 1000000000000 ≤ n) (h_x0_shelf : (AI 0 2 x0_shelf)) (h_x0_rowSize : (AI 0 40 x0_rowSize)) (h_x0_tapeSize : (0 ≤ x0_tapeSize ∧ x0_tapeSize ≤ 250)) (h_x0_lines : (0 ≤ x0_lines ∧ x0_lines ≤ 20)) (h_x0_line : (LnM x0_line)) (h_x0_changes : (AI 0 99 x0_changes)) (h_x0_coins : (AI 0 9 x0_coins)) (h_x0_goods : (0 ≤ x0_goods ∧ x0_goods ≤ 8)) (h_x0_good : (GdM x0_good)) (h_x0_works : (0 ≤ x0_works ∧ x0_works ≤ 7)) (h_x0_work : (WkM x0_work)) (h_x0_years : (1 ≤ x0_years ∧ x0_years ≤ 30)) (h_x0_from : (0 ≤ x0_from ∧ x0_from ≤ 250)) (h_x0_far : (AI 0 1000000000 x0_far)) (h_x0_way : (AI 0 22 x0_way)) (h_x0_steps : (0 ≤ x0_steps ∧ x0_steps ≤ 37)) (h_x0_queue : (AI 0 35 x0_queue)) (h_p1 : (0 ≤ p1 ∧ p1 ≤ 11)) : Sf (fX7_findFar n (x0_shelf, x0_rowSort, x0_rowSize, x0_rows, x0_moved, x0_shown, x0_tape, x0_tapeSize, x0_refused, x0_lines, x0_line, x0_changes, x0_coins, x0_goods, x0_good, x0_works, x0_work, x0_years, x0_gone, x0_spent, x0_at, x0_token, x0_from, x0_figures, x0_fault, x0_numbers, x0_statements, x0_left, x0_far, x0_tons, x0_way, x0_steps, x0_met, x0_queue, x0_totals) p1 p2) (fun r => (AI 0 1000000000 r.1) ∧ (At (Ed x0_lines.toNatClampNeg x0_line x0_changes x0_coins x0_left p2) (fun u => u / 3 = p1.toNatClampNeg) r.1 ∧ ((∀ l : Nat, l < x0_lines.toNatClampNeg → ∀ w : Nat, w < 3 → OKl x0_line x0_coins x0_left p2 r.1 l w) ∧ (∀ m : Nat, m < 36 → ∀ w : Nat, w < 3 → OKc x0_changes r.1 m w)) ∧ r.2 = p2)) := by
  unfold fX7_findFar
  dsimp only [u35]
  refine Sf.bind (far_init h_p1 n 0 x0_far (by decide) (by decide) h_x0_far (fun u hu => absurd hu (Nat.not_lt_zero _)) (muUp_n hn)) (fun w5 hw5 => ?_)
  obtain ⟨a5, i5⟩ := hw5
  have z0 : (0 : Int32).toInt = 0 := by decide
  have zF : (1000000000 : Int32).toInt = 1000000000 := by decide
  have at5 : At (Ed x0_lines.toNatClampNeg x0_line x0_changes x0_coins x0_left p2) (fun u => u / 3 = p1.toNatClampNeg) w5 := by
    refine ⟨fun u hu hg => by rw [i5 u hu, if_pos hg], ?_⟩
    intro u hu hl
    by_cases hg : u / 3 = p1.toNatClampNeg
    · refine ⟨0, hg, ?_⟩
      rw [i5 u hu, if_pos hg, z0]
    · rw [i5 u hu, if_neg hg, zF] at hl
      omega
  have mu5 : faMu 1 w5 < n := by
    have := S36_n a5
    unfold faMu
    rw [if_neg (by decide)]
    omega
  refine Sf.bind (Sf.loop2 (Q := fun e => AI 0 1000000000 e ∧ At (Ed x0_lines.toNatClampNeg x0_line x0_changes x0_coins x0_left p2) (fun u => u / 3 = p1.toNatClampNeg) e ∧ (∀ l : Nat, l < x0_lines.toNatClampNeg → ∀ w : Nat, w < 3 → OKl x0_line x0_coins x0_left p2 e l w) ∧ (∀ m : Nat, m < 36 → ∀ w : Nat, w < 3 → OKc x0_changes e m w)) (fun (z7 : Int32) (z8 : Nat → Int32) => AI 0 1000000000 z8 ∧ At (Ed x0_lines.toNatClampNeg x0_line x0_changes x0_coins x0_left p2) (fun u => u / 3 = p1.toNatClampNeg) z8 ∧ (z7 = 0 → (∀ l : Nat, l < x0_lines.toNatClampNeg → ∀ w : Nat, w < 3 → OKl x0_line x0_coins x0_left p2 z8 l w) ∧ (∀ m : Nat, m < 36 → ∀ w : Nat, w < 3 → OKc x0_changes z8 m w))) (fun (z7 : Int32) (z8 : Nat → Int32) => faMu z7 z8) (fun z7 z8 hh => T_s40 hn h_x0_lines h_x0_line h_x0_coins h_x0_changes hh) (n := n) (s := (1, w5)) ⟨a5, at5, fun h => absurd h (show ¬ (1 : Int32) = 0 by decide)⟩ mu5) (fun w10 hw => ?_)
  obtain ⟨hA, hAt, hF⟩ := hw
  exact Sf.ok ⟨hA, hAt, hF, rfl⟩
theorem sX7_findFar {n : Nat} {x0_shelf x0_rowSort x0_rowSize : (Nat → Int32)} {x0_rows : (Nat → Nat → Int64)} {x0_moved : (Nat → Int64)} {x0_shown x0_tape : (Nat → Int32)} {x0_tapeSize : Int32} {x0_refused : (Nat → Int32)} {x0_lines : Int32} {x0_line : (Nat → Nat → Int32)} {x0_changes x0_coins : (Nat → Int32)} {x0_goods : Int32} {x0_good : (Nat → Nat → Int32)} {x0_works : Int32} {x0_work : (Nat → Nat → Int32)} {x0_years x0_gone x0_spent x0_at x0_token x0_from : Int32} {x0_figures : Int64} {x0_fault : Int32} {x0_numbers : (Nat → Int32)} {x0_statements : Int32} {x0_left x0_far : (Nat → Int32)} {x0_tons : Int32} {x0_way : (Nat → Int32)} {x0_steps : Int32} {x0_met : Int64} {x0_queue x0_totals : (Nat → Int32)} {p1 p2 : Int32} (hn : 1000000000000 ≤ n) (h_x0_shelf : (AI 0 2 x0_shelf)) (h_x0_rowSize : (AI 0 40 x0_rowSize)) (h_x0_tapeSize : (0 ≤ x0_tapeSize ∧ x0_tapeSize ≤ 250)) (h_x0_lines : (0 ≤ x0_lines ∧ x0_lines ≤ 20)) (h_x0_line : (LnM x0_line)) (h_x0_changes : (AI 0 99 x0_changes)) (h_x0_coins : (AI 0 9 x0_coins)) (h_x0_goods : (0 ≤ x0_goods ∧ x0_goods ≤ 8)) (h_x0_good : (GdM x0_good)) (h_x0_works : (0 ≤ x0_works ∧ x0_works ≤ 7)) (h_x0_work : (WkM x0_work)) (h_x0_years : (1 ≤ x0_years ∧ x0_years ≤ 30)) (h_x0_from : (0 ≤ x0_from ∧ x0_from ≤ 250)) (h_x0_far : (AI 0 1000000000 x0_far)) (h_x0_way : (AI 0 22 x0_way)) (h_x0_steps : (0 ≤ x0_steps ∧ x0_steps ≤ 37)) (h_x0_queue : (AI 0 35 x0_queue)) (h_p1 : (0 ≤ p1 ∧ p1 ≤ 11)) : Sf (fX7_findFar n (x0_shelf, x0_rowSort, x0_rowSize, x0_rows, x0_moved, x0_shown, x0_tape, x0_tapeSize, x0_refused, x0_lines, x0_line, x0_changes, x0_coins, x0_goods, x0_good, x0_works, x0_work, x0_years, x0_gone, x0_spent, x0_at, x0_token, x0_from, x0_figures, x0_fault, x0_numbers, x0_statements, x0_left, x0_far, x0_tons, x0_way, x0_steps, x0_met, x0_queue, x0_totals) p1 p2) (fun r => (AI 0 1000000000 r.1)) := (farS hn h_x0_shelf h_x0_rowSize h_x0_tapeSize h_x0_lines h_x0_line h_x0_changes h_x0_coins h_x0_goods h_x0_good h_x0_works h_x0_work h_x0_years h_x0_from h_x0_far h_x0_way h_x0_steps h_x0_queue h_p1).mono (fun _ h => h.1)
end
section
theorem st9 {x p : Int32} (h : 0 ≤ x ∧ x ≤ 35) (hp : 0 ≤ p ∧ p ≤ 22) (hc : ¬ 3 ≤ p) : 0 ≤ x / 3 * 3 + p ∧ x / 3 * 3 + p < 36 := by
  obtain ⟨h1, h2, _, _⟩ := dv3 h
  generalize x / 3 = y at h1 h2
  clear h
  grind
end
section
theorem TX7_least_s5 {p1 : Int32} {x0_far : (Nat → Int32)} {z2 z3 : Int32}  (h_p1 : (0 ≤ p1 ∧ p1 ≤ 11)) (h_x0_far : (AI 0 1000000000 x0_far)) (h_z3 : (0 ≤ z3)) : Sf (fX7_least_s5 p1 x0_far z2 z3) (LQ (u2 (fun z2 z3 => (0 ≤ z3))) (u2 (fun z2 z3 => muUp z3)) (muUp z3) (fun e => True)) := by
  unfold fX7_least_s5
  refine Sf.ite (fun hc1 => ?_) (fun hc1 => ?_)
  · exact Sf.inr trivial
  · have hq2 : 0 ≤ ((3 * p1) + z3) ∧ ((3 * p1) + z3) < 36 := by grind
    refine Sf.rdI 36 rfl h_x0_far hq2 (fun v6 h_v6 e_v6 => ?_)
    refine Sf.ite (fun hc3 => ?_) (fun hc3 => ?_)
    · exact Sf.inl (show (0 ≤ (z3 + 1)) from (by grind)) (muUp_lt hc1)
    · refine Sf.rdI 36 rfl h_x0_far hq2 (fun v7 h_v7 e_v7 => ?_)
      have hs4 : v7 = v6 := e_v7.trans e_v6.symm
      clear e_v7
      exact Sf.inl (show (0 ≤ (z3 + 1)) from (by grind)) (muUp_lt hc1)
theorem LX7_least_s5 {n : Nat} {p1 : Int32} {x0_far : (Nat → Int32)} {z2 z3 : Int32} (hn : 1000000000000 ≤ n) (h_p1 : (0 ≤ p1 ∧ p1 ≤ 11)) (h_x0_far : (AI 0 1000000000 x0_far)) (h_z3 : (0 ≤ z3)) : Sf (lp (u2 (fX7_least_s5 p1 x0_far)) n (z2, z3)) (fun e => True) :=
  Sf.loop2 (fun z2 z3 => (0 ≤ z3)) (fun z2 z3 => muUp z3) (fun z2 z3 h => TX7_least_s5 h_p1 h_x0_far h) h_z3 (muUp_n hn)
set_option maxHeartbeats 1000000 in
theorem sX7_least {n : Nat} {x0_shelf x0_rowSort x0_rowSize : (Nat → Int32)} {x0_rows : (Nat → Nat → Int64)} {x0_moved : (Nat → Int64)} {x0_shown x0_tape : (Nat → Int32)} {x0_tapeSize : Int32} {x0_refused : (Nat → Int32)} {x0_lines : Int32} {x0_line : (Nat → Nat → Int32)} {x0_changes x0_coins : (Nat → Int32)} {x0_goods : Int32} {x0_good : (Nat → Nat → Int32)} {x0_works : Int32} {x0_work : (Nat → Nat → Int32)} {x0_years x0_gone x0_spent x0_at x0_token x0_from : Int32} {x0_figures : Int64} {x0_fault : Int32} {x0_numbers : (Nat → Int32)} {x0_statements : Int32} {x0_left x0_far : (Nat → Int32)} {x0_tons : Int32} {x0_way : (Nat → Int32)} {x0_steps : Int32} {x0_met : Int64} {x0_queue x0_totals : (Nat → Int32)} {p1 : Int32} (hn : 1000000000000 ≤ n) (h_x0_shelf : (AI 0 2 x0_shelf)) (h_x0_rowSize : (AI 0 40 x0_rowSize)) (h_x0_tapeSize : (0 ≤ x0_tapeSize ∧ x0_tapeSize ≤ 250)) (h_x0_lines : (0 ≤ x0_lines ∧ x0_lines ≤ 20)) (h_x0_line : (LnM x0_line)) (h_x0_changes : (AI 0 99 x0_changes)) (h_x0_coins : (AI 0 9 x0_coins)) (h_x0_goods : (0 ≤ x0_goods ∧ x0_goods ≤ 8)) (h_x0_good : (GdM x0_good)) (h_x0_works : (0 ≤ x0_works ∧ x0_works ≤ 7)) (h_x0_work : (WkM x0_work)) (h_x0_years : (1 ≤ x0_years ∧ x0_years ≤ 30)) (h_x0_from : (0 ≤ x0_from ∧ x0_from ≤ 250)) (h_x0_far : (AI 0 1000000000 x0_far)) (h_x0_way : (AI 0 22 x0_way)) (h_x0_steps : (0 ≤ x0_steps ∧ x0_steps ≤ 37)) (h_x0_queue : (AI 0 35 x0_queue)) (h_p1 : (0 ≤ p1 ∧ p1 ≤ 11)) : Sf (fX7_least n (x0_shelf, x0_rowSort, x0_rowSize, x0_rows, x0_moved, x0_shown, x0_tape, x0_tapeSize, x0_refused, x0_lines, x0_line, x0_changes, x0_coins, x0_goods, x0_good, x0_works, x0_work, x0_years, x0_gone, x0_spent, x0_at, x0_token, x0_from, x0_figures, x0_fault, x0_numbers, x0_statements, x0_left, x0_far, x0_tons, x0_way, x0_steps, x0_met, x0_queue, x0_totals) p1) (fun r => True) := by
  unfold fX7_least
  dsimp only [u35]
  refine Sf.bind (LX7_least_s5 hn h_p1 h_x0_far (by decide)) ?_
  intro w5 hr1
  exact Sf.ok trivial
set_option maxHeartbeats 1000000 in
theorem sX7_stepTo {x0_shelf x0_rowSort x0_rowSize : (Nat → Int32)} {x0_rows : (Nat → Nat → Int64)} {x0_moved : (Nat → Int64)} {x0_shown x0_tape : (Nat → Int32)} {x0_tapeSize : Int32} {x0_refused : (Nat → Int32)} {x0_lines : Int32} {x0_line : (Nat → Nat → Int32)} {x0_changes x0_coins : (Nat → Int32)} {x0_goods : Int32} {x0_good : (Nat → Nat → Int32)} {x0_works : Int32} {x0_work : (Nat → Nat → Int32)} {x0_years x0_gone x0_spent x0_at x0_token x0_from : Int32} {x0_figures : Int64} {x0_fault : Int32} {x0_numbers : (Nat → Int32)} {x0_statements : Int32} {x0_left x0_far : (Nat → Int32)} {x0_tons : Int32} {x0_way : (Nat → Int32)} {x0_steps : Int32} {x0_met : Int64} {x0_queue x0_totals : (Nat → Int32)} {p1 p2 : Int32}  (h_x0_shelf : (AI 0 2 x0_shelf)) (h_x0_rowSize : (AI 0 40 x0_rowSize)) (h_x0_tapeSize : (0 ≤ x0_tapeSize ∧ x0_tapeSize ≤ 250)) (h_x0_lines : (0 ≤ x0_lines ∧ x0_lines ≤ 20)) (h_x0_line : (LnM x0_line)) (h_x0_changes : (AI 0 99 x0_changes)) (h_x0_coins : (AI 0 9 x0_coins)) (h_x0_goods : (0 ≤ x0_goods ∧ x0_goods ≤ 8)) (h_x0_good : (GdM x0_good)) (h_x0_works : (0 ≤ x0_works ∧ x0_works ≤ 7)) (h_x0_work : (WkM x0_work)) (h_x0_years : (1 ≤ x0_years ∧ x0_years ≤ 30)) (h_x0_from : (0 ≤ x0_from ∧ x0_from ≤ 250)) (h_x0_far : (AI 0 1000000000 x0_far)) (h_x0_way : (AI 0 22 x0_way)) (h_x0_steps : (0 ≤ x0_steps ∧ x0_steps ≤ 37)) (h_x0_queue : (AI 0 35 x0_queue)) (h_p1 : (0 ≤ p1 ∧ p1 ≤ 35)) (h_p2 : (0 ≤ p2 ∧ p2 ≤ 22)) : Sf (fX7_stepTo (x0_shelf, x0_rowSort, x0_rowSize, x0_rows, x0_moved, x0_shown, x0_tape, x0_tapeSize, x0_refused, x0_lines, x0_line, x0_changes, x0_coins, x0_goods, x0_good, x0_works, x0_work, x0_years, x0_gone, x0_spent, x0_at, x0_token, x0_from, x0_figures, x0_fault, x0_numbers, x0_statements, x0_left, x0_far, x0_tons, x0_way, x0_steps, x0_met, x0_queue, x0_totals) p1 p2) (fun r => ((-1) ≤ r ∧ r ≤ 35)) := by
  unfold fX7_stepTo
  dsimp only [u35]
  refine Sf.ite (fun hc1 => ?_) (fun hc1 => ?_)
  · refine Sf.bind (sX7_bears h_x0_shelf h_x0_rowSize h_x0_tapeSize h_x0_lines h_x0_line h_x0_changes h_x0_coins h_x0_goods h_x0_good h_x0_works h_x0_work h_x0_years h_x0_from h_x0_far h_x0_way h_x0_steps h_x0_queue (by grind)) ?_
    intro v1 hr2
    have h_v1 : (0 ≤ v1 ∧ v1 ≤ 1) := hr2
    refine Sf.ite (fun hc3 => ?_) (fun hc3 => ?_)
    · exact Sf.ok (show ((-1) ≤ (-1) ∧ (-1) ≤ 35) from (by decide))
    · have hq4 : 0 ≤ (p2 - 3) ∧ (p2 - 3) < 20 := by grind
      refine Sf.ckb 20 rfl hq4 (fun q3 e_q3 h_q3 => ?_)
      refine Sf.rdl 0 rfl rfl (fun v4 e_v4 => ?_)
      have h_v4 : 0 ≤ v4 ∧ v4 ≤ 11 := by rw [e_v4]; exact (h_x0_line q3) 0
      clear e_v4
      have hd6 := dv3 (x := p1) (by grind)
      refine Sf.ite (fun hc5 => ?_) (fun hc5 => ?_)
      · unfold fX7_stepTo_j102
        refine Sf.ckb 20 rfl hq4 (fun q5 e_q5 h_q5 => ?_)
        refine Sf.rdl 0 rfl rfl (fun v6 e_v6 => ?_)
        have h_v6 : 0 ≤ v6 ∧ v6 ≤ 11 := by rw [e_v6]; exact (h_x0_line q5) 0
        clear e_v6
        have hd8 := dv3 (x := p1) (by grind)
        refine Sf.ite (fun hc7 => ?_) (fun hc7 => ?_)
        · refine Sf.ckb 20 rfl hq4 (fun q16 e_q16 h_q16 => ?_)
          refine Sf.rdl 1 rfl rfl (fun v17 e_v17 => ?_)
          have h_v17 : 0 ≤ v17 ∧ v17 ≤ 11 := by rw [e_v17]; exact (h_x0_line q16) 1
          clear e_v17
          unfold fX7_stepTo_j139
          refine Sf.someb (fun t8 e_t8 => ?_)
          have h_t8 : 0 ≤ t8 ∧ t8 ≤ 35 := by rw [e_t8]; exact st8 (by first | assumption | grind) h_p1
          clear e_t8
          refine Sf.rdI 36 rfl h_x0_far (by grind) (fun v9 h_v9 e_v9 => ?_)
          clear e_v9
          refine Sf.ckb 20 rfl hq4 (fun q10 e_q10 h_q10 => ?_)
          refine Sf.rdl 3 rfl rfl (fun v11 e_v11 => ?_)
          have h_v11 : 0 ≤ v11 ∧ v11 ≤ 60 := by rw [e_v11]; exact (h_x0_line q10) 3
          clear e_v11
          have hq9 : 0 ≤ (p1 - ((p1 / 3) * 3)) ∧ (p1 - ((p1 / 3) * 3)) < 3 := md3 h_p1
          refine Sf.rdI 3 rfl h_x0_coins hq9 (fun v12 h_v12 e_v12 => ?_)
          clear e_v12
          refine Sf.rdI 36 rfl h_x0_far (by grind) (fun v13 h_v13 e_v13 => ?_)
          clear e_v13
          refine Sf.ite (fun hc10 => ?_) (fun hc10 => ?_)
          · exact Sf.ok (show ((-1) ≤ t8 ∧ t8 ≤ 35) from (by grind))
          · exact Sf.ok (show ((-1) ≤ (-1) ∧ (-1) ≤ 35) from (by decide))
        · refine Sf.ckb 20 rfl hq4 (fun q14 e_q14 h_q14 => ?_)
          refine Sf.rdl 0 rfl rfl (fun v15 e_v15 => ?_)
          have h_v15 : 0 ≤ v15 ∧ v15 ≤ 11 := by rw [e_v15]; exact (h_x0_line q14) 0
          clear e_v15
          unfold fX7_stepTo_j139
          refine Sf.someb (fun t8 e_t8 => ?_)
          have h_t8 : 0 ≤ t8 ∧ t8 ≤ 35 := by rw [e_t8]; exact st8 (by first | assumption | grind) h_p1
          clear e_t8
          refine Sf.rdI 36 rfl h_x0_far (by grind) (fun v9 h_v9 e_v9 => ?_)
          clear e_v9
          refine Sf.ckb 20 rfl hq4 (fun q10 e_q10 h_q10 => ?_)
          refine Sf.rdl 3 rfl rfl (fun v11 e_v11 => ?_)
          have h_v11 : 0 ≤ v11 ∧ v11 ≤ 60 := by rw [e_v11]; exact (h_x0_line q10) 3
          clear e_v11
          have hq11 : 0 ≤ (p1 - ((p1 / 3) * 3)) ∧ (p1 - ((p1 / 3) * 3)) < 3 := md3 h_p1
          refine Sf.rdI 3 rfl h_x0_coins hq11 (fun v12 h_v12 e_v12 => ?_)
          clear e_v12
          refine Sf.rdI 36 rfl h_x0_far (by grind) (fun v13 h_v13 e_v13 => ?_)
          clear e_v13
          refine Sf.ite (fun hc12 => ?_) (fun hc12 => ?_)
          · exact Sf.ok (show ((-1) ≤ t8 ∧ t8 ≤ 35) from (by grind))
          · exact Sf.ok (show ((-1) ≤ (-1) ∧ (-1) ≤ 35) from (by decide))
      · refine Sf.ckb 20 rfl hq4 (fun q18 e_q18 h_q18 => ?_)
        refine Sf.rdl 1 rfl rfl (fun v19 e_v19 => ?_)
        have h_v19 : 0 ≤ v19 ∧ v19 ≤ 11 := by rw [e_v19]; exact (h_x0_line q18) 1
        clear e_v19
        have hd14 := dv3 (x := p1) (by grind)
        refine Sf.ite (fun hc13 => ?_) (fun hc13 => ?_)
        · unfold fX7_stepTo_j102
          refine Sf.ckb 20 rfl hq4 (fun q5 e_q5 h_q5 => ?_)
          refine Sf.rdl 0 rfl rfl (fun v6 e_v6 => ?_)
          have h_v6 : 0 ≤ v6 ∧ v6 ≤ 11 := by rw [e_v6]; exact (h_x0_line q5) 0
          clear e_v6
          have hd16 := dv3 (x := p1) (by grind)
          refine Sf.ite (fun hc15 => ?_) (fun hc15 => ?_)
          · refine Sf.ckb 20 rfl hq4 (fun q16 e_q16 h_q16 => ?_)
            refine Sf.rdl 1 rfl rfl (fun v17 e_v17 => ?_)
            have h_v17 : 0 ≤ v17 ∧ v17 ≤ 11 := by rw [e_v17]; exact (h_x0_line q16) 1
            clear e_v17
            unfold fX7_stepTo_j139
            refine Sf.someb (fun t8 e_t8 => ?_)
            have h_t8 : 0 ≤ t8 ∧ t8 ≤ 35 := by rw [e_t8]; exact st8 (by first | assumption | grind) h_p1
            clear e_t8
            refine Sf.rdI 36 rfl h_x0_far (by grind) (fun v9 h_v9 e_v9 => ?_)
            clear e_v9
            refine Sf.ckb 20 rfl hq4 (fun q10 e_q10 h_q10 => ?_)
            refine Sf.rdl 3 rfl rfl (fun v11 e_v11 => ?_)
            have h_v11 : 0 ≤ v11 ∧ v11 ≤ 60 := by rw [e_v11]; exact (h_x0_line q10) 3
            clear e_v11
            have hq17 : 0 ≤ (p1 - ((p1 / 3) * 3)) ∧ (p1 - ((p1 / 3) * 3)) < 3 := md3 h_p1
            refine Sf.rdI 3 rfl h_x0_coins hq17 (fun v12 h_v12 e_v12 => ?_)
            clear e_v12
            refine Sf.rdI 36 rfl h_x0_far (by grind) (fun v13 h_v13 e_v13 => ?_)
            clear e_v13
            refine Sf.ite (fun hc18 => ?_) (fun hc18 => ?_)
            · exact Sf.ok (show ((-1) ≤ t8 ∧ t8 ≤ 35) from (by grind))
            · exact Sf.ok (show ((-1) ≤ (-1) ∧ (-1) ≤ 35) from (by decide))
          · refine Sf.ckb 20 rfl hq4 (fun q14 e_q14 h_q14 => ?_)
            refine Sf.rdl 0 rfl rfl (fun v15 e_v15 => ?_)
            have h_v15 : 0 ≤ v15 ∧ v15 ≤ 11 := by rw [e_v15]; exact (h_x0_line q14) 0
            clear e_v15
            unfold fX7_stepTo_j139
            refine Sf.someb (fun t8 e_t8 => ?_)
            have h_t8 : 0 ≤ t8 ∧ t8 ≤ 35 := by rw [e_t8]; exact st8 (by first | assumption | grind) h_p1
            clear e_t8
            refine Sf.rdI 36 rfl h_x0_far (by grind) (fun v9 h_v9 e_v9 => ?_)
            clear e_v9
            refine Sf.ckb 20 rfl hq4 (fun q10 e_q10 h_q10 => ?_)
            refine Sf.rdl 3 rfl rfl (fun v11 e_v11 => ?_)
            have h_v11 : 0 ≤ v11 ∧ v11 ≤ 60 := by rw [e_v11]; exact (h_x0_line q10) 3
            clear e_v11
            have hq19 : 0 ≤ (p1 - ((p1 / 3) * 3)) ∧ (p1 - ((p1 / 3) * 3)) < 3 := md3 h_p1
            refine Sf.rdI 3 rfl h_x0_coins hq19 (fun v12 h_v12 e_v12 => ?_)
            clear e_v12
            refine Sf.rdI 36 rfl h_x0_far (by grind) (fun v13 h_v13 e_v13 => ?_)
            clear e_v13
            refine Sf.ite (fun hc20 => ?_) (fun hc20 => ?_)
            · exact Sf.ok (show ((-1) ≤ t8 ∧ t8 ≤ 35) from (by grind))
            · exact Sf.ok (show ((-1) ≤ (-1) ∧ (-1) ≤ 35) from (by decide))
        · exact Sf.ok (show ((-1) ≤ (-1) ∧ (-1) ≤ 35) from (by decide))
  · have hd22 := dv3 (x := p1) (by grind)
    refine Sf.ite (fun hc21 => ?_) (fun hc21 => ?_)
    · clear hc21
      exact Sf.ok (show ((-1) ≤ (-1) ∧ (-1) ≤ 35) from (by decide))
    · clear hc21
      have hq23 : 0 ≤ (((p1 / 3) * 3) + p2) ∧ (((p1 / 3) * 3) + p2) < 36 := st9 h_p1 h_p2 (by assumption)
      refine Sf.rdI 36 rfl h_x0_far hq23 (fun v20 h_v20 e_v20 => ?_)
      clear e_v20
      have hd24 := dv3 (x := p1) (by grind)
      have hq25 : 0 ≤ (p1 / 3) ∧ (p1 / 3) < 12 := by grind
      refine Sf.rdI 12 rfl h_x0_changes hq25 (fun v21 h_v21 e_v21 => ?_)
      clear e_v21
      refine Sf.rdI 36 rfl h_x0_far (by grind) (fun v22 h_v22 e_v22 => ?_)
      clear e_v22
      refine Sf.ite (fun hc26 => ?_) (fun hc26 => ?_)
      · have hd27 := dv3 (x := p1) (by grind)
        exact Sf.ok (show ((-1) ≤ (((p1 / 3) * 3) + p2) ∧ (((p1 / 3) * 3) + p2) ≤ 35) from (by grind))
      · exact Sf.ok (show ((-1) ≤ (-1) ∧ (-1) ≤ 35) from (by decide))
end

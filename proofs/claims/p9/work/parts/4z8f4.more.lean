theorem nl9 {l : Int32} (h : 0 ≤ l ∧ l ≤ 20) : 9 + l ≤ 29 := by grind
theorem sh7 {w : Int32} (h : 0 ≤ w ∧ w ≤ 7) : 1 ≤ (1 : Int32) <<< (w &&& 31) ∧ (1 : Int32) <<< (w &&& 31) ≤ 128 := by
  have : w = 0 ∨ w = 1 ∨ w = 2 ∨ w = 3 ∨ w = 4 ∨ w = 5 ∨ w = 6 ∨ w = 7 := by grind
  rcases this with rfl | rfl | rfl | rfl | rfl | rfl | rfl | rfl <;> decide
theorem or7 {a b : Int32} (h : 0 ≤ a ∧ a < 128) (h2 : 0 ≤ b ∧ b ≤ 6) : 0 ≤ a ||| ((1 : Int32) <<< (b &&& 31)) ∧ a ||| ((1 : Int32) <<< (b &&& 31)) < 128 := by
  have key : ∀ (i : Fin 128) (j : Fin 7), 0 ≤ (Int32.ofNat i.1) ||| ((1 : Int32) <<< ((Int32.ofNat j.1) &&& 31)) ∧ (Int32.ofNat i.1) ||| ((1 : Int32) <<< ((Int32.ofNat j.1) &&& 31)) < 128 := by decide +kernel
  have ea : a = Int32.ofNat a.toNatClampNeg := (Int32.ofNat_toNatClampNeg a h.1).symm
  have eb : b = Int32.ofNat b.toNatClampNeg := (Int32.ofNat_toNatClampNeg b h2.1).symm
  have la : a.toNatClampNeg < 128 := i32_lt (M := 128) rfl h
  have lb : b.toNatClampNeg < 7 := i32_lt (M := 7) rfl (by grind)
  rw [ea, eb]
  exact key ⟨_, la⟩ ⟨_, lb⟩
theorem pl_ix {x : Int64} {v w : Int32} {X : Prop} (h : (v = 1 ∧ (0 : Int64) ≤ x ∧ x ≤ (w - 1).toInt64) ∨ (v = 0 ∧ X)) (hv : ¬ v = 0) (hw : 0 ≤ w ∧ w ≤ 7) : 0 ≤ x.toInt32 ∧ x.toInt32 ≤ 6 := by
  rcases h with ⟨_, h1, h2⟩ | ⟨h, _⟩
  · have e : (0 : Int32).toInt64 = 0 := rfl
    rw [← e] at h1
    have := i64_rng h1 h2
    have h3 : w - 1 ≤ 6 := by clear this h1 h2; grind
    exact ⟨this.1, Int32.le_trans this.2 h3⟩
  · exact absurd h hv
def guU (w : Nat → Nat → Int32) : Nat := ((List.range 7).map (fun q => if w q 4 = 0 then 1 else 0)).sum
theorem sum_lt {f g : Nat → Nat} {q : Nat} : ∀ (l : List Nat), q ∈ l → (∀ k, k ∈ l → g k ≤ f k) → g q < f q → (l.map g).sum < (l.map f).sum := by
  intro l
  induction l with
  | nil => intro h; cases h
  | cons a t ih =>
    intro hq hle hlt
    simp only [List.map_cons, List.sum_cons]
    have hle' : ∀ l : List Nat, (∀ k, k ∈ l → g k ≤ f k) → (l.map g).sum ≤ (l.map f).sum := by
      intro l
      induction l with
      | nil => intro _; exact Nat.le_refl _
      | cons b u ih2 =>
        intro h
        simp only [List.map_cons, List.sum_cons]
        have h1 := h b (List.mem_cons_self ..)
        have h2 := ih2 (fun k hk => h k (List.mem_cons_of_mem _ hk))
        omega
    rcases List.mem_cons.mp hq with rfl | hq
    · have := hle' t (fun k hk => hle k (List.mem_cons_of_mem _ hk))
      omega
    · have h1 := ih hq (fun k hk => hle k (List.mem_cons_of_mem _ hk)) hlt
      have h2 := hle a (List.mem_cons_self ..)
      omega
theorem guU_lt {w : Nat → Nat → Int32} {q : Nat} (hq : q < 7) (h : w q 4 = 0) : guU (va_up w q (va_up (w q) 4 1)) < guU w := by
  refine sum_lt (q := q) _ (List.mem_range.mpr hq) (fun k _ => ?_) ?_
  · show (if va_up w q (va_up (w q) 4 1) k 4 = 0 then 1 else 0) ≤ (if w k 4 = 0 then 1 else 0)
    by_cases hk : k = q
    · subst hk
      rw [va_up_self, va_up_self, if_neg (by decide)]
      exact Nat.zero_le _
    · rw [va_up_ne _ _ hk]
      exact Nat.le_refl _
  · show (if va_up w q (va_up (w q) 4 1) q 4 = 0 then 1 else 0) < (if w q 4 = 0 then 1 else 0)
    rw [va_up_self, va_up_self, if_neg (by decide), if_pos h]
    decide
theorem guU_n {w : Nat → Nat → Int32} {n : Nat} (hn : 1000000000000 ≤ n) : guU w < n := by
  have key : ∀ l : List Nat, (l.map (fun q => if w q 4 = 0 then 1 else 0)).sum ≤ l.length := by
    intro l
    induction l with
    | nil => exact Nat.le_refl _
    | cons a t ih =>
      simp only [List.map_cons, List.sum_cons, List.length_cons]
      by_cases h : w a 4 = 0
      · rw [if_pos h]; omega
      · rw [if_neg h]; omega
  have h7 := key (List.range 7)
  have e : (List.range 7).length = 7 := List.length_range
  rw [e] at h7
  unfold guU
  omega
